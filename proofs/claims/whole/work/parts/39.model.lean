/-! ===== the reference: a node ===== -/
theorem s6_takeV {d : Nat} {h : AH} {R : RP} {P : Prop} {v : Int} (hv : v = bi P) {q : Nat} {n rd fi co ah se ps fa fl ch : Int} {hx : Int64} {T : TX} (c0 : h.2 q = some (mobj q n rd fi co ah se T.1 ps fa fl ch hx)) (c6 : h.2 (q + 6) = some (kA 0 100 T.2)) (hT : txI T) (hp : 0 ≤ ps) (hp2 : ps ≤ T.1) (hfit : P → tc T ps ≠ -1) (k : ∀ h' ps' fa', h'.2 q = some (mobj q n rd fi co ah se T.1 ps' fa' fl ch hx) → 0 ≤ ps' → ps' ≤ T.1 → (fa = -11 → (P → fa' = -11 ∧ ps' = sk T (ps + 1)) ∧ (¬ P → fa' = ps ∧ ps' = ps)) → (fa ≠ -11 → fa' = fa) → Fr h h' q 1 → R (some (vI (tc T ps))) h') : AM m6_take (d + 2) h [vR q, vI v] R := by
  subst hv
  exact s6_take c0 c6 hT hp hp2 hfit k
theorem osR_sk {T : TX} (hT : txI T) (n : Nat) {a : Int} (h : 0 ≤ a) : osR T n (sk T a) = osR T n a := by
  cases n <;> simp only [osR, sk_sk hT h]
/-- a row of the array holds a node -/
def rowIs (B : Int → Int) (p : Int) (k : Int) (ns : List Int) (os : List (Int × Int × Int)) : Prop := B p = k ∧ (k ≠ 6 → B (p + 1) = ns.getD 0 (-11) ∧ B (p + 2) = ns.getD 1 (-11) ∧ B (p + 3) = ns.getD 2 (-11)) ∧ (k = 6 → B (p + 1) = (os.length : Nat) ∧ B (p + 2) = -11 ∧ B (p + 3) = -11 ∧ oRep B p os)
theorem rowI {B : Int → Int} {p k a b c : Int} {ns : List Int} {os : List (Int × Int × Int)} (hk : k ≠ 6) (e : ns.getD 0 (-11) = a ∧ ns.getD 1 (-11) = b ∧ ns.getD 2 (-11) = c) (h0 : B p = k) (h1 : B (p + 1) = a) (h2 : B (p + 2) = b) (h3 : B (p + 3) = c) : rowIs B p k ns os :=
  ⟨h0, fun _ => ⟨h1.trans e.1.symm, h2.trans e.2.1.symm, h3.trans e.2.2.symm⟩, fun z => absurd z hk⟩
theorem rowI6 {B : Int → Int} {p : Int} {ns : List Int} {os : List (Int × Int × Int)} (h0 : B p = 6) (h1 : B (p + 1) = (os.length : Nat)) (h2 : B (p + 2) = -11) (h3 : B (p + 3) = -11) (h4 : oRep B p os) : rowIs B p 6 ns os :=
  ⟨h0, fun z => absurd rfl z, fun _ => ⟨h1, h2, h3, h4⟩⟩
theorem rowIs_congr {B B' : Int → Int} {p k : Int} {ns : List Int} {os : List (Int × Int × Int)} (h : rowIs B p k ns os) (hl : os.length ≤ 4) (e : ∀ j, p ≤ j → j < p + 12 → B' j = B j) : rowIs B' p k ns os := by
  obtain ⟨h0, h1, h2⟩ := h
  refine ⟨by rw [e _ (by omega) (by omega)]; exact h0, fun z => ?_, fun z => ?_⟩
  · rw [e _ (by omega) (by omega), e _ (by omega) (by omega), e _ (by omega) (by omega)]; exact h1 z
  · obtain ⟨a, b, c, f⟩ := h2 z
    rw [e _ (by omega) (by omega), e _ (by omega) (by omega), e _ (by omega) (by omega)]
    exact ⟨a, b, c, oRep_congr f (fun j u v => e _ (by omega) (by omega))⟩
theorem osR_ss {T : TX} (hT : txI T) : ∀ {n : Nat} {a : Int}, 0 ≤ a → a ≤ T.1 → (osR T n a).1 → sk T (osR T n a).2.1 = (osR T n a).2.1 := by
  intro n
  induction n with
  | zero => intro a _ _ h; exact absurd h (fun z => z)
  | succ n ih =>
    intro a ha hb h
    have hs := sk_le (T := T) a
    have hs2 := sk_len hb
    by_cases u : opOk T (sk T a)
    · by_cases v : tc T (sk T (opAt T (sk T a))) = 44
      · have hl := tc_lt (T := T) (p := sk T (opAt T (sk T a))) (by omega)
        have e : osR T (n + 1) a = _ := (pif_t u).trans (pif_t v)
        rw [e] at h ⊢
        exact ih (by omega) (by omega) h
      · have e : osR T (n + 1) a = _ := (pif_t u).trans (pif_f v)
        rw [e]
        have := opAt_le (T := T) hs2
        exact sk_sk hT (by omega)
    · have e : osR T (n + 1) a = _ := pif_f u
      rw [e] at h
      exact absurd h (fun z => z)
set_option maxRecDepth 100000 in
set_option maxHeartbeats 4000000 in
theorem s6_readsNode {d : Nat} {h : AH} {R : RP} {B0 : Int → Int} {q : Nat} {n rd fi co ah se ps fl ch : Int} {hx : Int64} {T : TX} (c0 : h.2 q = some (mobj q n rd fi co ah se T.1 ps (-11) fl ch hx)) (c6 : h.2 (q + 6) = some (kA 0 100 T.2)) (hT : txI T) (hp : 0 ≤ ps) (hp2 : ps ≤ T.1) (hsk : sk T ps = ps) (c2 : h.2 (q + 2) = some (kA 0 348 B0)) (hr0 : 0 ≤ rd) (hr1 : rd ≤ 29) (k : ∀ h' ps' fa' rd' B', h'.2 q = some (mobj q n rd' fi co ah se T.1 ps' fa' fl ch hx) → h'.2 (q + 2) = some (kA 0 348 B') → 0 ≤ ps' → ps' ≤ T.1 → (0 ≤ rd' ∧ rd' ≤ 29) → ((rd < 29 ∧ ndOk T ps ∧ tc T (sk T (ndAt T ps)) = 59) → fa' = -11 ∧ rd' = rd + 1 ∧ ps' = sk T (sk T (ndAt T ps) + 1) ∧ rowIs B' (12 * rd) (kIdx (tc T ps)) (ndN T ps) (ndO T ps)) → (¬ (rd < 29 ∧ ndOk T ps ∧ tc T (sk T (ndAt T ps)) = 59) → fa' = pif (rd = 29) ps (pif (ndOk T ps) (sk T (ndAt T ps)) (ndAt T ps))) → (∀ j, ¬ (12 * rd ≤ j ∧ j < 12 * rd + 12) → B' j = B0 j) → Fr2 h h' q 1 (q + 2) 1 → R none h') : AM m6_readsNode (d + 4) h [vR q] R := by
  refine AM.of (L := [some (vR q), none, none, none]) ok_6_readsNode (by decide) (fun G => Nat.le_of_ble_eq_true rfl) rfl ?_
  have hkr := kIdx_rng (tc T ps)
  have hkm : rKind (tc T ps) = -11 → kIdx (tc T ps) = -1 := fun z => by unfold rKind at z; split at z <;> omega
  have hkp : rKind (tc T ps) ≠ -11 → rKind (tc T ps) = kIdx (tc T ps) ∧ kIdx (tc T ps) ≠ -1 := fun z => by unfold rKind at z ⊢; split at z <;> rename_i y <;> simp_all
  have htr := tc_rng hT ps
  have g32 : rd < 29 → kIdx (tc T ps) ≠ -1 → rKind (tc T ps) = kIdx (tc T ps) → ∀ x2 x3, AW m6_readsNode (d + 4) (mC m6_readsNode, mS m6_readsNode) 32 [some (vR q), some (vI (rKind (tc T ps))), x2, x3] [] h R := by
    intro hr2 hkn hke x2 x3
    rw [hke]
    have tail : ∀ (ps2 fa2 : Int) (A2 : Int → Int) (h1 : AH) (c0 : h1.2 q = some (mobj q n rd fi co ah se T.1 ps2 fa2 fl ch hx)) (c2 : h1.2 (q + 2) = some (kA 0 348 A2)) (c6 : h1.2 (q + 6) = some (kA 0 100 T.2)) (hb0 : 0 ≤ ps2) (hb1 : ps2 ≤ T.1) (hF : Fr2 h h1 q 1 (q + 2) 1) (hok : ndOk T ps → fa2 = -11 ∧ ps2 = sk T (ndAt T ps) ∧ rowIs A2 (12 * rd) (kIdx (tc T ps)) (ndN T ps) (ndO T ps)) (hno : ¬ ndOk T ps → fa2 = ndAt T ps) (hA3 : ∀ j, ¬ (12 * rd ≤ j ∧ j < 12 * rd + 12) → A2 j = B0 j), AW m6_readsNode (d + 4) (mC m6_readsNode, mS m6_readsNode) 335 [some (vR q), some (vI (kIdx (tc T ps))), some (vI (12 * rd)), some (vI 12)] [] h1 R := by
      intro ps2 fa2  A2  h1  c0 c2 c6 hb0 hb1 hF hok hno hA3
      have htr2 := tc_rng hT ps2
      have hna := ndAt_le (T := T) hp hp2
      refine A.al4_0 d6_readsNode_335 ?_
      refine A.al4_0 d6_readsNode_336 ?_
      refine A.v0 d6_readsNode_337 (s6_next c0 c6 hT (by omega) (kS ?_)) (hc := c0)
      refine A.bipush d6_readsNode_340 ?_
      refine A.ic_ne d6_readsNode_342 (fun c342 => ?_) (fun c342 => ?_)
      · refine A.iconst d6_readsNode_349 ?_
        refine A.v1 d6_readsNode_350 (s6_takeV (P := tc T ps2 = 59) (by first | exact (bi_t (by omega)).symm | exact (bi_f (by omega)).symm) c0 c6 hT hb0 hb1 (fun z => by omega) (fun h350 ps3 fa3 e350 b350 d350 i350 j350 f350 => kS ?_)) (hc := c0)
        have c2 := f350.get c2 (by omega)
        have c6 := f350.get c6 (by omega)
        have c0 := e350
        
        refine A.pop d6_readsNode_353 ?_
        refine A.al4_0 d6_readsNode_354 ?_
        refine A.dup d6_readsNode_355 ?_
        refine A.getf d6_readsNode_356 ?_ (hc := c0)
        refine A.iconst d6_readsNode_359 ?_
        refine A.iadd d6_readsNode_360 ?_
        refine A.putf d6_readsNode_361 (fun h361 e361 f361 => ?_) (hc := c0) (hk := blt_ok rfl)
        first | (have c0 := (f361.2 _ (by omega)).trans c0) | (have c0 := e361)
        first | (have c2 := (f361.2 _ (by omega)).trans c2) | (have c2 := e361)
        first | (have c6 := (f361.2 _ (by omega)).trans c6) | (have c6 := e361)
        refine A.vret d6_readsNode_364 ?_
        have C0 := c0
        have C2 := c2
        by_cases u : ndOk T ps
        · obtain ⟨rfl, rfl, u3⟩ := hok u
          have i350 := i350 rfl
          by_cases v : tc T (sk T (ndAt T ps)) = 59
          · obtain ⟨rfl, rfl⟩ := i350.1 v
            exact k _ _ _ _ _ C0 C2 b350 d350 (by omega) (fun _ => ⟨rfl, rfl, rfl, u3⟩) (fun z => absurd ⟨by omega, u, v⟩ z) hA3 ((hF.trans (f350.two1 (by omega) (by omega))).trans (f361.two1 (by omega) (by omega)))
          · have z := (i350.2 v).1
            exact k _ _ _ _ _ C0 C2 b350 d350 (by omega) (fun y => absurd y.2.2 v) (fun _ => by rw [z, pif_f (by omega), pif_t u]) hA3 ((hF.trans (f350.two1 (by omega) (by omega))).trans (f361.two1 (by omega) (by omega)))
        · have z := hno u
          have z2 := j350 (by omega)
          exact k _ _ _ _ _ C0 C2 b350 d350 (by omega) (fun y => absurd y.2.1 u) (fun _ => by rw [z2, z, pif_f (by omega), pif_f u]) hA3 ((hF.trans (f350.two1 (by omega) (by omega))).trans (f361.two1 (by omega) (by omega)))
      · refine A.iconst d6_readsNode_345 ?_
        refine A.goto d6_readsNode_346 ?_
        refine A.v1 d6_readsNode_350 (s6_takeV (P := tc T ps2 = 59) (by first | exact (bi_t (by omega)).symm | exact (bi_f (by omega)).symm) c0 c6 hT hb0 hb1 (fun z => by omega) (fun h350 ps3 fa3 e350 b350 d350 i350 j350 f350 => kS ?_)) (hc := c0)
        have c2 := f350.get c2 (by omega)
        have c6 := f350.get c6 (by omega)
        have c0 := e350
        
        refine A.pop d6_readsNode_353 ?_
        refine A.al4_0 d6_readsNode_354 ?_
        refine A.dup d6_readsNode_355 ?_
        refine A.getf d6_readsNode_356 ?_ (hc := c0)
        refine A.iconst d6_readsNode_359 ?_
        refine A.iadd d6_readsNode_360 ?_
        refine A.putf d6_readsNode_361 (fun h361 e361 f361 => ?_) (hc := c0) (hk := blt_ok rfl)
        first | (have c0 := (f361.2 _ (by omega)).trans c0) | (have c0 := e361)
        first | (have c2 := (f361.2 _ (by omega)).trans c2) | (have c2 := e361)
        first | (have c6 := (f361.2 _ (by omega)).trans c6) | (have c6 := e361)
        refine A.vret d6_readsNode_364 ?_
        have C0 := c0
        have C2 := c2
        by_cases u : ndOk T ps
        · obtain ⟨rfl, rfl, u3⟩ := hok u
          have i350 := i350 rfl
          by_cases v : tc T (sk T (ndAt T ps)) = 59
          · obtain ⟨rfl, rfl⟩ := i350.1 v
            exact k _ _ _ _ _ C0 C2 b350 d350 (by omega) (fun _ => ⟨rfl, rfl, rfl, u3⟩) (fun z => absurd ⟨by omega, u, v⟩ z) hA3 ((hF.trans (f350.two1 (by omega) (by omega))).trans (f361.two1 (by omega) (by omega)))
          · have z := (i350.2 v).1
            exact k _ _ _ _ _ C0 C2 b350 d350 (by omega) (fun y => absurd y.2.2 v) (fun _ => by rw [z, pif_f (by omega), pif_t u]) hA3 ((hF.trans (f350.two1 (by omega) (by omega))).trans (f361.two1 (by omega) (by omega)))
        · have z := hno u
          have z2 := j350 (by omega)
          exact k _ _ _ _ _ C0 C2 b350 d350 (by omega) (fun y => absurd y.2.1 u) (fun _ => by rw [z2, z, pif_f (by omega), pif_f u]) hA3 ((hF.trans (f350.two1 (by omega) (by omega))).trans (f361.two1 (by omega) (by omega)))
    have mid : ∀ (A1 : Int → Int) (h1 : AH) (c0 : h1.2 q = some (mobj q n rd fi co ah se T.1 ps (-11) fl ch hx)) (c2 : h1.2 (q + 2) = some (kA 0 348 A1)) (c6 : h1.2 (q + 6) = some (kA 0 100 T.2)) (hF : Fr2 h h1 q 1 (q + 2) 1) (hA1 : A1 (12 * rd) = kIdx (tc T ps)) (hA2 : ∀ j, 12 * rd < j → j < 12 * rd + 12 → A1 j = -11) (hA3 : ∀ j, ¬ (12 * rd ≤ j ∧ j < 12 * rd + 12) → A1 j = B0 j), AW m6_readsNode (d + 4) (mC m6_readsNode, mS m6_readsNode) 72 [some (vR q), some (vI (kIdx (tc T ps))), some (vI (12 * rd)), some (vI 12)] [] h1 R := by
      intro A1  h1  c0 c2 c6 hF hA1 hA2 hA3
      have hc0 := kIdx_lt hkn
      have hlt := tc_lt (T := T) (p := ps) (kIdx_lt hkn)
      have htr := tc_rng hT ps
      have hT2 := hT.2.1
      refine A.al4_0 d6_readsNode_72 ?_
      refine A.iconst d6_readsNode_73 ?_
      refine A.v1 d6_readsNode_74 (s6_take1 c0 c6 hT hp hp2 (by omega) (fun h74 ps1 fa1 e74 b74 d74 i74 j74 f74 => kS ?_)) (hc := c0)
      have c2 := f74.get c2 (by omega)
      have c6 := f74.get c6 (by omega)
      have c0 := e74
      obtain ⟨rfl, rfl⟩ := i74 rfl
      refine A.pop d6_readsNode_77 ?_
      refine A.il4_1 d6_readsNode_78 ?_
      refine A.tsw7 d6_readsNode_79 (fun c79 => ?_) (fun c79 => ?_) (fun c79 => ?_) (fun c79 => ?_) (fun c79 => ?_) (fun c79 => ?_) (fun c79 => ?_) (fun c79 => ?_)
      · refine A.al4_0 d6_readsNode_120 ?_
        refine A.getf d6_readsNode_121 ?_ (hc := c0)
        refine A.il4_2 d6_readsNode_124 ?_
        refine A.iconst d6_readsNode_125 ?_
        refine A.iadd d6_readsNode_126 ?_
        refine A.al4_0 d6_readsNode_127 ?_
        refine A.v0 d6_readsNode_128 (s6_voice c0 c6 hT b74 d74 (fun h128 ps2 fa2 e128 b128 d128 i128 j128 f128 => kS ?_)) (hc := c0)
        have c2 := f128.get c2 (by omega)
        have c6 := f128.get c6 (by omega)
        have c0 := e128
        have i128 := i128 rfl
        refine A.iast d6_readsNode_131 (fun h131 e131 f131 => ?_) (hc := c2)
        first | (have c0 := (f131.2 _ (by omega)).trans c0) | (have c0 := e131)
        first | (have c2 := (f131.2 _ (by omega)).trans c2) | (have c2 := e131)
        first | (have c6 := (f131.2 _ (by omega)).trans c6) | (have c6 := e131)
        refine A.al4_0 d6_readsNode_132 ?_
        refine A.getf d6_readsNode_133 ?_ (hc := c0)
        refine A.il4_2 d6_readsNode_136 ?_
        refine A.iconst d6_readsNode_137 ?_
        refine A.iadd d6_readsNode_138 ?_
        refine A.al4_0 d6_readsNode_139 ?_
        refine A.bipush d6_readsNode_140 ?_
        refine A.v1 d6_readsNode_142 (s6_number (m := 99) c0 c6 hT b128 d128 (by omega) (fun h142 ps3 fa3 v3 e142 b142 d142 r142 i142 j142 f142 => kS ?_)) (hc := c0)
        have c2 := f142.get c2 (by omega)
        have c6 := f142.get c6 (by omega)
        have c0 := e142
        
        refine A.iast d6_readsNode_145 (fun h145 e145 f145 => ?_) (hc := c2)
        first | (have c0 := (f145.2 _ (by omega)).trans c0) | (have c0 := e145)
        first | (have c2 := (f145.2 _ (by omega)).trans c2) | (have c2 := e145)
        first | (have c6 := (f145.2 _ (by omega)).trans c6) | (have c6 := e145)
        refine A.goto d6_readsNode_146 ?_
        have C0 := c0
        have C2 := c2
        have C6 := c6
        have k0 : kIdx (tc T ps) = 0 := by omega
        rw [k0] at hA1
        have e := nd_k0 (T := T) (p := ps) k0
        by_cases u0 : vcOk T (sk T (ps + 1))
        · obtain ⟨rfl, rfl⟩ := i128.1 u0
          have i142 := i142 rfl
          by_cases u1 : nmOk T 99 (sk T (sk T (ps + 1) + 1))
          · obtain ⟨rfl, rfl, rfl⟩ := i142.1 u1
            exact tail _ _ _ _ C0 C2 C6 b142 d142 (((((hF.trans (f74.two1 (by omega) (by omega))).trans (f128.two1 (by omega) (by omega))).trans (f131.two2 (by omega) (by omega))).trans (f142.two1 (by omega) (by omega))).trans (f145.two2 (by omega) (by omega))) (fun _ => ⟨rfl, by rw [e.2.1, pif_t u0], k0.symm ▸ rowI (by decide) (by rw [e.2.2.1]; exact ⟨rfl, rfl, rfl⟩) ((fs_off (by omega)).trans ((fs_off (by omega)).trans hA1)) ((fs_off (by omega)).trans (fs_at (by omega))) (fs_at (by omega)) ((fs_off (by omega)).trans ((fs_off (by omega)).trans (hA2 _ (by omega) (by omega))))⟩) (fun z => absurd (by rw [e.1]; exact ⟨u0, u1⟩) z) (fun j hj => ((fs_off (by omega)).trans ((fs_off (by omega)).trans (hA3 j hj))))
          · have z := i142.2 u1
            exact tail _ _ _ _ C0 C2 C6 b142 d142 (((((hF.trans (f74.two1 (by omega) (by omega))).trans (f128.two1 (by omega) (by omega))).trans (f131.two2 (by omega) (by omega))).trans (f142.two1 (by omega) (by omega))).trans (f145.two2 (by omega) (by omega))) (fun z => absurd (by rw [e.1] at z; exact z.2) u1) (fun _ => by rw [z, e.2.1, pif_t u0]) (fun j hj => ((fs_off (by omega)).trans ((fs_off (by omega)).trans (hA3 j hj))))
        · have z := i128.2 u0
          obtain ⟨z, -⟩ := z
          have z0 := j142 (by rw [z]; first | omega | exact dgAt_ne (by omega) (by omega) | exact nmAt_ne (by omega) (by omega))
          exact tail _ _ _ _ C0 C2 C6 b142 d142 (((((hF.trans (f74.two1 (by omega) (by omega))).trans (f128.two1 (by omega) (by omega))).trans (f131.two2 (by omega) (by omega))).trans (f142.two1 (by omega) (by omega))).trans (f145.two2 (by omega) (by omega))) (fun z => absurd (by rw [e.1] at z; exact z.1) u0) (fun _ => by rw [z0, z, e.2.1, pif_f u0]) (fun j hj => ((fs_off (by omega)).trans ((fs_off (by omega)).trans (hA3 j hj))))
      · refine A.al4_0 d6_readsNode_149 ?_
        refine A.getf d6_readsNode_150 ?_ (hc := c0)
        refine A.il4_2 d6_readsNode_153 ?_
        refine A.iconst d6_readsNode_154 ?_
        refine A.iadd d6_readsNode_155 ?_
        refine A.al4_0 d6_readsNode_156 ?_
        refine A.v0 d6_readsNode_157 (s6_voice c0 c6 hT b74 d74 (fun h157 ps2 fa2 e157 b157 d157 i157 j157 f157 => kS ?_)) (hc := c0)
        have c2 := f157.get c2 (by omega)
        have c6 := f157.get c6 (by omega)
        have c0 := e157
        have i157 := i157 rfl
        refine A.iast d6_readsNode_160 (fun h160 e160 f160 => ?_) (hc := c2)
        first | (have c0 := (f160.2 _ (by omega)).trans c0) | (have c0 := e160)
        first | (have c2 := (f160.2 _ (by omega)).trans c2) | (have c2 := e160)
        first | (have c6 := (f160.2 _ (by omega)).trans c6) | (have c6 := e160)
        refine A.al4_0 d6_readsNode_161 ?_
        refine A.getf d6_readsNode_162 ?_ (hc := c0)
        refine A.il4_2 d6_readsNode_165 ?_
        refine A.iconst d6_readsNode_166 ?_
        refine A.iadd d6_readsNode_167 ?_
        refine A.al4_0 d6_readsNode_168 ?_
        refine A.iconst d6_readsNode_169 ?_
        refine A.v1 d6_readsNode_170 (s6_digit (m := 2) c0 c6 hT b157 d157 (by omega) (fun h170 ps3 fa3 v3 e170 b170 d170 r170 i170 j170 f170 => kS ?_)) (hc := c0)
        have c2 := f170.get c2 (by omega)
        have c6 := f170.get c6 (by omega)
        have c0 := e170
        
        refine A.iast d6_readsNode_173 (fun h173 e173 f173 => ?_) (hc := c2)
        first | (have c0 := (f173.2 _ (by omega)).trans c0) | (have c0 := e173)
        first | (have c2 := (f173.2 _ (by omega)).trans c2) | (have c2 := e173)
        first | (have c6 := (f173.2 _ (by omega)).trans c6) | (have c6 := e173)
        refine A.al4_0 d6_readsNode_174 ?_
        refine A.getf d6_readsNode_175 ?_ (hc := c0)
        refine A.il4_2 d6_readsNode_178 ?_
        refine A.iconst d6_readsNode_179 ?_
        refine A.iadd d6_readsNode_180 ?_
        refine A.al4_0 d6_readsNode_181 ?_
        refine A.iconst d6_readsNode_182 ?_
        refine A.v1 d6_readsNode_183 (s6_digit (m := 4) c0 c6 hT b170 d170 (by omega) (fun h183 ps4 fa4 v4 e183 b183 d183 r183 i183 j183 f183 => kS ?_)) (hc := c0)
        have c2 := f183.get c2 (by omega)
        have c6 := f183.get c6 (by omega)
        have c0 := e183
        
        refine A.iast d6_readsNode_186 (fun h186 e186 f186 => ?_) (hc := c2)
        first | (have c0 := (f186.2 _ (by omega)).trans c0) | (have c0 := e186)
        first | (have c2 := (f186.2 _ (by omega)).trans c2) | (have c2 := e186)
        first | (have c6 := (f186.2 _ (by omega)).trans c6) | (have c6 := e186)
        refine A.goto d6_readsNode_187 ?_
        have C0 := c0
        have C2 := c2
        have C6 := c6
        have k0 : kIdx (tc T ps) = 1 := by omega
        rw [k0] at hA1
        have e := nd_k1 (T := T) (p := ps) k0
        by_cases u0 : vcOk T (sk T (ps + 1))
        · obtain ⟨rfl, rfl⟩ := i157.1 u0
          have i170 := i170 rfl
          by_cases u1 : dgOk T 2 (sk T (sk T (ps + 1) + 1))
          · obtain ⟨rfl, rfl, rfl⟩ := i170.1 u1
            have i183 := i183 rfl
            by_cases u2 : dgOk T 4 (sk T (dgAt T 2 (sk T (sk T (ps + 1) + 1))))
            · obtain ⟨rfl, rfl, rfl⟩ := i183.1 u2
              exact tail _ _ _ _ C0 C2 C6 b183 d183 (((((((hF.trans (f74.two1 (by omega) (by omega))).trans (f157.two1 (by omega) (by omega))).trans (f160.two2 (by omega) (by omega))).trans (f170.two1 (by omega) (by omega))).trans (f173.two2 (by omega) (by omega))).trans (f183.two1 (by omega) (by omega))).trans (f186.two2 (by omega) (by omega))) (fun _ => ⟨rfl, by rw [e.2.1, pif_t u0, pif_t u1], k0.symm ▸ rowI (by decide) (by rw [e.2.2.1]; exact ⟨rfl, rfl, rfl⟩) ((fs_off (by omega)).trans ((fs_off (by omega)).trans ((fs_off (by omega)).trans hA1))) ((fs_off (by omega)).trans ((fs_off (by omega)).trans (fs_at (by omega)))) ((fs_off (by omega)).trans (fs_at (by omega))) (fs_at (by omega))⟩) (fun z => absurd (by rw [e.1]; exact ⟨u0, u1, u2⟩) z) (fun j hj => ((fs_off (by omega)).trans ((fs_off (by omega)).trans ((fs_off (by omega)).trans (hA3 j hj)))))
            · have z := i183.2 u2
              exact tail _ _ _ _ C0 C2 C6 b183 d183 (((((((hF.trans (f74.two1 (by omega) (by omega))).trans (f157.two1 (by omega) (by omega))).trans (f160.two2 (by omega) (by omega))).trans (f170.two1 (by omega) (by omega))).trans (f173.two2 (by omega) (by omega))).trans (f183.two1 (by omega) (by omega))).trans (f186.two2 (by omega) (by omega))) (fun z => absurd (by rw [e.1] at z; exact z.2.2) u2) (fun _ => by rw [z, e.2.1, pif_t u0, pif_t u1]) (fun j hj => ((fs_off (by omega)).trans ((fs_off (by omega)).trans ((fs_off (by omega)).trans (hA3 j hj)))))
          · have z := i170.2 u1
            have z0 := j183 (by rw [z]; first | omega | exact dgAt_ne (by omega) (by omega) | exact nmAt_ne (by omega) (by omega))
            exact tail _ _ _ _ C0 C2 C6 b183 d183 (((((((hF.trans (f74.two1 (by omega) (by omega))).trans (f157.two1 (by omega) (by omega))).trans (f160.two2 (by omega) (by omega))).trans (f170.two1 (by omega) (by omega))).trans (f173.two2 (by omega) (by omega))).trans (f183.two1 (by omega) (by omega))).trans (f186.two2 (by omega) (by omega))) (fun z => absurd (by rw [e.1] at z; exact z.2.1) u1) (fun _ => by rw [z0, z, e.2.1, pif_t u0, pif_f u1]) (fun j hj => ((fs_off (by omega)).trans ((fs_off (by omega)).trans ((fs_off (by omega)).trans (hA3 j hj)))))
        · have z := i157.2 u0
          obtain ⟨z, -⟩ := z
          have z0 := j170 (by rw [z]; first | omega | exact dgAt_ne (by omega) (by omega) | exact nmAt_ne (by omega) (by omega))
          have z1 := j183 (by rw [z0, z]; first | omega | exact dgAt_ne (by omega) (by omega) | exact nmAt_ne (by omega) (by omega))
          exact tail _ _ _ _ C0 C2 C6 b183 d183 (((((((hF.trans (f74.two1 (by omega) (by omega))).trans (f157.two1 (by omega) (by omega))).trans (f160.two2 (by omega) (by omega))).trans (f170.two1 (by omega) (by omega))).trans (f173.two2 (by omega) (by omega))).trans (f183.two1 (by omega) (by omega))).trans (f186.two2 (by omega) (by omega))) (fun z => absurd (by rw [e.1] at z; exact z.1) u0) (fun _ => by rw [z1, z0, z, e.2.1, pif_f u0]) (fun j hj => ((fs_off (by omega)).trans ((fs_off (by omega)).trans ((fs_off (by omega)).trans (hA3 j hj)))))
      · refine A.al4_0 d6_readsNode_190 ?_
        refine A.getf d6_readsNode_191 ?_ (hc := c0)
        refine A.il4_2 d6_readsNode_194 ?_
        refine A.iconst d6_readsNode_195 ?_
        refine A.iadd d6_readsNode_196 ?_
        refine A.al4_0 d6_readsNode_197 ?_
        refine A.v0 d6_readsNode_198 (s6_voice c0 c6 hT b74 d74 (fun h198 ps2 fa2 e198 b198 d198 i198 j198 f198 => kS ?_)) (hc := c0)
        have c2 := f198.get c2 (by omega)
        have c6 := f198.get c6 (by omega)
        have c0 := e198
        have i198 := i198 rfl
        refine A.iast d6_readsNode_201 (fun h201 e201 f201 => ?_) (hc := c2)
        first | (have c0 := (f201.2 _ (by omega)).trans c0) | (have c0 := e201)
        first | (have c2 := (f201.2 _ (by omega)).trans c2) | (have c2 := e201)
        first | (have c6 := (f201.2 _ (by omega)).trans c6) | (have c6 := e201)
        refine A.goto d6_readsNode_202 ?_
        have C0 := c0
        have C2 := c2
        have C6 := c6
        have k0 : kIdx (tc T ps) = 2 := by omega
        rw [k0] at hA1
        have e := nd_k2 (T := T) (p := ps) k0
        by_cases u0 : vcOk T (sk T (ps + 1))
        · obtain ⟨rfl, rfl⟩ := i198.1 u0
          exact tail _ _ _ _ C0 C2 C6 b198 d198 (((hF.trans (f74.two1 (by omega) (by omega))).trans (f198.two1 (by omega) (by omega))).trans (f201.two2 (by omega) (by omega))) (fun _ => ⟨rfl, by rw [e.2.1, pif_t u0], k0.symm ▸ rowI (by decide) (by rw [e.2.2.1]; exact ⟨rfl, rfl, rfl⟩) ((fs_off (by omega)).trans hA1) (fs_at (by omega)) ((fs_off (by omega)).trans (hA2 _ (by omega) (by omega))) ((fs_off (by omega)).trans (hA2 _ (by omega) (by omega)))⟩) (fun z => absurd (by rw [e.1]; exact u0) z) (fun j hj => ((fs_off (by omega)).trans (hA3 j hj)))
        · have z := i198.2 u0
          obtain ⟨z, -⟩ := z
          exact tail _ _ _ _ C0 C2 C6 b198 d198 (((hF.trans (f74.two1 (by omega) (by omega))).trans (f198.two1 (by omega) (by omega))).trans (f201.two2 (by omega) (by omega))) (fun z => absurd (by rw [e.1] at z; exact z) u0) (fun _ => by rw [z, e.2.1, pif_f u0]) (fun j hj => ((fs_off (by omega)).trans (hA3 j hj)))
      · refine A.al4_0 d6_readsNode_205 ?_
        refine A.getf d6_readsNode_206 ?_ (hc := c0)
        refine A.il4_2 d6_readsNode_209 ?_
        refine A.iconst d6_readsNode_210 ?_
        refine A.iadd d6_readsNode_211 ?_
        refine A.al4_0 d6_readsNode_212 ?_
        refine A.iconst d6_readsNode_213 ?_
        refine A.v1 d6_readsNode_214 (s6_digit (m := 5) c0 c6 hT b74 d74 (by omega) (fun h214 ps2 fa2 v2 e214 b214 d214 r214 i214 j214 f214 => kS ?_)) (hc := c0)
        have c2 := f214.get c2 (by omega)
        have c6 := f214.get c6 (by omega)
        have c0 := e214
        have i214 := i214 rfl
        have htr2 := tc_rng hT ps2
        refine A.iast d6_readsNode_217 (fun h217 e217 f217 => ?_) (hc := c2)
        first | (have c0 := (f217.2 _ (by omega)).trans c0) | (have c0 := e217)
        first | (have c2 := (f217.2 _ (by omega)).trans c2) | (have c2 := e217)
        first | (have c6 := (f217.2 _ (by omega)).trans c6) | (have c6 := e217)
        refine A.al4_0 d6_readsNode_218 ?_
        refine A.getf d6_readsNode_219 ?_ (hc := c0)
        refine A.il4_2 d6_readsNode_222 ?_
        refine A.iconst d6_readsNode_223 ?_
        refine A.iadd d6_readsNode_224 ?_
        refine A.al4_0 d6_readsNode_225 ?_
        refine A.al4_0 d6_readsNode_226 ?_
        refine A.v0 d6_readsNode_227 (s6_next c0 c6 hT (by omega) (kS ?_)) (hc := c0)
        refine A.bipush d6_readsNode_230 ?_
        refine A.ic_eq d6_readsNode_232 (fun c232 => ?_) (fun c232 => ?_)
        · refine A.iconst d6_readsNode_244 ?_
          refine A.goto d6_readsNode_245 ?_
          refine A.v1 d6_readsNode_249 (s6_takeV (P := pmOk T ps2) (by first | exact (bi_t (by unfold pmOk; omega)).symm | exact (bi_f (by unfold pmOk; omega)).symm) c0 c6 hT b214 d214 (fun z => by unfold pmOk at z; omega) (fun h249 ps3 fa3 e249 b249 d249 i249 j249 f249 => kS ?_)) (hc := c0)
          have c2 := f249.get c2 (by omega)
          have c6 := f249.get c6 (by omega)
          have c0 := e249
          
          refine A.bipush d6_readsNode_252 ?_
          refine A.ic_ne d6_readsNode_254 (fun c254 => ?_) (fun c254 => ?_)
          · refine A.iconst d6_readsNode_261 ?_
            refine A.iast d6_readsNode_262 (fun h262 e262 f262 => ?_) (hc := c2)
            first | (have c0 := (f262.2 _ (by omega)).trans c0) | (have c0 := e262)
            first | (have c2 := (f262.2 _ (by omega)).trans c2) | (have c2 := e262)
            first | (have c6 := (f262.2 _ (by omega)).trans c6) | (have c6 := e262)
            refine A.goto d6_readsNode_263 ?_
            first
              | (exfalso; omega)
              | (have C0 := c0
                 have C2 := c2
                 have C6 := c6
                 have k0 : kIdx (tc T ps) = 3 := by omega
                 rw [k0] at hA1
                 have e := nd_k3 (T := T) (p := ps) k0
                 by_cases u0 : dgOk T 5 (sk T (ps + 1))
                 · obtain ⟨rfl, rfl, rfl⟩ := i214.1 u0
                   have i249 := i249 rfl
                   by_cases u1 : pmOk T (sk T (dgAt T 5 (sk T (ps + 1))))
                   · obtain ⟨rfl, rfl⟩ := i249.1 u1
                     exact tail _ _ _ _ C0 C2 C6 b249 d249 (((((hF.trans (f74.two1 (by omega) (by omega))).trans (f214.two1 (by omega) (by omega))).trans (f217.two2 (by omega) (by omega))).trans (f249.two1 (by omega) (by omega))).trans (f262.two2 (by omega) (by omega))) (fun _ => ⟨rfl, by rw [e.2.1, pif_t u0, pif_t u1], k0.symm ▸ rowI (by decide) (by rw [e.2.2.1]; exact ⟨rfl, rfl, rfl⟩) ((fs_off (by omega)).trans ((fs_off (by omega)).trans hA1)) ((fs_off (by omega)).trans (fs_at (by omega))) ((fs_at (by omega)).trans (by first | (rw [if_pos (by omega)]; rfl) | (rw [if_neg (by omega)]; rfl))) ((fs_off (by omega)).trans ((fs_off (by omega)).trans (hA2 _ (by omega) (by omega))))⟩) (fun z => absurd (by rw [e.1]; exact ⟨u0, u1⟩) z) (fun j hj => ((fs_off (by omega)).trans ((fs_off (by omega)).trans (hA3 j hj))))
                   · obtain ⟨z, -⟩ := i249.2 u1
                     exact tail _ _ _ _ C0 C2 C6 b249 d249 (((((hF.trans (f74.two1 (by omega) (by omega))).trans (f214.two1 (by omega) (by omega))).trans (f217.two2 (by omega) (by omega))).trans (f249.two1 (by omega) (by omega))).trans (f262.two2 (by omega) (by omega))) (fun z => absurd (by rw [e.1] at z; exact z.2) u1) (fun _ => by rw [z, e.2.1, pif_t u0, pif_f u1]) (fun j hj => ((fs_off (by omega)).trans ((fs_off (by omega)).trans (hA3 j hj))))
                 · have z := i214.2 u0
                   have z0 := j249 (by rw [z]; exact dgAt_ne b74 d74)
                   exact tail _ _ _ _ C0 C2 C6 b249 d249 (((((hF.trans (f74.two1 (by omega) (by omega))).trans (f214.two1 (by omega) (by omega))).trans (f217.two2 (by omega) (by omega))).trans (f249.two1 (by omega) (by omega))).trans (f262.two2 (by omega) (by omega))) (fun z => absurd (by rw [e.1] at z; exact z.1) u0) (fun _ => by rw [z0, z, e.2.1, pif_f u0]) (fun j hj => ((fs_off (by omega)).trans ((fs_off (by omega)).trans (hA3 j hj)))))
          · refine A.iconst d6_readsNode_257 ?_
            refine A.goto d6_readsNode_258 ?_
            refine A.iast d6_readsNode_262 (fun h262 e262 f262 => ?_) (hc := c2)
            first | (have c0 := (f262.2 _ (by omega)).trans c0) | (have c0 := e262)
            first | (have c2 := (f262.2 _ (by omega)).trans c2) | (have c2 := e262)
            first | (have c6 := (f262.2 _ (by omega)).trans c6) | (have c6 := e262)
            refine A.goto d6_readsNode_263 ?_
            first
              | (exfalso; omega)
              | (have C0 := c0
                 have C2 := c2
                 have C6 := c6
                 have k0 : kIdx (tc T ps) = 3 := by omega
                 rw [k0] at hA1
                 have e := nd_k3 (T := T) (p := ps) k0
                 by_cases u0 : dgOk T 5 (sk T (ps + 1))
                 · obtain ⟨rfl, rfl, rfl⟩ := i214.1 u0
                   have i249 := i249 rfl
                   by_cases u1 : pmOk T (sk T (dgAt T 5 (sk T (ps + 1))))
                   · obtain ⟨rfl, rfl⟩ := i249.1 u1
                     exact tail _ _ _ _ C0 C2 C6 b249 d249 (((((hF.trans (f74.two1 (by omega) (by omega))).trans (f214.two1 (by omega) (by omega))).trans (f217.two2 (by omega) (by omega))).trans (f249.two1 (by omega) (by omega))).trans (f262.two2 (by omega) (by omega))) (fun _ => ⟨rfl, by rw [e.2.1, pif_t u0, pif_t u1], k0.symm ▸ rowI (by decide) (by rw [e.2.2.1]; exact ⟨rfl, rfl, rfl⟩) ((fs_off (by omega)).trans ((fs_off (by omega)).trans hA1)) ((fs_off (by omega)).trans (fs_at (by omega))) ((fs_at (by omega)).trans (by first | (rw [if_pos (by omega)]; rfl) | (rw [if_neg (by omega)]; rfl))) ((fs_off (by omega)).trans ((fs_off (by omega)).trans (hA2 _ (by omega) (by omega))))⟩) (fun z => absurd (by rw [e.1]; exact ⟨u0, u1⟩) z) (fun j hj => ((fs_off (by omega)).trans ((fs_off (by omega)).trans (hA3 j hj))))
                   · obtain ⟨z, -⟩ := i249.2 u1
                     exact tail _ _ _ _ C0 C2 C6 b249 d249 (((((hF.trans (f74.two1 (by omega) (by omega))).trans (f214.two1 (by omega) (by omega))).trans (f217.two2 (by omega) (by omega))).trans (f249.two1 (by omega) (by omega))).trans (f262.two2 (by omega) (by omega))) (fun z => absurd (by rw [e.1] at z; exact z.2) u1) (fun _ => by rw [z, e.2.1, pif_t u0, pif_f u1]) (fun j hj => ((fs_off (by omega)).trans ((fs_off (by omega)).trans (hA3 j hj))))
                 · have z := i214.2 u0
                   have z0 := j249 (by rw [z]; exact dgAt_ne b74 d74)
                   exact tail _ _ _ _ C0 C2 C6 b249 d249 (((((hF.trans (f74.two1 (by omega) (by omega))).trans (f214.two1 (by omega) (by omega))).trans (f217.two2 (by omega) (by omega))).trans (f249.two1 (by omega) (by omega))).trans (f262.two2 (by omega) (by omega))) (fun z => absurd (by rw [e.1] at z; exact z.1) u0) (fun _ => by rw [z0, z, e.2.1, pif_f u0]) (fun j hj => ((fs_off (by omega)).trans ((fs_off (by omega)).trans (hA3 j hj)))))
        · refine A.al4_0 d6_readsNode_235 ?_
          refine A.v0 d6_readsNode_236 (s6_next c0 c6 hT (by omega) (kS ?_)) (hc := c0)
          refine A.bipush d6_readsNode_239 ?_
          refine A.ic_ne d6_readsNode_241 (fun c241 => ?_) (fun c241 => ?_)
          · refine A.iconst d6_readsNode_248 ?_
            refine A.v1 d6_readsNode_249 (s6_takeV (P := pmOk T ps2) (by first | exact (bi_t (by unfold pmOk; omega)).symm | exact (bi_f (by unfold pmOk; omega)).symm) c0 c6 hT b214 d214 (fun z => by unfold pmOk at z; omega) (fun h249 ps3 fa3 e249 b249 d249 i249 j249 f249 => kS ?_)) (hc := c0)
            have c2 := f249.get c2 (by omega)
            have c6 := f249.get c6 (by omega)
            have c0 := e249
            
            refine A.bipush d6_readsNode_252 ?_
            refine A.ic_ne d6_readsNode_254 (fun c254 => ?_) (fun c254 => ?_)
            · refine A.iconst d6_readsNode_261 ?_
              refine A.iast d6_readsNode_262 (fun h262 e262 f262 => ?_) (hc := c2)
              first | (have c0 := (f262.2 _ (by omega)).trans c0) | (have c0 := e262)
              first | (have c2 := (f262.2 _ (by omega)).trans c2) | (have c2 := e262)
              first | (have c6 := (f262.2 _ (by omega)).trans c6) | (have c6 := e262)
              refine A.goto d6_readsNode_263 ?_
              first
                | (exfalso; omega)
                | (have C0 := c0
                   have C2 := c2
                   have C6 := c6
                   have k0 : kIdx (tc T ps) = 3 := by omega
                   rw [k0] at hA1
                   have e := nd_k3 (T := T) (p := ps) k0
                   by_cases u0 : dgOk T 5 (sk T (ps + 1))
                   · obtain ⟨rfl, rfl, rfl⟩ := i214.1 u0
                     have i249 := i249 rfl
                     by_cases u1 : pmOk T (sk T (dgAt T 5 (sk T (ps + 1))))
                     · obtain ⟨rfl, rfl⟩ := i249.1 u1
                       exact tail _ _ _ _ C0 C2 C6 b249 d249 (((((hF.trans (f74.two1 (by omega) (by omega))).trans (f214.two1 (by omega) (by omega))).trans (f217.two2 (by omega) (by omega))).trans (f249.two1 (by omega) (by omega))).trans (f262.two2 (by omega) (by omega))) (fun _ => ⟨rfl, by rw [e.2.1, pif_t u0, pif_t u1], k0.symm ▸ rowI (by decide) (by rw [e.2.2.1]; exact ⟨rfl, rfl, rfl⟩) ((fs_off (by omega)).trans ((fs_off (by omega)).trans hA1)) ((fs_off (by omega)).trans (fs_at (by omega))) ((fs_at (by omega)).trans (by first | (rw [if_pos (by omega)]; rfl) | (rw [if_neg (by omega)]; rfl))) ((fs_off (by omega)).trans ((fs_off (by omega)).trans (hA2 _ (by omega) (by omega))))⟩) (fun z => absurd (by rw [e.1]; exact ⟨u0, u1⟩) z) (fun j hj => ((fs_off (by omega)).trans ((fs_off (by omega)).trans (hA3 j hj))))
                     · obtain ⟨z, -⟩ := i249.2 u1
                       exact tail _ _ _ _ C0 C2 C6 b249 d249 (((((hF.trans (f74.two1 (by omega) (by omega))).trans (f214.two1 (by omega) (by omega))).trans (f217.two2 (by omega) (by omega))).trans (f249.two1 (by omega) (by omega))).trans (f262.two2 (by omega) (by omega))) (fun z => absurd (by rw [e.1] at z; exact z.2) u1) (fun _ => by rw [z, e.2.1, pif_t u0, pif_f u1]) (fun j hj => ((fs_off (by omega)).trans ((fs_off (by omega)).trans (hA3 j hj))))
                   · have z := i214.2 u0
                     have z0 := j249 (by rw [z]; exact dgAt_ne b74 d74)
                     exact tail _ _ _ _ C0 C2 C6 b249 d249 (((((hF.trans (f74.two1 (by omega) (by omega))).trans (f214.two1 (by omega) (by omega))).trans (f217.two2 (by omega) (by omega))).trans (f249.two1 (by omega) (by omega))).trans (f262.two2 (by omega) (by omega))) (fun z => absurd (by rw [e.1] at z; exact z.1) u0) (fun _ => by rw [z0, z, e.2.1, pif_f u0]) (fun j hj => ((fs_off (by omega)).trans ((fs_off (by omega)).trans (hA3 j hj)))))
            · refine A.iconst d6_readsNode_257 ?_
              refine A.goto d6_readsNode_258 ?_
              refine A.iast d6_readsNode_262 (fun h262 e262 f262 => ?_) (hc := c2)
              first | (have c0 := (f262.2 _ (by omega)).trans c0) | (have c0 := e262)
              first | (have c2 := (f262.2 _ (by omega)).trans c2) | (have c2 := e262)
              first | (have c6 := (f262.2 _ (by omega)).trans c6) | (have c6 := e262)
              refine A.goto d6_readsNode_263 ?_
              first
                | (exfalso; omega)
                | (have C0 := c0
                   have C2 := c2
                   have C6 := c6
                   have k0 : kIdx (tc T ps) = 3 := by omega
                   rw [k0] at hA1
                   have e := nd_k3 (T := T) (p := ps) k0
                   by_cases u0 : dgOk T 5 (sk T (ps + 1))
                   · obtain ⟨rfl, rfl, rfl⟩ := i214.1 u0
                     have i249 := i249 rfl
                     by_cases u1 : pmOk T (sk T (dgAt T 5 (sk T (ps + 1))))
                     · obtain ⟨rfl, rfl⟩ := i249.1 u1
                       exact tail _ _ _ _ C0 C2 C6 b249 d249 (((((hF.trans (f74.two1 (by omega) (by omega))).trans (f214.two1 (by omega) (by omega))).trans (f217.two2 (by omega) (by omega))).trans (f249.two1 (by omega) (by omega))).trans (f262.two2 (by omega) (by omega))) (fun _ => ⟨rfl, by rw [e.2.1, pif_t u0, pif_t u1], k0.symm ▸ rowI (by decide) (by rw [e.2.2.1]; exact ⟨rfl, rfl, rfl⟩) ((fs_off (by omega)).trans ((fs_off (by omega)).trans hA1)) ((fs_off (by omega)).trans (fs_at (by omega))) ((fs_at (by omega)).trans (by first | (rw [if_pos (by omega)]; rfl) | (rw [if_neg (by omega)]; rfl))) ((fs_off (by omega)).trans ((fs_off (by omega)).trans (hA2 _ (by omega) (by omega))))⟩) (fun z => absurd (by rw [e.1]; exact ⟨u0, u1⟩) z) (fun j hj => ((fs_off (by omega)).trans ((fs_off (by omega)).trans (hA3 j hj))))
                     · obtain ⟨z, -⟩ := i249.2 u1
                       exact tail _ _ _ _ C0 C2 C6 b249 d249 (((((hF.trans (f74.two1 (by omega) (by omega))).trans (f214.two1 (by omega) (by omega))).trans (f217.two2 (by omega) (by omega))).trans (f249.two1 (by omega) (by omega))).trans (f262.two2 (by omega) (by omega))) (fun z => absurd (by rw [e.1] at z; exact z.2) u1) (fun _ => by rw [z, e.2.1, pif_t u0, pif_f u1]) (fun j hj => ((fs_off (by omega)).trans ((fs_off (by omega)).trans (hA3 j hj))))
                   · have z := i214.2 u0
                     have z0 := j249 (by rw [z]; exact dgAt_ne b74 d74)
                     exact tail _ _ _ _ C0 C2 C6 b249 d249 (((((hF.trans (f74.two1 (by omega) (by omega))).trans (f214.two1 (by omega) (by omega))).trans (f217.two2 (by omega) (by omega))).trans (f249.two1 (by omega) (by omega))).trans (f262.two2 (by omega) (by omega))) (fun z => absurd (by rw [e.1] at z; exact z.1) u0) (fun _ => by rw [z0, z, e.2.1, pif_f u0]) (fun j hj => ((fs_off (by omega)).trans ((fs_off (by omega)).trans (hA3 j hj)))))
          · refine A.iconst d6_readsNode_244 ?_
            refine A.goto d6_readsNode_245 ?_
            refine A.v1 d6_readsNode_249 (s6_takeV (P := pmOk T ps2) (by first | exact (bi_t (by unfold pmOk; omega)).symm | exact (bi_f (by unfold pmOk; omega)).symm) c0 c6 hT b214 d214 (fun z => by unfold pmOk at z; omega) (fun h249 ps3 fa3 e249 b249 d249 i249 j249 f249 => kS ?_)) (hc := c0)
            have c2 := f249.get c2 (by omega)
            have c6 := f249.get c6 (by omega)
            have c0 := e249
            
            refine A.bipush d6_readsNode_252 ?_
            refine A.ic_ne d6_readsNode_254 (fun c254 => ?_) (fun c254 => ?_)
            · refine A.iconst d6_readsNode_261 ?_
              refine A.iast d6_readsNode_262 (fun h262 e262 f262 => ?_) (hc := c2)
              first | (have c0 := (f262.2 _ (by omega)).trans c0) | (have c0 := e262)
              first | (have c2 := (f262.2 _ (by omega)).trans c2) | (have c2 := e262)
              first | (have c6 := (f262.2 _ (by omega)).trans c6) | (have c6 := e262)
              refine A.goto d6_readsNode_263 ?_
              first
                | (exfalso; omega)
                | (have C0 := c0
                   have C2 := c2
                   have C6 := c6
                   have k0 : kIdx (tc T ps) = 3 := by omega
                   rw [k0] at hA1
                   have e := nd_k3 (T := T) (p := ps) k0
                   by_cases u0 : dgOk T 5 (sk T (ps + 1))
                   · obtain ⟨rfl, rfl, rfl⟩ := i214.1 u0
                     have i249 := i249 rfl
                     by_cases u1 : pmOk T (sk T (dgAt T 5 (sk T (ps + 1))))
                     · obtain ⟨rfl, rfl⟩ := i249.1 u1
                       exact tail _ _ _ _ C0 C2 C6 b249 d249 (((((hF.trans (f74.two1 (by omega) (by omega))).trans (f214.two1 (by omega) (by omega))).trans (f217.two2 (by omega) (by omega))).trans (f249.two1 (by omega) (by omega))).trans (f262.two2 (by omega) (by omega))) (fun _ => ⟨rfl, by rw [e.2.1, pif_t u0, pif_t u1], k0.symm ▸ rowI (by decide) (by rw [e.2.2.1]; exact ⟨rfl, rfl, rfl⟩) ((fs_off (by omega)).trans ((fs_off (by omega)).trans hA1)) ((fs_off (by omega)).trans (fs_at (by omega))) ((fs_at (by omega)).trans (by first | (rw [if_pos (by omega)]; rfl) | (rw [if_neg (by omega)]; rfl))) ((fs_off (by omega)).trans ((fs_off (by omega)).trans (hA2 _ (by omega) (by omega))))⟩) (fun z => absurd (by rw [e.1]; exact ⟨u0, u1⟩) z) (fun j hj => ((fs_off (by omega)).trans ((fs_off (by omega)).trans (hA3 j hj))))
                     · obtain ⟨z, -⟩ := i249.2 u1
                       exact tail _ _ _ _ C0 C2 C6 b249 d249 (((((hF.trans (f74.two1 (by omega) (by omega))).trans (f214.two1 (by omega) (by omega))).trans (f217.two2 (by omega) (by omega))).trans (f249.two1 (by omega) (by omega))).trans (f262.two2 (by omega) (by omega))) (fun z => absurd (by rw [e.1] at z; exact z.2) u1) (fun _ => by rw [z, e.2.1, pif_t u0, pif_f u1]) (fun j hj => ((fs_off (by omega)).trans ((fs_off (by omega)).trans (hA3 j hj))))
                   · have z := i214.2 u0
                     have z0 := j249 (by rw [z]; exact dgAt_ne b74 d74)
                     exact tail _ _ _ _ C0 C2 C6 b249 d249 (((((hF.trans (f74.two1 (by omega) (by omega))).trans (f214.two1 (by omega) (by omega))).trans (f217.two2 (by omega) (by omega))).trans (f249.two1 (by omega) (by omega))).trans (f262.two2 (by omega) (by omega))) (fun z => absurd (by rw [e.1] at z; exact z.1) u0) (fun _ => by rw [z0, z, e.2.1, pif_f u0]) (fun j hj => ((fs_off (by omega)).trans ((fs_off (by omega)).trans (hA3 j hj)))))
            · refine A.iconst d6_readsNode_257 ?_
              refine A.goto d6_readsNode_258 ?_
              refine A.iast d6_readsNode_262 (fun h262 e262 f262 => ?_) (hc := c2)
              first | (have c0 := (f262.2 _ (by omega)).trans c0) | (have c0 := e262)
              first | (have c2 := (f262.2 _ (by omega)).trans c2) | (have c2 := e262)
              first | (have c6 := (f262.2 _ (by omega)).trans c6) | (have c6 := e262)
              refine A.goto d6_readsNode_263 ?_
              first
                | (exfalso; omega)
                | (have C0 := c0
                   have C2 := c2
                   have C6 := c6
                   have k0 : kIdx (tc T ps) = 3 := by omega
                   rw [k0] at hA1
                   have e := nd_k3 (T := T) (p := ps) k0
                   by_cases u0 : dgOk T 5 (sk T (ps + 1))
                   · obtain ⟨rfl, rfl, rfl⟩ := i214.1 u0
                     have i249 := i249 rfl
                     by_cases u1 : pmOk T (sk T (dgAt T 5 (sk T (ps + 1))))
                     · obtain ⟨rfl, rfl⟩ := i249.1 u1
                       exact tail _ _ _ _ C0 C2 C6 b249 d249 (((((hF.trans (f74.two1 (by omega) (by omega))).trans (f214.two1 (by omega) (by omega))).trans (f217.two2 (by omega) (by omega))).trans (f249.two1 (by omega) (by omega))).trans (f262.two2 (by omega) (by omega))) (fun _ => ⟨rfl, by rw [e.2.1, pif_t u0, pif_t u1], k0.symm ▸ rowI (by decide) (by rw [e.2.2.1]; exact ⟨rfl, rfl, rfl⟩) ((fs_off (by omega)).trans ((fs_off (by omega)).trans hA1)) ((fs_off (by omega)).trans (fs_at (by omega))) ((fs_at (by omega)).trans (by first | (rw [if_pos (by omega)]; rfl) | (rw [if_neg (by omega)]; rfl))) ((fs_off (by omega)).trans ((fs_off (by omega)).trans (hA2 _ (by omega) (by omega))))⟩) (fun z => absurd (by rw [e.1]; exact ⟨u0, u1⟩) z) (fun j hj => ((fs_off (by omega)).trans ((fs_off (by omega)).trans (hA3 j hj))))
                     · obtain ⟨z, -⟩ := i249.2 u1
                       exact tail _ _ _ _ C0 C2 C6 b249 d249 (((((hF.trans (f74.two1 (by omega) (by omega))).trans (f214.two1 (by omega) (by omega))).trans (f217.two2 (by omega) (by omega))).trans (f249.two1 (by omega) (by omega))).trans (f262.two2 (by omega) (by omega))) (fun z => absurd (by rw [e.1] at z; exact z.2) u1) (fun _ => by rw [z, e.2.1, pif_t u0, pif_f u1]) (fun j hj => ((fs_off (by omega)).trans ((fs_off (by omega)).trans (hA3 j hj))))
                   · have z := i214.2 u0
                     have z0 := j249 (by rw [z]; exact dgAt_ne b74 d74)
                     exact tail _ _ _ _ C0 C2 C6 b249 d249 (((((hF.trans (f74.two1 (by omega) (by omega))).trans (f214.two1 (by omega) (by omega))).trans (f217.two2 (by omega) (by omega))).trans (f249.two1 (by omega) (by omega))).trans (f262.two2 (by omega) (by omega))) (fun z => absurd (by rw [e.1] at z; exact z.1) u0) (fun _ => by rw [z0, z, e.2.1, pif_f u0]) (fun j hj => ((fs_off (by omega)).trans ((fs_off (by omega)).trans (hA3 j hj)))))
      · refine A.al4_0 d6_readsNode_266 ?_
        refine A.getf d6_readsNode_267 ?_ (hc := c0)
        refine A.il4_2 d6_readsNode_270 ?_
        refine A.iconst d6_readsNode_271 ?_
        refine A.iadd d6_readsNode_272 ?_
        refine A.al4_0 d6_readsNode_273 ?_
        refine A.bipush d6_readsNode_274 ?_
        refine A.v1 d6_readsNode_276 (s6_number (m := 29) c0 c6 hT b74 d74 (by omega) (fun h276 ps2 fa2 v2 e276 b276 d276 r276 i276 j276 f276 => kS ?_)) (hc := c0)
        have c2 := f276.get c2 (by omega)
        have c6 := f276.get c6 (by omega)
        have c0 := e276
        have i276 := i276 rfl
        refine A.iast d6_readsNode_279 (fun h279 e279 f279 => ?_) (hc := c2)
        first | (have c0 := (f279.2 _ (by omega)).trans c0) | (have c0 := e279)
        first | (have c2 := (f279.2 _ (by omega)).trans c2) | (have c2 := e279)
        first | (have c6 := (f279.2 _ (by omega)).trans c6) | (have c6 := e279)
        refine A.goto d6_readsNode_280 ?_
        have C0 := c0
        have C2 := c2
        have C6 := c6
        have k0 : kIdx (tc T ps) = 4 := by omega
        rw [k0] at hA1
        have e := nd_k4 (T := T) (p := ps) k0
        by_cases u0 : nmOk T 29 (sk T (ps + 1))
        · obtain ⟨rfl, rfl, rfl⟩ := i276.1 u0
          exact tail _ _ _ _ C0 C2 C6 b276 d276 (((hF.trans (f74.two1 (by omega) (by omega))).trans (f276.two1 (by omega) (by omega))).trans (f279.two2 (by omega) (by omega))) (fun _ => ⟨rfl, by rw [e.2.1], k0.symm ▸ rowI (by decide) (by rw [e.2.2.1]; exact ⟨rfl, rfl, rfl⟩) ((fs_off (by omega)).trans hA1) (fs_at (by omega)) ((fs_off (by omega)).trans (hA2 _ (by omega) (by omega))) ((fs_off (by omega)).trans (hA2 _ (by omega) (by omega)))⟩) (fun z => absurd (by rw [e.1]; exact u0) z) (fun j hj => ((fs_off (by omega)).trans (hA3 j hj)))
        · have z := i276.2 u0
          exact tail _ _ _ _ C0 C2 C6 b276 d276 (((hF.trans (f74.two1 (by omega) (by omega))).trans (f276.two1 (by omega) (by omega))).trans (f279.two2 (by omega) (by omega))) (fun z => absurd (by rw [e.1] at z; exact z) u0) (fun _ => by rw [z, e.2.1]) (fun j hj => ((fs_off (by omega)).trans (hA3 j hj)))
      · refine A.al4_0 d6_readsNode_283 ?_
        refine A.getf d6_readsNode_284 ?_ (hc := c0)
        refine A.il4_2 d6_readsNode_287 ?_
        refine A.iconst d6_readsNode_288 ?_
        refine A.iadd d6_readsNode_289 ?_
        refine A.al4_0 d6_readsNode_290 ?_
        refine A.iconst d6_readsNode_291 ?_
        refine A.v1 d6_readsNode_292 (s6_digit (m := 5) c0 c6 hT b74 d74 (by omega) (fun h292 ps2 fa2 v2 e292 b292 d292 r292 i292 j292 f292 => kS ?_)) (hc := c0)
        have c2 := f292.get c2 (by omega)
        have c6 := f292.get c6 (by omega)
        have c0 := e292
        have i292 := i292 rfl
        refine A.iast d6_readsNode_295 (fun h295 e295 f295 => ?_) (hc := c2)
        first | (have c0 := (f295.2 _ (by omega)).trans c0) | (have c0 := e295)
        first | (have c2 := (f295.2 _ (by omega)).trans c2) | (have c2 := e295)
        first | (have c6 := (f295.2 _ (by omega)).trans c6) | (have c6 := e295)
        refine A.al4_0 d6_readsNode_296 ?_
        refine A.getf d6_readsNode_297 ?_ (hc := c0)
        refine A.il4_2 d6_readsNode_300 ?_
        refine A.iconst d6_readsNode_301 ?_
        refine A.iadd d6_readsNode_302 ?_
        refine A.al4_0 d6_readsNode_303 ?_
        refine A.bipush d6_readsNode_304 ?_
        refine A.v1 d6_readsNode_306 (s6_number (m := 29) c0 c6 hT b292 d292 (by omega) (fun h306 ps3 fa3 v3 e306 b306 d306 r306 i306 j306 f306 => kS ?_)) (hc := c0)
        have c2 := f306.get c2 (by omega)
        have c6 := f306.get c6 (by omega)
        have c0 := e306
        
        refine A.iast d6_readsNode_309 (fun h309 e309 f309 => ?_) (hc := c2)
        first | (have c0 := (f309.2 _ (by omega)).trans c0) | (have c0 := e309)
        first | (have c2 := (f309.2 _ (by omega)).trans c2) | (have c2 := e309)
        first | (have c6 := (f309.2 _ (by omega)).trans c6) | (have c6 := e309)
        refine A.goto d6_readsNode_310 ?_
        have C0 := c0
        have C2 := c2
        have C6 := c6
        have k0 : kIdx (tc T ps) = 5 := by omega
        rw [k0] at hA1
        have e := nd_k5 (T := T) (p := ps) k0
        by_cases u0 : dgOk T 5 (sk T (ps + 1))
        · obtain ⟨rfl, rfl, rfl⟩ := i292.1 u0
          have i306 := i306 rfl
          by_cases u1 : nmOk T 29 (sk T (dgAt T 5 (sk T (ps + 1))))
          · obtain ⟨rfl, rfl, rfl⟩ := i306.1 u1
            exact tail _ _ _ _ C0 C2 C6 b306 d306 (((((hF.trans (f74.two1 (by omega) (by omega))).trans (f292.two1 (by omega) (by omega))).trans (f295.two2 (by omega) (by omega))).trans (f306.two1 (by omega) (by omega))).trans (f309.two2 (by omega) (by omega))) (fun _ => ⟨rfl, by rw [e.2.1, pif_t u0], k0.symm ▸ rowI (by decide) (by rw [e.2.2.1]; exact ⟨rfl, rfl, rfl⟩) ((fs_off (by omega)).trans ((fs_off (by omega)).trans hA1)) ((fs_off (by omega)).trans (fs_at (by omega))) (fs_at (by omega)) ((fs_off (by omega)).trans ((fs_off (by omega)).trans (hA2 _ (by omega) (by omega))))⟩) (fun z => absurd (by rw [e.1]; exact ⟨u0, u1⟩) z) (fun j hj => ((fs_off (by omega)).trans ((fs_off (by omega)).trans (hA3 j hj))))
          · have z := i306.2 u1
            exact tail _ _ _ _ C0 C2 C6 b306 d306 (((((hF.trans (f74.two1 (by omega) (by omega))).trans (f292.two1 (by omega) (by omega))).trans (f295.two2 (by omega) (by omega))).trans (f306.two1 (by omega) (by omega))).trans (f309.two2 (by omega) (by omega))) (fun z => absurd (by rw [e.1] at z; exact z.2) u1) (fun _ => by rw [z, e.2.1, pif_t u0]) (fun j hj => ((fs_off (by omega)).trans ((fs_off (by omega)).trans (hA3 j hj))))
        · have z := i292.2 u0
          have z0 := j306 (by rw [z]; first | omega | exact dgAt_ne (by omega) (by omega) | exact nmAt_ne (by omega) (by omega))
          exact tail _ _ _ _ C0 C2 C6 b306 d306 (((((hF.trans (f74.two1 (by omega) (by omega))).trans (f292.two1 (by omega) (by omega))).trans (f295.two2 (by omega) (by omega))).trans (f306.two1 (by omega) (by omega))).trans (f309.two2 (by omega) (by omega))) (fun z => absurd (by rw [e.1] at z; exact z.1) u0) (fun _ => by rw [z0, z, e.2.1, pif_f u0]) (fun j hj => ((fs_off (by omega)).trans ((fs_off (by omega)).trans (hA3 j hj))))
      · refine A.al4_0 d6_readsNode_313 ?_
        refine A.il4_2 d6_readsNode_314 ?_
        refine A.v1 d6_readsNode_315 (s6_readsOptions c0 c6 hT b74 d74 (sk_sk hT (by omega)) c2 (by omega) (by omega) (fun h315 ps2 fa2 A2 e315 g315 b315 d315 i315 o315 f315 => kN ?_)) (hc := c0)
        have c0 := e315
        have c2 := g315
        have c6 := f315.get c6 (by omega) (by omega)
        have eO := osR_sk hT 4 (a := ps + 1) (by omega)
        rw [eO] at i315
        obtain ⟨i315, n315⟩ := i315
        refine A.goto d6_readsNode_318 ?_
        have C0 := c0
        have C2 := c2
        have C6 := c6
        have k0 : kIdx (tc T ps) = 6 := by omega
        rw [k0] at hA1
        have e := nd_k6 (T := T) (p := ps) k0
        have hO : ∀ j, ¬ (12 * rd ≤ j ∧ j < 12 * rd + 12) → A2 j = B0 j := fun j hj => (o315 j (by omega)).trans (hA3 j hj)
        by_cases u0 : (osR T 4 (ps + 1)).1
        · obtain ⟨rfl, rfl, r1, r2⟩ := i315 u0
          exact tail _ _ _ _ C0 C2 C6 b315 d315 ((hF.trans (f74.two1 (by omega) (by omega))).trans f315) (fun _ => ⟨rfl, by rw [e.2.1]; exact (osR_ss hT (by omega) (by omega) u0).symm, k0.symm ▸ rowI6 ((o315 _ (by omega)).trans hA1) (by rw [e.2.2.2]; exact r1) ((o315 _ (by omega)).trans (hA2 _ (by omega) (by omega))) ((o315 _ (by omega)).trans (hA2 _ (by omega) (by omega))) (by rw [e.2.2.2]; exact r2)⟩) (fun z => absurd (by rw [e.1]; exact u0) z) hO
        · have z := n315 u0
          exact tail _ _ _ _ C0 C2 C6 b315 d315 ((hF.trans (f74.two1 (by omega) (by omega))).trans f315) (fun z => absurd (by rw [e.1] at z; exact z) u0) (fun _ => by rw [z, e.2.1]) hO
      · refine A.al4_0 d6_readsNode_321 ?_
        refine A.getf d6_readsNode_322 ?_ (hc := c0)
        refine A.il4_2 d6_readsNode_325 ?_
        refine A.iconst d6_readsNode_326 ?_
        refine A.iadd d6_readsNode_327 ?_
        refine A.al4_0 d6_readsNode_328 ?_
        refine A.bipush d6_readsNode_329 ?_
        refine A.v1 d6_readsNode_331 (s6_digit (m := 9) c0 c6 hT b74 d74 (by omega) (fun h331 ps2 fa2 v2 e331 b331 d331 r331 i331 j331 f331 => kS ?_)) (hc := c0)
        have c2 := f331.get c2 (by omega)
        have c6 := f331.get c6 (by omega)
        have c0 := e331
        have i331 := i331 rfl
        refine A.iast d6_readsNode_334 (fun h334 e334 f334 => ?_) (hc := c2)
        first | (have c0 := (f334.2 _ (by omega)).trans c0) | (have c0 := e334)
        first | (have c2 := (f334.2 _ (by omega)).trans c2) | (have c2 := e334)
        first | (have c6 := (f334.2 _ (by omega)).trans c6) | (have c6 := e334)
        have C0 := c0
        have C2 := c2
        have C6 := c6
        have k0 : kIdx (tc T ps) = 7 := by omega
        rw [k0] at hA1
        have e := nd_k7 (T := T) (p := ps) k0
        by_cases u0 : dgOk T 9 (sk T (ps + 1))
        · obtain ⟨rfl, rfl, rfl⟩ := i331.1 u0
          exact tail _ _ _ _ C0 C2 C6 b331 d331 (((hF.trans (f74.two1 (by omega) (by omega))).trans (f331.two1 (by omega) (by omega))).trans (f334.two2 (by omega) (by omega))) (fun _ => ⟨rfl, by rw [e.2.1], k0.symm ▸ rowI (by decide) (by rw [e.2.2.1]; exact ⟨rfl, rfl, rfl⟩) ((fs_off (by omega)).trans hA1) (fs_at (by omega)) ((fs_off (by omega)).trans (hA2 _ (by omega) (by omega))) ((fs_off (by omega)).trans (hA2 _ (by omega) (by omega)))⟩) (fun z => absurd (by rw [e.1]; exact u0) z) (fun j hj => ((fs_off (by omega)).trans (hA3 j hj)))
        · have z := i331.2 u0
          exact tail _ _ _ _ C0 C2 C6 b331 d331 (((hF.trans (f74.two1 (by omega) (by omega))).trans (f331.two1 (by omega) (by omega))).trans (f334.two2 (by omega) (by omega))) (fun z => absurd (by rw [e.1] at z; exact z) u0) (fun _ => by rw [z, e.2.1]) (fun j hj => ((fs_off (by omega)).trans (hA3 j hj)))
    have fill : ∀ (nf : Nat) (i : Nat) (A1 : Int → Int) (h1 : AH) (hi : i ≤ 12) (c0 : h1.2 q = some (mobj q n rd fi co ah se T.1 ps (-11) fl ch hx)) (c2 : h1.2 (q + 2) = some (kA 0 348 A1)) (c6 : h1.2 (q + 6) = some (kA 0 100 T.2)) (hF : Fr2 h h1 q 1 (q + 2) 1) (hA1 : 0 < i → A1 (12 * rd) = kIdx (tc T ps)) (hA2 : ∀ j, 12 * rd < j → j < 12 * rd + i → A1 j = -11) (hA3 : ∀ j, ¬ (12 * rd ≤ j ∧ j < 12 * rd + 12) → A1 j = B0 j) (hn : 12 - i < nf), AW m6_readsNode (d + 4) (mC m6_readsNode, mS m6_readsNode) 42 [some (vR q), some (vI (kIdx (tc T ps))), some (vI (12 * rd)), some (vI i)] [] h1 R := by
      intro nf
      induction nf with
      | zero => intro i  A1  h1  hi c0 c2 c6 hF hA1 hA2 hA3 hn; omega
      | succ nf ih =>
        intro i  A1  h1  hi c0 c2 c6 hF hA1 hA2 hA3 hn
        refine A.il4_3 d6_readsNode_42 ?_
        refine A.bipush d6_readsNode_43 ?_
        refine A.ic_ge d6_readsNode_45 (fun c45 => ?_) (fun c45 => ?_)
        · have e : i = 12 := by omega
          subst e
          exact mid _ _ c0 c2 c6 hF (hA1 (by omega)) hA2 hA3
        · refine A.al4_0 d6_readsNode_48 ?_
          refine A.getf d6_readsNode_49 ?_ (hc := c0)
          refine A.il4_2 d6_readsNode_52 ?_
          refine A.il4_3 d6_readsNode_53 ?_
          refine A.iadd d6_readsNode_54 ?_
          refine A.il4_3 d6_readsNode_55 ?_
          refine A.if_ne d6_readsNode_56 (fun c56 => ?_) (fun c56 => ?_)
          · refine A.bipush d6_readsNode_63 ?_
            refine A.iast d6_readsNode_65 (fun h65 e65 f65 => ?_) (hc := c2)
            first | (have c0 := (f65.2 _ (by omega)).trans c0) | (have c0 := e65)
            first | (have c2 := (f65.2 _ (by omega)).trans c2) | (have c2 := e65)
            first | (have c6 := (f65.2 _ (by omega)).trans c6) | (have c6 := e65)
            refine A.ii4_3 d6_readsNode_66 ?_
            refine A.goto d6_readsNode_69 ?_
            refine ih (i + 1) _ _ (by omega) c0 c2 c6 (hF.trans (f65.two2 (by omega) (by omega))) (fun _ => ?_) (fun j h0 h1 => ?_) (fun j hj => (fs_off (by omega)).trans (hA3 j hj)) (by omega)
            · first | (rw [fs_at (by omega)]; done) | exact (fs_off (by omega)).trans (hA1 (by omega))
            · first | (exfalso; omega) | (by_cases ej : j = 12 * rd + i; exact fs_at ej; exact (fs_off ej).trans (hA2 j h0 (by omega))) | exact (fs_off (by omega)).trans (hA2 j h0 (by omega))
          · refine A.il4_1 d6_readsNode_59 ?_
            refine A.goto d6_readsNode_60 ?_
            refine A.iast d6_readsNode_65 (fun h65 e65 f65 => ?_) (hc := c2)
            first | (have c0 := (f65.2 _ (by omega)).trans c0) | (have c0 := e65)
            first | (have c2 := (f65.2 _ (by omega)).trans c2) | (have c2 := e65)
            first | (have c6 := (f65.2 _ (by omega)).trans c6) | (have c6 := e65)
            refine A.ii4_3 d6_readsNode_66 ?_
            refine A.goto d6_readsNode_69 ?_
            refine ih (i + 1) _ _ (by omega) c0 c2 c6 (hF.trans (f65.two2 (by omega) (by omega))) (fun _ => ?_) (fun j h0 h1 => ?_) (fun j hj => (fs_off (by omega)).trans (hA3 j hj)) (by omega)
            · first | (rw [fs_at (by omega)]; done) | exact (fs_off (by omega)).trans (hA1 (by omega))
            · first | (exfalso; omega) | (by_cases ej : j = 12 * rd + i; exact fs_at ej; exact (fs_off ej).trans (hA2 j h0 (by omega))) | exact (fs_off (by omega)).trans (hA2 j h0 (by omega))
    refine A.bipush d6_readsNode_32 ?_
    refine A.al4_0 d6_readsNode_34 ?_
    refine A.getf d6_readsNode_35 ?_ (hc := c0)
    refine A.imul d6_readsNode_38 ?_
    refine A.is4_2 d6_readsNode_39 ?_
    refine A.iconst d6_readsNode_40 ?_
    refine A.is4_3 d6_readsNode_41 ?_
    exact fill 13 0 _ _ (by omega) c0 c2 c6 Fr2.rfl (fun z => absurd z (by omega)) (fun j z1 z2 => absurd z1 (by omega)) (fun j _ => rfl) (by omega)
  refine A.al4_0 d6_readsNode_0 ?_
  refine A.v0 d6_readsNode_1 (s6_next c0 c6 hT (by omega) (kS ?_)) (hc := c0)
  refine A.s1 d6_readsNode_4 (s6_kindOf (kS ?_))
  refine A.is4_1 d6_readsNode_7 ?_
  refine A.al4_0 d6_readsNode_8 ?_
  refine A.getf d6_readsNode_9 ?_ (hc := c0)
  refine A.bipush d6_readsNode_12 ?_
  refine A.ic_eq d6_readsNode_14 (fun c14 => ?_) (fun c14 => ?_)
  · refine A.al4_0 d6_readsNode_23 ?_
    refine A.al4_0 d6_readsNode_24 ?_
    refine A.getf d6_readsNode_25 ?_ (hc := c0)
    refine A.v1 d6_readsNode_28 (s6_fails c0 c6 hT (fun h28 e28 f28 => kN ?_)) (hc := c0)
    have c2 := f28.get c2 (by omega)
    have c6 := f28.get c6 (by omega)
    have c0 := e28
    
    refine A.vret d6_readsNode_31 ?_
    first
      | exact k _ _ _ _ _ c0 c2 hp hp2 ⟨hr0, hr1⟩ (fun y => absurd y.1 (by omega)) (fun _ => by rw [pif_t rfl, pif_t (by omega)]) (fun j _ => rfl) (Fr2.rfl.trans (f28.two1 (by omega) (by omega)))
      | (obtain ⟨e1, e2⟩ := nd_no (T := T) (p := ps) (hkm (by omega))
         exact k _ _ _ _ _ c0 c2 hp hp2 ⟨hr0, hr1⟩ (fun y => absurd y.2.1 (by rw [e1]; exact fun z => z)) (fun _ => by rw [pif_t rfl, pif_f (by omega), pif_f (by rw [e1]; exact fun z => z), e2]) (fun j _ => rfl) (Fr2.rfl.trans (f28.two1 (by omega) (by omega))))
  · refine A.il4_1 d6_readsNode_17 ?_
    refine A.bipush d6_readsNode_18 ?_
    refine A.ic_ne d6_readsNode_20 (fun c20 => ?_) (fun c20 => ?_)
    · exact g32 (by omega) (hkp c20).2 (hkp c20).1 _ _
    · refine A.al4_0 d6_readsNode_23 ?_
      refine A.al4_0 d6_readsNode_24 ?_
      refine A.getf d6_readsNode_25 ?_ (hc := c0)
      refine A.v1 d6_readsNode_28 (s6_fails c0 c6 hT (fun h28 e28 f28 => kN ?_)) (hc := c0)
      have c2 := f28.get c2 (by omega)
      have c6 := f28.get c6 (by omega)
      have c0 := e28
      
      refine A.vret d6_readsNode_31 ?_
      first
        | exact k _ _ _ _ _ c0 c2 hp hp2 ⟨hr0, hr1⟩ (fun y => absurd y.1 (by omega)) (fun _ => by rw [pif_t rfl, pif_t (by omega)]) (fun j _ => rfl) (Fr2.rfl.trans (f28.two1 (by omega) (by omega)))
        | (obtain ⟨e1, e2⟩ := nd_no (T := T) (p := ps) (hkm (by omega))
           exact k _ _ _ _ _ c0 c2 hp hp2 ⟨hr0, hr1⟩ (fun y => absurd y.2.1 (by rw [e1]; exact fun z => z)) (fun _ => by rw [pif_t rfl, pif_f (by omega), pif_f (by rw [e1]; exact fun z => z), e2]) (fun j _ => rfl) (Fr2.rfl.trans (f28.two1 (by omega) (by omega))))
