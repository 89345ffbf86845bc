/-! ===== Arrays.fill; Moment ===== -/
def fillN (v : Int) : Nat → (Int → Int) → (Int → Int)
  | 0, f => f
  | k + 1, f => fset (fillN v k f) k v
theorem fillN_in (v : Int) (f : Int → Int) : ∀ (n : Nat) (j : Int), 0 ≤ j → j < n → fillN v n f j = v := by
  intro n
  induction n with
  | zero => intro j h0 h1; omega
  | succ n ih =>
    intro j h0 h1
    show fset (fillN v n f) n v j = v
    unfold fset
    by_cases e : j = n
    · rw [if_pos e]
    · rw [if_neg e]; exact ih j h0 (by omega)
set_option maxRecDepth 100000 in
set_option maxHeartbeats 4000000 in
theorem s7_fill {d : Nat} {h : AH} {R : RP} {a N : Nat} {f : Int → Int} {v : Int} (c0 : h.2 a = some (kA 0 N f)) (hN : N ≤ 100000) (k : ∀ h', h'.2 a = some (kA 0 N (fillN v N f)) → Fr h h' a 1 → R none h') : AM mJ7_fill (d) h [vR a, vI v] R := by
  refine AM.of (L := [some (vR a), some (vI v), none, none]) ok_J7_fill (by decide) (fun G => Nat.le_of_ble_eq_true rfl) rfl ?_
  have loop : ∀ (nf : Nat) (i : Nat) (h1 : AH) (hi : i ≤ N) (c0 : h1.2 a = some (kA 0 N (fillN v i f))) (hF : Fr h h1 a 1) (hn : N - i < nf), AW mJ7_fill (d) (mC mJ7_fill, mS mJ7_fill) 5 [some (vR a), some (vI v), some (vI i), some (vI N)] [] h1 R := by
    intro nf
    induction nf with
    | zero => intro i  h1  hi c0 hF hn; omega
    | succ nf ih =>
      intro i  h1  hi c0 hF hn
      refine A.il4_2 dJ7_fill_5 ?_
      refine A.il4_3 dJ7_fill_6 ?_
      refine A.ic_ge dJ7_fill_7 (fun c7 => ?_) (fun c7 => ?_)
      · refine A.vret dJ7_fill_20 ?_
        have e : i = N := by omega
        subst e
        exact k _ c0 hF
      · refine A.al4_0 dJ7_fill_10 ?_
        refine A.il4_2 dJ7_fill_11 ?_
        refine A.il4_1 dJ7_fill_12 ?_
        refine A.iast dJ7_fill_13 (fun h13 e13 f13 => ?_) (hc := c0)
        first | (have c0 := (f13.2 _ (by omega)).trans c0) | (have c0 := e13)
        have F13 := f13.wide (a := a) (n := 1) (by omega) (by omega)
        refine A.ii4_2 dJ7_fill_14 ?_
        refine A.goto dJ7_fill_17 ?_
        exact ih (i + 1) _ (by omega) c0 (hF.then F13 (by omega) (by omega)) (by omega)
  refine A.iconst dJ7_fill_0 ?_
  refine A.is4_2 dJ7_fill_1 ?_
  refine A.al4_0 dJ7_fill_2 ?_
  refine A.alen dJ7_fill_3 ?_ (hc := c0)
  refine A.is4_3 dJ7_fill_4 ?_
  exact loop (N + 1) 0 h (by omega) c0 Fr.rfl (by omega)
/-- a Moment: node, flags, voices, faces -/
abbrev MO : Type := Int × Int × (Int → Int) × (Int → Int)
def moAt (h : AH) (a : Nat) (m : MO) : Prop := h.2 a = some (kO 1 [vI m.1, vI m.2.1, vR (a + 1), vR (a + 2)]) ∧ h.2 (a + 1) = some (kA 0 3 m.2.2.1) ∧ h.2 (a + 2) = some (kA 0 3 m.2.2.2)
theorem moAt.fr {h h' : AH} {a b n : Nat} {m : MO} (s : moAt h a m) (f : Fr h h' b n) (hd : a + 3 ≤ b ∨ b + n ≤ a) : moAt h' a m := by
  obtain ⟨s0, s1, s2⟩ := s
  exact ⟨f.get s0 (by omega), f.get s1 (by omega), f.get s2 (by omega)⟩
def hideF (v : Int) : Nat → (Int → Int) × (Int → Int) → (Int → Int) × (Int → Int)
  | 0, m => m
  | k + 1, m => if (hideF v k m).1 k = v then (fset (hideF v k m).1 k (-11), fset (hideF v k m).2 k (-11)) else hideF v k m
def hideM (m : MO) (v : Int) : MO := (m.1, m.2.1, hideF v 3 m.2.2)
def putM (m : MO) (p v f : Int) : MO := if 0 ≤ p ∧ p < 3 then (m.1, m.2.1, fset (hideM m v).2.2.1 p v, fset (hideM m v).2.2.2 p f) else hideM m v
def emptyM (m : MO) : MO := (0, 0, fillN (-11) 3 m.2.2.1, fillN (-11) 3 m.2.2.2)
noncomputable def cDo (S : SC) (m : MO) (v : Int) : MO × Int :=
  if cKind S v = 1 then (putM m (cNum S v 1) (cNum S v 0) (cNum S v 2), v + 1)
  else if cKind S v = 2 then (hideM m (cNum S v 0), v + 1)
  else if cKind S v = 3 then ((m.1, (if cNum S v 1 = 1 then bOr m.2.1 (bShl 1 (cNum S v 0)) else bAnd m.2.1 (bXor (bShl 1 (cNum S v 0)) (-1))), m.2.2), v + 1)
  else if cKind S v = 4 then (m, cNum S v 0)
  else if cKind S v = 5 then (m, pif (fon m.2.1 (cNum S v 0)) (cNum S v 1) (v + 1))
  else (m, v + 1)
noncomputable def cIt (S : SC) : Nat → MO × Int → MO × Int
  | 0, x => x
  | k + 1, x => pif (cShown S x.2) x (cIt S k (cDo S x.1 x.2))
noncomputable def cCome (S : SC) (m : MO) (v : Int) : MO := (pif (cShown S (cIt S 60 (m, v)).2) (cIt S 60 (m, v)).2 30, (cIt S 60 (m, v)).1.2)
set_option maxRecDepth 100000 in
set_option maxHeartbeats 4000000 in
theorem s1_hide {d : Nat} {h : AH} {R : RP} {v : Int} {a : Nat} {m : MO} (hM : moAt h a m) (k : ∀ h', moAt h' a (hideM m v) → Fr h h' a 3 → R none h') : AM m1_hide (d) h [vR a, vI v] R := by
  refine AM.of (L := [some (vR a), some (vI v), none]) ok_1_hide (by decide) (fun G => Nat.le_of_ble_eq_true rfl) rfl ?_
  have loop : ∀ (nf : Nat) (i : Nat) (h1 : AH) (hi : i ≤ 3) (hM : moAt h1 a (m.1, m.2.1, hideF v i m.2.2)) (hF : Fr h h1 a 3) (hn : 3 - i < nf), AW m1_hide (d) (mC m1_hide, mS m1_hide) 2 [some (vR a), some (vI v), some (vI i)] [] h1 R := by
    intro nf
    induction nf with
    | zero => intro i  h1  hi hM hF hn; omega
    | succ nf ih =>
      intro i  h1  hi hM hF hn
      obtain ⟨m0, m1, m2⟩ := hM
      refine A.il3_2 d1_hide_2 ?_
      refine A.iconst d1_hide_3 ?_
      refine A.ic_ge d1_hide_4 (fun c4 => ?_) (fun c4 => ?_)
      · refine A.vret d1_hide_39 ?_
        have e : i = 3 := by omega
        subst e
        exact k _ ⟨m0, m1, m2⟩ hF
      · refine A.al3_0 d1_hide_7 ?_
        refine A.getf d1_hide_8 ?_ (hc := m0)
        refine A.il3_2 d1_hide_11 ?_
        refine A.iald d1_hide_12 ?_ (hc := m1)
        refine A.il3_1 d1_hide_13 ?_
        refine A.ic_ne d1_hide_14 (fun c14 => ?_) (fun c14 => ?_)
        · refine A.ii3_2 d1_hide_33 ?_
          refine A.goto d1_hide_36 ?_
          exact ih (i + 1) _ (by omega) (by first | (rw [show hideF v (i + 1) m.2.2 = _ from if_pos c14]; exact ⟨m0, m1, m2⟩) | (rw [show hideF v (i + 1) m.2.2 = _ from if_neg c14]; exact ⟨m0, m1, m2⟩)) (by first | exact hF.then None (by omega) (by omega) | exact hF) (by omega)
        · refine A.al3_0 d1_hide_17 ?_
          refine A.getf d1_hide_18 ?_ (hc := m0)
          refine A.il3_2 d1_hide_21 ?_
          refine A.bipush d1_hide_22 ?_
          refine A.iast d1_hide_24 (fun h24 e24 f24 => ?_) (hc := m1)
          first | (have m0 := (f24.2 _ (by omega)).trans m0) | (have m0 := e24)
          first | (have m1 := (f24.2 _ (by omega)).trans m1) | (have m1 := e24)
          first | (have m2 := (f24.2 _ (by omega)).trans m2) | (have m2 := e24)
          have F24 := f24.wide (a := a) (n := 3) (by omega) (by omega)
          refine A.al3_0 d1_hide_25 ?_
          refine A.getf d1_hide_26 ?_ (hc := m0)
          refine A.il3_2 d1_hide_29 ?_
          refine A.bipush d1_hide_30 ?_
          refine A.iast d1_hide_32 (fun h32 e32 f32 => ?_) (hc := m2)
          first | (have m0 := (f32.2 _ (by omega)).trans m0) | (have m0 := e32)
          first | (have m1 := (f32.2 _ (by omega)).trans m1) | (have m1 := e32)
          first | (have m2 := (f32.2 _ (by omega)).trans m2) | (have m2 := e32)
          have F32 := F24.then f32 (by omega) (by omega)
          refine A.ii3_2 d1_hide_33 ?_
          refine A.goto d1_hide_36 ?_
          exact ih (i + 1) _ (by omega) (by first | (rw [show hideF v (i + 1) m.2.2 = _ from if_pos c14]; exact ⟨m0, m1, m2⟩) | (rw [show hideF v (i + 1) m.2.2 = _ from if_neg c14]; exact ⟨m0, m1, m2⟩)) (by first | exact hF.then F32 (by omega) (by omega) | exact hF) (by omega)
  refine A.iconst d1_hide_0 ?_
  refine A.is3_2 d1_hide_1 ?_
  exact loop 4 0 h (by omega) hM Fr.rfl (by omega)
set_option maxRecDepth 100000 in
set_option maxHeartbeats 4000000 in
theorem s1_putAt {d : Nat} {h : AH} {R : RP} {p v f : Int} {a : Nat} {m : MO} (hM : moAt h a m) (k : ∀ h', moAt h' a (putM m p v f) → Fr h h' a 3 → R none h') : AM m1_putAt (d + 1) h [vR a, vI p, vI v, vI f] R := by
  refine AM.of (L := [some (vR a), some (vI p), some (vI v), some (vI f)]) ok_1_putAt (by decide) (fun G => Nat.le_of_ble_eq_true rfl) rfl ?_
  refine A.al4_0 d1_putAt_0 ?_
  refine A.il4_2 d1_putAt_1 ?_
  refine A.v1 d1_putAt_2 (s1_hide hM (fun h2 hM2 F2 => kN ?_)) (hc := hM.1)
  obtain ⟨m0, m1, m2⟩ := hM2
  refine A.il4_1 d1_putAt_5 ?_
  refine A.if_lt d1_putAt_6 (fun c6 => ?_) (fun c6 => ?_)
  · refine A.vret d1_putAt_28 ?_
    first | exact k _ (by unfold putM; rw [if_pos (by omega)]; exact ⟨m0, m1, m2⟩) (F2.then None (by omega) (by omega)) | exact k _ (by unfold putM; rw [if_neg (by omega)]; exact ⟨m0, m1, m2⟩) F2
  · refine A.il4_1 d1_putAt_9 ?_
    refine A.iconst d1_putAt_10 ?_
    refine A.ic_ge d1_putAt_11 (fun c11 => ?_) (fun c11 => ?_)
    · refine A.vret d1_putAt_28 ?_
      first | exact k _ (by unfold putM; rw [if_pos (by omega)]; exact ⟨m0, m1, m2⟩) (F2.then None (by omega) (by omega)) | exact k _ (by unfold putM; rw [if_neg (by omega)]; exact ⟨m0, m1, m2⟩) F2
    · refine A.al4_0 d1_putAt_14 ?_
      refine A.getf d1_putAt_15 ?_ (hc := m0)
      refine A.il4_1 d1_putAt_18 ?_
      refine A.il4_2 d1_putAt_19 ?_
      refine A.iast d1_putAt_20 (fun h20 e20 f20 => ?_) (hc := m1)
      first | (have m0 := (f20.2 _ (by omega)).trans m0) | (have m0 := e20)
      first | (have m1 := (f20.2 _ (by omega)).trans m1) | (have m1 := e20)
      first | (have m2 := (f20.2 _ (by omega)).trans m2) | (have m2 := e20)
      have F20 := f20.wide (a := a) (n := 3) (by omega) (by omega)
      refine A.al4_0 d1_putAt_21 ?_
      refine A.getf d1_putAt_22 ?_ (hc := m0)
      refine A.il4_1 d1_putAt_25 ?_
      refine A.il4_3 d1_putAt_26 ?_
      refine A.iast d1_putAt_27 (fun h27 e27 f27 => ?_) (hc := m2)
      first | (have m0 := (f27.2 _ (by omega)).trans m0) | (have m0 := e27)
      first | (have m1 := (f27.2 _ (by omega)).trans m1) | (have m1 := e27)
      first | (have m2 := (f27.2 _ (by omega)).trans m2) | (have m2 := e27)
      have F27 := F20.then f27 (by omega) (by omega)
      refine A.vret d1_putAt_28 ?_
      first | exact k _ (by unfold putM; rw [if_pos (by omega)]; exact ⟨m0, m1, m2⟩) (F2.then F27 (by omega) (by omega)) | exact k _ (by unfold putM; rw [if_neg (by omega)]; exact ⟨m0, m1, m2⟩) F2
set_option maxRecDepth 100000 in
set_option maxHeartbeats 4000000 in
theorem s1_makeEmpty {d : Nat} {h : AH} {R : RP} {a : Nat} {m : MO} (hM : moAt h a m) (k : ∀ h', moAt h' a (emptyM m) → Fr h h' a 3 → R none h') : AM m1_makeEmpty (d + 1) h [vR a] R := by
  refine AM.of (L := [some (vR a)]) ok_1_makeEmpty (by decide) (fun G => Nat.le_of_ble_eq_true rfl) rfl ?_
  obtain ⟨m0, m1, m2⟩ := hM
  refine A.al1_0 d1_makeEmpty_0 ?_
  refine A.iconst d1_makeEmpty_1 ?_
  refine A.putf d1_makeEmpty_2 (fun h2 e2 f2 => ?_) (hc := m0) (hk := blt_ok rfl)
  first | (have m0 := (f2.2 _ (by omega)).trans m0) | (have m0 := e2)
  first | (have m1 := (f2.2 _ (by omega)).trans m1) | (have m1 := e2)
  first | (have m2 := (f2.2 _ (by omega)).trans m2) | (have m2 := e2)
  have F2 := f2.wide (a := a) (n := 3) (by omega) (by omega)
  refine A.al1_0 d1_makeEmpty_5 ?_
  refine A.iconst d1_makeEmpty_6 ?_
  refine A.putf d1_makeEmpty_7 (fun h7 e7 f7 => ?_) (hc := m0) (hk := blt_ok rfl)
  first | (have m0 := (f7.2 _ (by omega)).trans m0) | (have m0 := e7)
  first | (have m1 := (f7.2 _ (by omega)).trans m1) | (have m1 := e7)
  first | (have m2 := (f7.2 _ (by omega)).trans m2) | (have m2 := e7)
  have F7 := F2.then f7 (by omega) (by omega)
  refine A.al1_0 d1_makeEmpty_10 ?_
  refine A.getf d1_makeEmpty_11 ?_ (hc := m0)
  refine A.bipush d1_makeEmpty_14 ?_
  refine A.s2 d1_makeEmpty_16 (s7_fill m1 (by omega) (fun h16 e16 f16 => kN ?_))
  first | (have m0 := (f16.2 _ (by omega)).trans m0) | (have m0 := e16) | skip
  first | (have m1 := (f16.2 _ (by omega)).trans m1) | (have m1 := e16) | skip
  first | (have m2 := (f16.2 _ (by omega)).trans m2) | (have m2 := e16) | skip
  have F16 := F7.then f16 (by omega) (by omega)
  refine A.al1_0 d1_makeEmpty_19 ?_
  refine A.getf d1_makeEmpty_20 ?_ (hc := m0)
  refine A.bipush d1_makeEmpty_23 ?_
  refine A.s2 d1_makeEmpty_25 (s7_fill m2 (by omega) (fun h25 e25 f25 => kN ?_))
  first | (have m0 := (f25.2 _ (by omega)).trans m0) | (have m0 := e25) | skip
  first | (have m1 := (f25.2 _ (by omega)).trans m1) | (have m1 := e25) | skip
  first | (have m2 := (f25.2 _ (by omega)).trans m2) | (have m2 := e25) | skip
  have F25 := F16.then f25 (by omega) (by omega)
  refine A.vret d1_makeEmpty_28 ?_
  exact k _ ⟨m0, m1, m2⟩ F25
set_option maxRecDepth 100000 in
set_option maxHeartbeats 4000000 in
theorem s1_makeLike {d : Nat} {h : AH} {R : RP} {a b : Nat} {m m' : MO} (hM : moAt h a m) (hO : moAt h b m') (hd : a + 3 ≤ b ∨ b + 3 ≤ a) (k : ∀ h', moAt h' a m' → Fr h h' a 3 → R none h') : AM m1_makeLike (d + 1) h [vR a, vR b] R := by
  refine AM.of (L := [some (vR a), some (vR b)]) ok_1_makeLike (by decide) (fun G => Nat.le_of_ble_eq_true rfl) rfl ?_
  obtain ⟨m0, m1, m2⟩ := hM
  obtain ⟨o0, o1, o2⟩ := hO
  refine A.al2_0 d1_makeLike_0 ?_
  refine A.al2_1 d1_makeLike_1 ?_
  refine A.getf d1_makeLike_2 ?_ (hc := o0)
  refine A.putf d1_makeLike_5 (fun h5 e5 f5 => ?_) (hc := m0) (hk := blt_ok rfl)
  first | (have m0 := (f5.2 _ (by omega)).trans m0) | (have m0 := e5)
  first | (have m1 := (f5.2 _ (by omega)).trans m1) | (have m1 := e5)
  first | (have m2 := (f5.2 _ (by omega)).trans m2) | (have m2 := e5)
  first | (have o0 := (f5.2 _ (by omega)).trans o0) | (have o0 := e5)
  first | (have o1 := (f5.2 _ (by omega)).trans o1) | (have o1 := e5)
  first | (have o2 := (f5.2 _ (by omega)).trans o2) | (have o2 := e5)
  have F5 := f5.wide (a := a) (n := 3) (by omega) (by omega)
  refine A.al2_0 d1_makeLike_8 ?_
  refine A.al2_1 d1_makeLike_9 ?_
  refine A.getf d1_makeLike_10 ?_ (hc := o0)
  refine A.putf d1_makeLike_13 (fun h13 e13 f13 => ?_) (hc := m0) (hk := blt_ok rfl)
  first | (have m0 := (f13.2 _ (by omega)).trans m0) | (have m0 := e13)
  first | (have m1 := (f13.2 _ (by omega)).trans m1) | (have m1 := e13)
  first | (have m2 := (f13.2 _ (by omega)).trans m2) | (have m2 := e13)
  first | (have o0 := (f13.2 _ (by omega)).trans o0) | (have o0 := e13)
  first | (have o1 := (f13.2 _ (by omega)).trans o1) | (have o1 := e13)
  first | (have o2 := (f13.2 _ (by omega)).trans o2) | (have o2 := e13)
  have F13 := F5.then f13 (by omega) (by omega)
  refine A.al2_1 d1_makeLike_16 ?_
  refine A.getf d1_makeLike_17 ?_ (hc := o0)
  refine A.iconst d1_makeLike_20 ?_
  refine A.al2_0 d1_makeLike_21 ?_
  refine A.getf d1_makeLike_22 ?_ (hc := m0)
  refine A.iconst d1_makeLike_25 ?_
  refine A.iconst d1_makeLike_26 ?_
  refine A.acopy d1_makeLike_27 o1 m1 (fun h27 e27 f27 => ?_) rfl (by omega) (Nat.le_of_ble_eq_true rfl)
  first | (have m0 := (f27.2 _ (by omega)).trans m0) | (have m0 := e27) | skip
  first | (have m1 := (f27.2 _ (by omega)).trans m1) | (have m1 := e27) | skip
  first | (have m2 := (f27.2 _ (by omega)).trans m2) | (have m2 := e27) | skip
  first | (have o0 := (f27.2 _ (by omega)).trans o0) | (have o0 := e27) | skip
  first | (have o1 := (f27.2 _ (by omega)).trans o1) | (have o1 := e27) | skip
  first | (have o2 := (f27.2 _ (by omega)).trans o2) | (have o2 := e27) | skip
  have F27 := F13.then f27 (by omega) (by omega)
  refine A.al2_1 d1_makeLike_30 ?_
  refine A.getf d1_makeLike_31 ?_ (hc := o0)
  refine A.iconst d1_makeLike_34 ?_
  refine A.al2_0 d1_makeLike_35 ?_
  refine A.getf d1_makeLike_36 ?_ (hc := m0)
  refine A.iconst d1_makeLike_39 ?_
  refine A.iconst d1_makeLike_40 ?_
  refine A.acopy d1_makeLike_41 o2 m2 (fun h41 e41 f41 => ?_) rfl (by omega) (Nat.le_of_ble_eq_true rfl)
  first | (have m0 := (f41.2 _ (by omega)).trans m0) | (have m0 := e41) | skip
  first | (have m1 := (f41.2 _ (by omega)).trans m1) | (have m1 := e41) | skip
  first | (have m2 := (f41.2 _ (by omega)).trans m2) | (have m2 := e41) | skip
  first | (have o0 := (f41.2 _ (by omega)).trans o0) | (have o0 := e41) | skip
  first | (have o1 := (f41.2 _ (by omega)).trans o1) | (have o1 := e41) | skip
  first | (have o2 := (f41.2 _ (by omega)).trans o2) | (have o2 := e41) | skip
  have F41 := F27.then f41 (by omega) (by omega)
  refine A.vret d1_makeLike_44 ?_
  exact k _ ⟨m0, m1, m2⟩ F41
