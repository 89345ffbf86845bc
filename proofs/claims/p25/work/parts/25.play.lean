/-! ===== Play ===== -/
def mset (M : Int → MO) (i : Int) (m : MO) : Int → MO := fun j => if j = i then m else M j
theorem mset_s (M : Int → MO) (i : Int) (m : MO) : mset M i m i = m := if_pos rfl
theorem mset_n (M : Int → MO) {i j : Int} (m : MO) (h : j ≠ i) : mset M i m j = M j := if_neg h
/-- the moments at their addresses, apart -/
def fam (h : AH) (p : Nat) (ad : Int → Nat) (M : Int → MO) : Prop := (∀ i : Int, 0 ≤ i → i < 20 → p + 5 ≤ ad i ∧ ad i + 3 ≤ p + 65 ∧ moAt h (ad i) (M i)) ∧ ∀ i j : Int, 0 ≤ i → i < 20 → 0 ≤ j → j < 20 → i ≠ j → ad i + 3 ≤ ad j ∨ ad j + 3 ≤ ad i
theorem fam.fr {h h' : AH} {p b n : Nat} {ad : Int → Nat} {M : Int → MO} (s : fam h p ad M) (f : Fr h h' b n) (hd : b + n ≤ p + 5 ∨ p + 65 ≤ b) : fam h' p ad M :=
  ⟨fun i h0 h1 => by obtain ⟨q1, q2, q3⟩ := s.1 i h0 h1; exact ⟨q1, q2, q3.fr f (by omega)⟩, s.2⟩
theorem fam.put {h h' : AH} {p : Nat} {ad : Int → Nat} {M : Int → MO} {i : Int} {m : MO} (s : fam h p ad M) (h0 : 0 ≤ i) (h1 : i < 20) (f : Fr h h' (ad i) 3) (hm : moAt h' (ad i) m) : fam h' p ad (mset M i m) :=
  ⟨fun j j0 j1 => by
    obtain ⟨q1, q2, q3⟩ := s.1 j j0 j1
    by_cases e : j = i
    · subst e
      rw [mset_s]
      exact ⟨q1, q2, hm⟩
    · rw [mset_n M m e]
      exact ⟨q1, q2, q3.fr f (by have := s.2 i j h0 h1 j0 j1 (fun z => e z.symm); omega)⟩, s.2⟩
def sav (h : AH) (p : Nat) (V : Int → MO) : Prop := ∀ j : Int, 0 ≤ j → j < 3 → moAt h (p + 65 + 3 * j.toNat) (V j)
theorem sav.fr {h h' : AH} {p b n : Nat} {V : Int → MO} (s : sav h p V) (f : Fr h h' b n) (hd : b + n ≤ p + 65 ∨ p + 74 ≤ b) : sav h' p V := fun j h0 h1 => (s j h0 h1).fr f (by omega)
theorem sav.put {h h' : AH} {p : Nat} {V : Int → MO} {i : Int} {m : MO} (s : sav h p V) (h0 : 0 ≤ i) (h1 : i < 3) (f : Fr h h' (p + 65 + 3 * i.toNat) 3) (hm : moAt h' (p + 65 + 3 * i.toNat) m) : sav h' p (mset V i m) := fun j j0 j1 => by
  by_cases e : j = i
  · subst e
    rw [mset_s]
    exact hm
  · rw [mset_n V m e]
    exact (s j j0 j1).fr f (by omega)
/-- a Play: kept, present, the moments' addresses, the moments, which are saved, which are seen, what is saved -/
abbrev PL : Type := Int × Int × (Int → Nat) × (Int → MO) × (Int → Int) × (Int → Int) × (Int → MO)
def plAt (h : AH) (p : Nat) (P : PL) : Prop := ∃ (g sg : Int → Option Nat), h.2 p = some (kO 2 [vR (p + 1), vI P.1, vI P.2.1, vR (p + 2), vR (p + 3), vR (p + 4)]) ∧ h.2 (p + 1) = some (kQ 20 g) ∧ h.2 (p + 2) = some (kQ 3 sg) ∧ h.2 (p + 3) = some (kA 2 3 P.2.2.2.2.1) ∧ h.2 (p + 4) = some (kA 2 31 P.2.2.2.2.2.1) ∧
  (∀ i : Int, 0 ≤ i → i < 20 → g i = some (P.2.2.1 i)) ∧ (∀ j : Int, 0 ≤ j → j < 3 → sg j = some (p + 65 + 3 * j.toNat)) ∧ fam h p P.2.2.1 P.2.2.2.1 ∧ sav h p P.2.2.2.2.2.2
theorem plAt.fr {h h' : AH} {p b n : Nat} {P : PL} (s : plAt h p P) (f : Fr h h' b n) (hd : p + 74 ≤ b ∨ b + n ≤ p) : plAt h' p P := by
  obtain ⟨g, sg, p0, p1, p2, p3, p4, q1, q2, q3, q4⟩ := s
  exact ⟨g, sg, f.get p0 (by omega), f.get p1 (by omega), f.get p2 (by omega), f.get p3 (by omega), f.get p4 (by omega), q1, q2, q3.fr f (by omega), q4.fr f (by omega)⟩
set_option maxRecDepth 100000 in
set_option maxHeartbeats 4000000 in
theorem s2_now {d : Nat} {h : AH} {R : RP} {p a : Nat} {pr : Int} {g : Int → Option Nat} {fs : List AV} (p0 : h.2 p = some (kO 2 fs)) (q1 : fs[0]? = some (vR (p + 1))) (q2 : fs[2]? = some (vI pr)) (p1 : h.2 (p + 1) = some (kQ 20 g)) (hg : g pr = some a) (h0 : 0 ≤ pr) (h1 : pr < 20) (k : R (some (vR a)) h) : AM m2_now (d) h [vR p] R := by
  refine AM.of (L := [some (vR p)]) ok_2_now (by decide) (fun G => Nat.le_of_ble_eq_true rfl) rfl ?_
  refine A.al1_0 d2_now_0 ?_
  refine A.getf d2_now_1 ?_ (hc := p0) (hv := q1)
  refine A.al1_0 d2_now_4 ?_
  refine A.getf d2_now_5 ?_ (hc := p0) (hv := q2)
  refine A.if_lt d2_now_8 (fun c8 => absurd c8 (by omega)) (fun c8 => ?_)
  refine A.al1_0 d2_now_11 ?_
  refine A.getf d2_now_12 ?_ (hc := p0) (hv := q2)
  refine A.bipush d2_now_15 ?_
  refine A.ic_ge d2_now_17 (fun c17 => absurd c17 (by omega)) (fun c17 => ?_)
  refine A.al1_0 d2_now_20 ?_
  refine A.getf d2_now_21 ?_ (hc := p0) (hv := q2)
  refine A.goto d2_now_24 ?_
  refine A.qald d2_now_28 (by assumption) ?_ (hc := p1)
  refine A.aret d2_now_29 ?_
  exact k
set_option maxRecDepth 100000 in
set_option maxHeartbeats 4000000 in
theorem s2_keepOneMoment {d : Nat} {h : AH} {R : RP} {p : Nat} {P : PL} (hP : plAt h p P) (k : ∀ h', plAt h' p (1, 0, P.2.2) → Fr h h' p 74 → R none h') : AM m2_keepOneMoment (d) h [vR p] R := by
  refine AM.of (L := [some (vR p)]) ok_2_keepOneMoment (by decide) (fun G => Nat.le_of_ble_eq_true rfl) rfl ?_
  obtain ⟨g, sg, p0, p1, p2, p3, p4, hg, hsg, hF, hV⟩ := hP
  refine A.al1_0 d2_keepOneMoment_0 ?_
  refine A.iconst d2_keepOneMoment_1 ?_
  refine A.putf d2_keepOneMoment_2 (fun h2 e2 f2 => ?_) (hc := p0) (hk := blt_ok rfl)
  first | (have p0 := (f2.2 _ (by omega)).trans p0) | (have p0 := e2)
  first | (have p1 := (f2.2 _ (by omega)).trans p1) | (have p1 := e2)
  first | (have p2 := (f2.2 _ (by omega)).trans p2) | (have p2 := e2)
  first | (have p3 := (f2.2 _ (by omega)).trans p3) | (have p3 := e2)
  first | (have p4 := (f2.2 _ (by omega)).trans p4) | (have p4 := e2)
  have hF := hF.fr f2 (by omega)
  have hV := hV.fr f2 (by omega)
  have F2 := f2.wide (a := p) (n := 74) (by omega) (by omega)
  refine A.al1_0 d2_keepOneMoment_5 ?_
  refine A.iconst d2_keepOneMoment_6 ?_
  refine A.putf d2_keepOneMoment_7 (fun h7 e7 f7 => ?_) (hc := p0) (hk := blt_ok rfl)
  first | (have p0 := (f7.2 _ (by omega)).trans p0) | (have p0 := e7)
  first | (have p1 := (f7.2 _ (by omega)).trans p1) | (have p1 := e7)
  first | (have p2 := (f7.2 _ (by omega)).trans p2) | (have p2 := e7)
  first | (have p3 := (f7.2 _ (by omega)).trans p3) | (have p3 := e7)
  first | (have p4 := (f7.2 _ (by omega)).trans p4) | (have p4 := e7)
  have hF := hF.fr f7 (by omega)
  have hV := hV.fr f7 (by omega)
  have F7 := F2.then f7 (by omega) (by omega)
  refine A.vret d2_keepOneMoment_10 ?_
  exact k _ ⟨g, sg, p0, p1, p2, p3, p4, hg, hsg, hF, hV⟩ F7
set_option maxRecDepth 100000 in
set_option maxHeartbeats 4000000 in
theorem s2_turnBack {d : Nat} {h : AH} {R : RP} {t : Int} {p : Nat} {P : PL} (hP : plAt h p P) (hp0 : 0 ≤ P.2.1) (hp1 : P.2.1 < 20) (k : ∀ h', plAt h' p (pif (0 ≤ t ∧ t ≤ P.2.1) (P.1, P.2.1 - t, P.2.2) P) → Fr h h' p 74 → R (some (vI (bi (0 ≤ t ∧ t ≤ P.2.1)))) h') : AM m2_turnBack (d) h [vR p, vI t] R := by
  refine AM.of (L := [some (vR p), some (vI t)]) ok_2_turnBack (by decide) (fun G => Nat.le_of_ble_eq_true rfl) rfl ?_
  obtain ⟨g, sg, p0, p1, p2, p3, p4, hg, hsg, hF, hV⟩ := hP
  refine A.il2_1 d2_turnBack_0 ?_
  refine A.if_lt d2_turnBack_1 (fun c1 => ?_) (fun c1 => ?_)
  · refine A.iconst d2_turnBack_12 ?_
    refine A.zret d2_turnBack_13 ?_
    exact rF (k _ (by rw [pif_f (by omega)]; exact ⟨g, sg, p0, p1, p2, p3, p4, hg, hsg, hF, hV⟩) Fr.rfl) (by omega)
  · refine A.il2_1 d2_turnBack_4 ?_
    refine A.al2_0 d2_turnBack_5 ?_
    refine A.getf d2_turnBack_6 ?_ (hc := p0)
    refine A.ic_le d2_turnBack_9 (fun c9 => ?_) (fun c9 => ?_)
    · refine A.al2_0 d2_turnBack_14 ?_
      refine A.dup d2_turnBack_15 ?_
      refine A.getf d2_turnBack_16 ?_ (hc := p0)
      refine A.il2_1 d2_turnBack_19 ?_
      refine A.isub d2_turnBack_20 ?_
      refine A.putf d2_turnBack_21 (fun h21 e21 f21 => ?_) (hc := p0) (hk := blt_ok rfl)
      first | (have p0 := (f21.2 _ (by omega)).trans p0) | (have p0 := e21)
      first | (have p1 := (f21.2 _ (by omega)).trans p1) | (have p1 := e21)
      first | (have p2 := (f21.2 _ (by omega)).trans p2) | (have p2 := e21)
      first | (have p3 := (f21.2 _ (by omega)).trans p3) | (have p3 := e21)
      first | (have p4 := (f21.2 _ (by omega)).trans p4) | (have p4 := e21)
      have hF := hF.fr f21 (by omega)
      have hV := hV.fr f21 (by omega)
      have F21 := f21.wide (a := p) (n := 74) (by omega) (by omega)
      refine A.iconst d2_turnBack_24 ?_
      refine A.zret d2_turnBack_25 ?_
      exact rT (k _ (by rw [pif_t (by omega)]; exact ⟨g, sg, p0, p1, p2, p3, p4, hg, hsg, hF, hV⟩) F21) (by omega)
    · refine A.iconst d2_turnBack_12 ?_
      refine A.zret d2_turnBack_13 ?_
      exact rF (k _ (by rw [pif_f (by omega)]; exact ⟨g, sg, p0, p1, p2, p3, p4, hg, hsg, hF, hV⟩) Fr.rfl) (by omega)
set_option maxRecDepth 100000 in
set_option maxHeartbeats 4000000 in
theorem s2_turnForth {d : Nat} {h : AH} {R : RP} {p : Nat} {P : PL} (hP : plAt h p P) (hp0 : 0 ≤ P.2.1) (hp1 : P.2.1 < 20) (k : ∀ h', plAt h' p (pif (P.2.1 + 1 < P.1) (P.1, P.2.1 + 1, P.2.2) P) → Fr h h' p 74 → R (some (vI (bi (P.2.1 + 1 < P.1)))) h') : AM m2_turnForth (d) h [vR p] R := by
  refine AM.of (L := [some (vR p)]) ok_2_turnForth (by decide) (fun G => Nat.le_of_ble_eq_true rfl) rfl ?_
  obtain ⟨g, sg, p0, p1, p2, p3, p4, hg, hsg, hF, hV⟩ := hP
  refine A.al1_0 d2_turnForth_0 ?_
  refine A.getf d2_turnForth_1 ?_ (hc := p0)
  refine A.iconst d2_turnForth_4 ?_
  refine A.iadd d2_turnForth_5 ?_
  refine A.al1_0 d2_turnForth_6 ?_
  refine A.getf d2_turnForth_7 ?_ (hc := p0)
  refine A.ic_lt d2_turnForth_10 (fun c10 => ?_) (fun c10 => ?_)
  · refine A.al1_0 d2_turnForth_15 ?_
    refine A.dup d2_turnForth_16 ?_
    refine A.getf d2_turnForth_17 ?_ (hc := p0)
    refine A.iconst d2_turnForth_20 ?_
    refine A.iadd d2_turnForth_21 ?_
    refine A.putf d2_turnForth_22 (fun h22 e22 f22 => ?_) (hc := p0) (hk := blt_ok rfl)
    first | (have p0 := (f22.2 _ (by omega)).trans p0) | (have p0 := e22)
    first | (have p1 := (f22.2 _ (by omega)).trans p1) | (have p1 := e22)
    first | (have p2 := (f22.2 _ (by omega)).trans p2) | (have p2 := e22)
    first | (have p3 := (f22.2 _ (by omega)).trans p3) | (have p3 := e22)
    first | (have p4 := (f22.2 _ (by omega)).trans p4) | (have p4 := e22)
    have hF := hF.fr f22 (by omega)
    have hV := hV.fr f22 (by omega)
    have F22 := f22.wide (a := p) (n := 74) (by omega) (by omega)
    refine A.iconst d2_turnForth_25 ?_
    refine A.zret d2_turnForth_26 ?_
    exact rT (k _ (by rw [pif_t (by omega)]; exact ⟨g, sg, p0, p1, p2, p3, p4, hg, hsg, hF, hV⟩) F22) (by omega)
  · refine A.iconst d2_turnForth_13 ?_
    refine A.zret d2_turnForth_14 ?_
    exact rF (k _ (by rw [pif_f (by omega)]; exact ⟨g, sg, p0, p1, p2, p3, p4, hg, hsg, hF, hV⟩) Fr.rfl) (by omega)
def seeP (P : PL) (v : Int) : PL := if 0 ≤ v ∧ v < 31 then (P.1, P.2.1, P.2.2.1, P.2.2.2.1, P.2.2.2.2.1, fset P.2.2.2.2.2.1 v 1, P.2.2.2.2.2.2) else P
def seenB (P : PL) (v : Int) : Int := if 0 ≤ v ∧ v < 31 then P.2.2.2.2.2.1 v else 0
set_option maxRecDepth 100000 in
set_option maxHeartbeats 4000000 in
theorem s2_see {d : Nat} {h : AH} {R : RP} {v : Int} {p : Nat} {P : PL} (hP : plAt h p P) (hb : ∀ v, 0 ≤ v → v < 31 → 0 ≤ P.2.2.2.2.2.1 v ∧ P.2.2.2.2.2.1 v ≤ 1) (k : ∀ h', plAt h' p (seeP P v) → Fr h h' p 74 → R (some (vI (seenB P v))) h') : AM m2_see (d) h [vR p, vI v] R := by
  refine AM.of (L := [some (vR p), some (vI v), none]) ok_2_see (by decide) (fun G => Nat.le_of_ble_eq_true rfl) rfl ?_
  obtain ⟨g, sg, p0, p1, p2, p3, p4, hg, hsg, hF, hV⟩ := hP
  refine A.il3_1 d2_see_0 ?_
  refine A.if_lt d2_see_1 (fun c1 => ?_) (fun c1 => ?_)
  · refine A.iconst d2_see_10 ?_
    refine A.zret d2_see_11 ?_
    exact rI (k _ (by unfold seeP; rw [if_neg (by omega)]; exact ⟨g, sg, p0, p1, p2, p3, p4, hg, hsg, hF, hV⟩) Fr.rfl) (by unfold seenB; rw [if_neg (by omega)])
  · refine A.il3_1 d2_see_4 ?_
    refine A.bipush d2_see_5 ?_
    refine A.ic_lt d2_see_7 (fun c7 => ?_) (fun c7 => ?_)
    · refine A.al3_0 d2_see_12 ?_
      refine A.getf d2_see_13 ?_ (hc := p0)
      refine A.il3_1 d2_see_16 ?_
      refine A.bald d2_see_17 ?_ (hc := p4)
      refine A.is3_2 d2_see_18 ?_
      refine A.al3_0 d2_see_19 ?_
      refine A.getf d2_see_20 ?_ (hc := p0)
      refine A.il3_1 d2_see_23 ?_
      refine A.iconst d2_see_24 ?_
      refine A.bast d2_see_25 (fun h25 e25 f25 => ?_) (hc := p4)
      first | (have p0 := (f25.2 _ (by omega)).trans p0) | (have p0 := e25)
      first | (have p1 := (f25.2 _ (by omega)).trans p1) | (have p1 := e25)
      first | (have p2 := (f25.2 _ (by omega)).trans p2) | (have p2 := e25)
      first | (have p3 := (f25.2 _ (by omega)).trans p3) | (have p3 := e25)
      first | (have p4 := (f25.2 _ (by omega)).trans p4) | (have p4 := e25)
      have hF := hF.fr f25 (by omega)
      have hV := hV.fr f25 (by omega)
      have F25 := f25.wide (a := p) (n := 74) (by omega) (by omega)
      refine A.il3_2 d2_see_26 ?_
      refine A.zret d2_see_27 ?_ (hb v (by omega) (by omega))
      exact rI (k _ (by unfold seeP; rw [if_pos (by omega)]; exact ⟨g, sg, p0, p1, p2, p3, p4, hg, hsg, hF, hV⟩) F25) (by unfold seenB; rw [if_pos (by omega)])
    · refine A.iconst d2_see_10 ?_
      refine A.zret d2_see_11 ?_
      exact rI (k _ (by unfold seeP; rw [if_neg (by omega)]; exact ⟨g, sg, p0, p1, p2, p3, p4, hg, hsg, hF, hV⟩) Fr.rfl) (by unfold seenB; rw [if_neg (by omega)])
def cntN (f : Int → Int) : Nat → Int
  | 0 => 0
  | k + 1 => if f k = 0 then cntN f k else cntN f k + 1
theorem cntN_le (f : Int → Int) : ∀ n : Nat, 0 ≤ cntN f n ∧ cntN f n ≤ n := by
  intro n
  induction n with
  | zero => exact ⟨Int.le_refl _, Int.le_refl _⟩
  | succ n ih =>
    show 0 ≤ (if f n = 0 then cntN f n else cntN f n + 1) ∧ (if f n = 0 then cntN f n else cntN f n + 1) ≤ _
    by_cases e : f n = 0
    · rw [if_pos e]; omega
    · rw [if_neg e]; omega
set_option maxRecDepth 100000 in
set_option maxHeartbeats 4000000 in
theorem s2_seenNodes {d : Nat} {h : AH} {R : RP} {p : Nat} {P : PL} (hP : plAt h p P) (k : R (some (vI (cntN P.2.2.2.2.2.1 31))) h) : AM m2_seenNodes (d) h [vR p] R := by
  refine AM.of (L := [some (vR p), none, none]) ok_2_seenNodes (by decide) (fun G => Nat.le_of_ble_eq_true rfl) rfl ?_
  obtain ⟨g, sg, p0, p1, p2, p3, p4, hg, hsg, hF, hV⟩ := hP
  have loop : ∀ (nf : Nat) (i : Nat) (hi : i ≤ 31) (hn : 31 - i < nf), AW m2_seenNodes (d) (mC m2_seenNodes, mS m2_seenNodes) 4 [some (vR p), some (vI (cntN P.2.2.2.2.2.1 i)), some (vI i)] [] h R := by
    intro nf
    induction nf with
    | zero => intro i  hi hn; omega
    | succ nf ih =>
      intro i  hi hn
      have hcn := cntN_le (P.2.2.2.2.2.1) i
      refine A.il3_2 d2_seenNodes_4 ?_
      refine A.bipush d2_seenNodes_5 ?_
      refine A.ic_ge d2_seenNodes_7 (fun c7 => ?_) (fun c7 => ?_)
      · refine A.il3_1 d2_seenNodes_33 ?_
        refine A.iret d2_seenNodes_34 ?_
        have e : i = 31 := by omega
        subst e
        exact k
      · refine A.il3_1 d2_seenNodes_10 ?_
        refine A.al3_0 d2_seenNodes_11 ?_
        refine A.getf d2_seenNodes_12 ?_ (hc := p0)
        refine A.il3_2 d2_seenNodes_15 ?_
        refine A.bald d2_seenNodes_16 ?_ (hc := p4)
        refine A.if_eq d2_seenNodes_17 (fun c17 => ?_) (fun c17 => ?_)
        · refine A.iconst d2_seenNodes_24 ?_
          refine A.iadd d2_seenNodes_25 ?_
          refine A.is3_1 d2_seenNodes_26 ?_
          refine A.ii3_2 d2_seenNodes_27 ?_
          refine A.goto d2_seenNodes_30 ?_
          have g := ih (i + 1) (by omega) (by omega)
          first | rw [show cntN (P.2.2.2.2.2.1) (i + 1) = cntN (P.2.2.2.2.2.1) i + 1 from if_neg c17] at g | rw [show cntN (P.2.2.2.2.2.1) (i + 1) = cntN (P.2.2.2.2.2.1) i from if_pos c17] at g
          first | exact g | (rw [Int.add_zero]; exact g)
        · refine A.iconst d2_seenNodes_20 ?_
          refine A.goto d2_seenNodes_21 ?_
          refine A.iadd d2_seenNodes_25 ?_
          refine A.is3_1 d2_seenNodes_26 ?_
          refine A.ii3_2 d2_seenNodes_27 ?_
          refine A.goto d2_seenNodes_30 ?_
          have g := ih (i + 1) (by omega) (by omega)
          first | rw [show cntN (P.2.2.2.2.2.1) (i + 1) = cntN (P.2.2.2.2.2.1) i + 1 from if_neg c17] at g | rw [show cntN (P.2.2.2.2.2.1) (i + 1) = cntN (P.2.2.2.2.2.1) i from if_pos c17] at g
          first | exact g | (rw [Int.add_zero]; exact g)
  refine A.iconst d2_seenNodes_0 ?_
  refine A.is3_1 d2_seenNodes_1 ?_
  refine A.iconst d2_seenNodes_2 ?_
  refine A.is3_2 d2_seenNodes_3 ?_
  exact loop 32 0 (by omega) (by omega)
set_option maxRecDepth 100000 in
set_option maxHeartbeats 4000000 in
theorem s2_usedSlots {d : Nat} {h : AH} {R : RP} {p : Nat} {P : PL} (hP : plAt h p P) (k : R (some (vI (cntN P.2.2.2.2.1 3))) h) : AM m2_usedSlots (d) h [vR p] R := by
  refine AM.of (L := [some (vR p), none, none]) ok_2_usedSlots (by decide) (fun G => Nat.le_of_ble_eq_true rfl) rfl ?_
  obtain ⟨g, sg, p0, p1, p2, p3, p4, hg, hsg, hF, hV⟩ := hP
  have loop : ∀ (nf : Nat) (i : Nat) (hi : i ≤ 3) (hn : 3 - i < nf), AW m2_usedSlots (d) (mC m2_usedSlots, mS m2_usedSlots) 4 [some (vR p), some (vI (cntN P.2.2.2.2.1 i)), some (vI i)] [] h R := by
    intro nf
    induction nf with
    | zero => intro i  hi hn; omega
    | succ nf ih =>
      intro i  hi hn
      have hcn := cntN_le (P.2.2.2.2.1) i
      refine A.il3_2 d2_usedSlots_4 ?_
      refine A.iconst d2_usedSlots_5 ?_
      refine A.ic_ge d2_usedSlots_6 (fun c6 => ?_) (fun c6 => ?_)
      · refine A.il3_1 d2_usedSlots_32 ?_
        refine A.iret d2_usedSlots_33 ?_
        have e : i = 3 := by omega
        subst e
        exact k
      · refine A.il3_1 d2_usedSlots_9 ?_
        refine A.al3_0 d2_usedSlots_10 ?_
        refine A.getf d2_usedSlots_11 ?_ (hc := p0)
        refine A.il3_2 d2_usedSlots_14 ?_
        refine A.bald d2_usedSlots_15 ?_ (hc := p3)
        refine A.if_eq d2_usedSlots_16 (fun c16 => ?_) (fun c16 => ?_)
        · refine A.iconst d2_usedSlots_23 ?_
          refine A.iadd d2_usedSlots_24 ?_
          refine A.is3_1 d2_usedSlots_25 ?_
          refine A.ii3_2 d2_usedSlots_26 ?_
          refine A.goto d2_usedSlots_29 ?_
          have g := ih (i + 1) (by omega) (by omega)
          first | rw [show cntN (P.2.2.2.2.1) (i + 1) = cntN (P.2.2.2.2.1) i + 1 from if_neg c16] at g | rw [show cntN (P.2.2.2.2.1) (i + 1) = cntN (P.2.2.2.2.1) i from if_pos c16] at g
          first | exact g | (rw [Int.add_zero]; exact g)
        · refine A.iconst d2_usedSlots_19 ?_
          refine A.goto d2_usedSlots_20 ?_
          refine A.iadd d2_usedSlots_24 ?_
          refine A.is3_1 d2_usedSlots_25 ?_
          refine A.ii3_2 d2_usedSlots_26 ?_
          refine A.goto d2_usedSlots_29 ?_
          have g := ih (i + 1) (by omega) (by omega)
          first | rw [show cntN (P.2.2.2.2.1) (i + 1) = cntN (P.2.2.2.2.1) i + 1 from if_neg c16] at g | rw [show cntN (P.2.2.2.2.1) (i + 1) = cntN (P.2.2.2.2.1) i from if_pos c16] at g
          first | exact g | (rw [Int.add_zero]; exact g)
  refine A.iconst d2_usedSlots_0 ?_
  refine A.is3_1 d2_usedSlots_1 ?_
  refine A.iconst d2_usedSlots_2 ?_
  refine A.is3_2 d2_usedSlots_3 ?_
  exact loop 4 0 (by omega) (by omega)
