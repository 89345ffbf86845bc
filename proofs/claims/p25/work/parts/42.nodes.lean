/-! ===== the reference's row of nodes against the class's Script ===== -/
/-- an option in the reference's row -/
def oRel (B : Int → Int) (S : SC) (v : Int) (o : Int) : Prop := B (12 * v + 4 + 2 * o) = cPart S v o 0 ∧ B (12 * v + 4 + 2 * o + 1) = lkc (cPart S v o 1, cPart S v o 2) ∧ (0 ≤ cPart S v o 0 ∧ cPart S v o 0 ≤ 29) ∧ ((cPart S v o 1 = 0 ∧ cPart S v o 2 = -11) ∨ ((cPart S v o 1 = 1 ∨ cPart S v o 1 = 2) ∧ 0 ≤ cPart S v o 2 ∧ cPart S v o 2 ≤ 5))
def nRel (B : Int → Int) (S : SC) (v : Int) : Prop :=
  (B (12 * v) = cKind S v) ∧
  (B (12 * v + 1) = cNum S v 0) ∧
  (B (12 * v + 2) = cNum S v 1) ∧
  (B (12 * v + 3) = cNum S v 2) ∧
  (0 ≤ cKind S v ∧ cKind S v ≤ 7) ∧
  (cKind S v = 0 → (0 ≤ cNum S v 0 ∧ cNum S v 0 ≤ 5) ∧ 0 ≤ cNum S v 1 ∧ cNum S v 1 ≤ 99) ∧
  (cKind S v = 1 → (0 ≤ cNum S v 0 ∧ cNum S v 0 ≤ 5) ∧ (0 ≤ cNum S v 1 ∧ cNum S v 1 ≤ 2) ∧ 0 ≤ cNum S v 2 ∧ cNum S v 2 ≤ 4) ∧
  (cKind S v = 2 → 0 ≤ cNum S v 0 ∧ cNum S v 0 ≤ 5) ∧
  (cKind S v = 3 → (0 ≤ cNum S v 0 ∧ cNum S v 0 ≤ 5) ∧ 0 ≤ cNum S v 1 ∧ cNum S v 1 ≤ 1) ∧
  (cKind S v = 4 → 0 ≤ cNum S v 0 ∧ cNum S v 0 ≤ 29) ∧
  (cKind S v = 5 → (0 ≤ cNum S v 0 ∧ cNum S v 0 ≤ 5) ∧ 0 ≤ cNum S v 1 ∧ cNum S v 1 ≤ 29) ∧
  (cKind S v = 6 → cOpts S v = cNum S v 0 ∧ (0 ≤ cOpts S v ∧ cOpts S v ≤ 4) ∧ ∀ o, 0 ≤ o → o < cOpts S v → oRel B S v o) ∧
  (cKind S v = 7 → 0 ≤ cNum S v 0 ∧ cNum S v 0 ≤ 9) ∧
  (cKind S v ≠ 6 → cOpts S v = 0)
theorem nRel.kd {B : Int → Int} {S : SC} {v : Int} (h : nRel B S v) : B (12 * v) = cKind S v := h.1
theorem nRel.n0 {B : Int → Int} {S : SC} {v : Int} (h : nRel B S v) : B (12 * v + 1) = cNum S v 0 := h.2.1
theorem nRel.n1 {B : Int → Int} {S : SC} {v : Int} (h : nRel B S v) : B (12 * v + 2) = cNum S v 1 := h.2.2.1
theorem nRel.n2 {B : Int → Int} {S : SC} {v : Int} (h : nRel B S v) : B (12 * v + 3) = cNum S v 2 := h.2.2.2.1
theorem nRel.kr {B : Int → Int} {S : SC} {v : Int} (h : nRel B S v) : 0 ≤ cKind S v ∧ cKind S v ≤ 7 := h.2.2.2.2.1
theorem nRel.r0 {B : Int → Int} {S : SC} {v : Int} (h : nRel B S v) : cKind S v = 0 → (0 ≤ cNum S v 0 ∧ cNum S v 0 ≤ 5) ∧ 0 ≤ cNum S v 1 ∧ cNum S v 1 ≤ 99 := h.2.2.2.2.2.1
theorem nRel.r1 {B : Int → Int} {S : SC} {v : Int} (h : nRel B S v) : cKind S v = 1 → (0 ≤ cNum S v 0 ∧ cNum S v 0 ≤ 5) ∧ (0 ≤ cNum S v 1 ∧ cNum S v 1 ≤ 2) ∧ 0 ≤ cNum S v 2 ∧ cNum S v 2 ≤ 4 := h.2.2.2.2.2.2.1
theorem nRel.r2 {B : Int → Int} {S : SC} {v : Int} (h : nRel B S v) : cKind S v = 2 → 0 ≤ cNum S v 0 ∧ cNum S v 0 ≤ 5 := h.2.2.2.2.2.2.2.1
theorem nRel.r3 {B : Int → Int} {S : SC} {v : Int} (h : nRel B S v) : cKind S v = 3 → (0 ≤ cNum S v 0 ∧ cNum S v 0 ≤ 5) ∧ 0 ≤ cNum S v 1 ∧ cNum S v 1 ≤ 1 := h.2.2.2.2.2.2.2.2.1
theorem nRel.r4 {B : Int → Int} {S : SC} {v : Int} (h : nRel B S v) : cKind S v = 4 → 0 ≤ cNum S v 0 ∧ cNum S v 0 ≤ 29 := h.2.2.2.2.2.2.2.2.2.1
theorem nRel.r5 {B : Int → Int} {S : SC} {v : Int} (h : nRel B S v) : cKind S v = 5 → (0 ≤ cNum S v 0 ∧ cNum S v 0 ≤ 5) ∧ 0 ≤ cNum S v 1 ∧ cNum S v 1 ≤ 29 := h.2.2.2.2.2.2.2.2.2.2.1
theorem nRel.r6 {B : Int → Int} {S : SC} {v : Int} (h : nRel B S v) : cKind S v = 6 → cOpts S v = cNum S v 0 ∧ (0 ≤ cOpts S v ∧ cOpts S v ≤ 4) ∧ ∀ o, 0 ≤ o → o < cOpts S v → oRel B S v o := h.2.2.2.2.2.2.2.2.2.2.2.1
theorem nRel.r7 {B : Int → Int} {S : SC} {v : Int} (h : nRel B S v) : cKind S v = 7 → 0 ≤ cNum S v 0 ∧ cNum S v 0 ≤ 9 := h.2.2.2.2.2.2.2.2.2.2.2.2.1
theorem nRel.ro {B : Int → Int} {S : SC} {v : Int} (h : nRel B S v) : cKind S v ≠ 6 → cOpts S v = 0 := h.2.2.2.2.2.2.2.2.2.2.2.2.2
def rScr (B : Int → Int) (S : SC) : Prop := (0 ≤ S.1 ∧ S.1 ≤ 29) ∧ ∀ v, 0 ≤ v → v < S.1 → nRel B S v
theorem nd_rel {B : Int → Int} {S : SC} {j : Nat} {nd : ND} (h1 : (j : Int) < S.1) (h2 : (j : Int) < 29) (hn : nodeIs S j nd) (hr : rowIs B (12 * j) nd.1 nd.2.1 nd.2.2) (hf : ndFit nd) : nRel B S j := by
  obtain ⟨s1, s2, s3, s4, s5⟩ := hn
  have hsm := ndFit_small hf
  have hK : cKind S j = nd.1 := (if_pos ⟨by omega, h1, h2⟩ : cKind S j = _).trans s1
  have hO : cOpts S j = (nd.2.2.length : Nat) := (if_pos ⟨by omega, h1, h2⟩ : cOpts S j = _).trans s4
  have hN : nd.1 ≠ 6 → ∀ i : Nat, i < 3 → cNum S j i = nd.2.1.getD i (-11) := fun z i hi => by
    have e : cNum S j i = _ := if_pos ⟨by omega, h1, h2, by omega, by omega⟩
    rw [e, if_neg (by rw [s1]; exact z), s2]
    by_cases c : i < nd.2.1.length
    · rw [if_pos (by omega)]; exact s3 i c
    · rw [if_neg (by omega)]; simp [List.getD_eq_getElem?_getD, List.getElem?_eq_none (by omega : nd.2.1.length ≤ i)]
  have hN6 : nd.1 = 6 → ∀ i : Nat, i < 3 → cNum S j i = if (i : Int) = 0 then ((nd.2.2.length : Nat) : Int) else -11 := fun z i hi => by
    have e : cNum S j i = _ := if_pos ⟨by omega, h1, h2, by omega, by omega⟩
    rw [e, if_pos (by rw [s1]; exact z), s4]
  have hP : ∀ (o w : Nat), o < nd.2.2.length → w < 3 → cPart S j o w = S.2.2.2.2.2 ((j * 4 + o) * 3 + w) := fun o w h3 h4 => by
    have := hsm.2
    exact if_pos ⟨⟨by omega, h1, h2⟩, by omega, by rw [s4]; omega, by omega, by omega, by omega⟩
  obtain ⟨b0, b1, b2⟩ := hr
  have g0 : nd.1 ≠ 6 → cNum S j 0 = nd.2.1.getD 0 (-11) := fun z => hN z 0 (by omega)
  have g1 : nd.1 ≠ 6 → cNum S j 1 = nd.2.1.getD 1 (-11) := fun z => hN z 1 (by omega)
  have g2 : nd.1 ≠ 6 → cNum S j 2 = nd.2.1.getD 2 (-11) := fun z => hN z 2 (by omega)
  have k0 : nd.1 = 6 → cNum S j 0 = (nd.2.2.length : Nat) := fun z => hN6 z 0 (by omega)
  have k1 : nd.1 = 6 → cNum S j 1 = -11 := fun z => hN6 z 1 (by omega)
  have k2 : nd.1 = 6 → cNum S j 2 = -11 := fun z => hN6 z 2 (by omega)
  have q0 : B (12 * j + 1) = cNum S j 0 := by
    by_cases z : nd.1 = 6
    · rw [k0 z]; exact (b2 z).1
    · rw [g0 z]; exact (b1 z).1
  have q1 : B (12 * j + 2) = cNum S j 1 := by
    by_cases z : nd.1 = 6
    · rw [k1 z]; exact (b2 z).2.1
    · rw [g1 z]; exact (b1 z).2.1
  have q2 : B (12 * j + 3) = cNum S j 2 := by
    by_cases z : nd.1 = 6
    · rw [k2 z]; exact (b2 z).2.2.1
    · rw [g2 z]; exact (b1 z).2.2
  have mk : ∀ {a : Int}, nd.1 = a → a ≠ 6 → 0 ≤ a → a ≤ 7 → (a = 0 → (0 ≤ cNum S j 0 ∧ cNum S j 0 ≤ 5) ∧ 0 ≤ cNum S j 1 ∧ cNum S j 1 ≤ 99) → (a = 1 → (0 ≤ cNum S j 0 ∧ cNum S j 0 ≤ 5) ∧ (0 ≤ cNum S j 1 ∧ cNum S j 1 ≤ 2) ∧ 0 ≤ cNum S j 2 ∧ cNum S j 2 ≤ 4) → (a = 2 → 0 ≤ cNum S j 0 ∧ cNum S j 0 ≤ 5) → (a = 3 → (0 ≤ cNum S j 0 ∧ cNum S j 0 ≤ 5) ∧ 0 ≤ cNum S j 1 ∧ cNum S j 1 ≤ 1) → (a = 4 → 0 ≤ cNum S j 0 ∧ cNum S j 0 ≤ 29) → (a = 5 → (0 ≤ cNum S j 0 ∧ cNum S j 0 ≤ 5) ∧ 0 ≤ cNum S j 1 ∧ cNum S j 1 ≤ 29) → (a = 7 → 0 ≤ cNum S j 0 ∧ cNum S j 0 ≤ 9) → nd.2.2 = [] → nRel B S j := fun {a} ha h6 l1 l2 p0 p1 p2 p3 p4 p5 p7 ho => by
    subst ha
    exact ⟨b0.trans hK.symm, q0, q1, q2, by rw [hK]; exact ⟨l1, l2⟩, by rw [hK]; exact p0, by rw [hK]; exact p1, by rw [hK]; exact p2, by rw [hK]; exact p3, by rw [hK]; exact p4, by rw [hK]; exact p5, by rw [hK]; exact fun z => absurd z h6, by rw [hK]; exact p7, fun _ => by rw [hO, ho]; rfl⟩
  rcases hf with ⟨a, b, e, r⟩ | ⟨a, b, c, e, r⟩ | ⟨a, e, r⟩ | ⟨a, b, e, r⟩ | ⟨a, e, r⟩ | ⟨a, b, e, r⟩ | ⟨os, e, r⟩ | ⟨a, e, r⟩
  · have z : nd.1 = 0 := by rw [e]
    have e0 : cNum S j 0 = a := by rw [g0 (by omega), e]; rfl
    have e1 : cNum S j 1 = b := by rw [g1 (by omega), e]; rfl
    exact mk z (by omega) (by omega) (by omega) (fun _ => by rw [e0, e1]; exact r) (by omega) (by omega) (by omega) (by omega) (by omega) (by omega) (by rw [e])
  · have z : nd.1 = 1 := by rw [e]
    have e0 : cNum S j 0 = a := by rw [g0 (by omega), e]; rfl
    have e1 : cNum S j 1 = b := by rw [g1 (by omega), e]; rfl
    have e2 : cNum S j 2 = c := by rw [g2 (by omega), e]; rfl
    exact mk z (by omega) (by omega) (by omega) (by omega) (fun _ => by rw [e0, e1, e2]; exact r) (by omega) (by omega) (by omega) (by omega) (by omega) (by rw [e])
  · have z : nd.1 = 2 := by rw [e]
    have e0 : cNum S j 0 = a := by rw [g0 (by omega), e]; rfl
    exact mk z (by omega) (by omega) (by omega) (by omega) (by omega) (fun _ => by rw [e0]; exact r) (by omega) (by omega) (by omega) (by omega) (by rw [e])
  · have z : nd.1 = 3 := by rw [e]
    have e0 : cNum S j 0 = a := by rw [g0 (by omega), e]; rfl
    have e1 : cNum S j 1 = b := by rw [g1 (by omega), e]; rfl
    exact mk z (by omega) (by omega) (by omega) (by omega) (by omega) (by omega) (fun _ => by rw [e0, e1]; exact r) (by omega) (by omega) (by omega) (by rw [e])
  · have z : nd.1 = 4 := by rw [e]
    have e0 : cNum S j 0 = a := by rw [g0 (by omega), e]; rfl
    exact mk z (by omega) (by omega) (by omega) (by omega) (by omega) (by omega) (by omega) (fun _ => by rw [e0]; exact r) (by omega) (by omega) (by rw [e])
  · have z : nd.1 = 5 := by rw [e]
    have e0 : cNum S j 0 = a := by rw [g0 (by omega), e]; rfl
    have e1 : cNum S j 1 = b := by rw [g1 (by omega), e]; rfl
    exact mk z (by omega) (by omega) (by omega) (by omega) (by omega) (by omega) (by omega) (by omega) (fun _ => by rw [e0, e1]; exact r) (by omega) (by rw [e])
  · have z : nd.1 = 6 := by rw [e]
    have e2 : nd.2.2 = os := by rw [e]
    rw [e2] at hO k0 s5 hP b2
    refine ⟨b0.trans hK.symm, q0, q1, q2, by rw [hK]; omega, by rw [hK]; omega, by rw [hK]; omega, by rw [hK]; omega, by rw [hK]; omega, by rw [hK]; omega, by rw [hK]; omega, fun _ => ⟨by rw [hO, k0 z], by rw [hO]; have := r.1; omega, fun o o0 o1 => ?_⟩, by rw [hK]; omega, by rw [hK]; omega⟩
    rw [hO] at o1
    obtain ⟨o', rfl⟩ : ∃ o' : Nat, o = (o' : Nat) := ⟨o.toNat, by omega⟩
    have ho : o' < os.length := by omega
    obtain ⟨p0, p1, p2⟩ := s5 o' ho
    have w0 : cPart S j o' 0 = _ := (hP o' 0 ho (by omega)).trans p0
    have w1 : cPart S j o' 1 = _ := (hP o' 1 ho (by omega)).trans p1
    have w2 : cPart S j o' 2 = _ := (hP o' 2 ho (by omega)).trans p2
    obtain ⟨y0, y1⟩ := (b2 z).2.2.2 o' ho
    unfold oRel
    rw [w0, w1, w2]
    exact ⟨y0, y1, r.2 o' ho⟩
  · have z : nd.1 = 7 := by rw [e]
    have e0 : cNum S j 0 = a := by rw [g0 (by omega), e]; rfl
    exact mk z (by omega) (by omega) (by omega) (by omega) (by omega) (by omega) (by omega) (by omega) (by omega) (fun _ => by rw [e0]; exact r) (by rw [e])
theorem rScr_of {B : Int → Int} {S : SC} {l : List ND} (hl : l.length ≤ 29) (hn : nodesAre S l) (hr : rowsAre B l) (hf : ∀ nd, nd ∈ l → ndFit nd) : rScr B S := by
  refine ⟨by rw [hn.1]; omega, fun v h0 h1 => ?_⟩
  rw [hn.1] at h1
  obtain ⟨j, rfl⟩ : ∃ j : Nat, v = (j : Nat) := ⟨v.toNat, by omega⟩
  have hj : j < l.length := by omega
  refine nd_rel (by rw [hn.1]; exact h1) (by omega) (hn.2 j hj).1 (hr j hj).1 (hf _ ?_)
  have e : l.getD j nd0 = l[j] := by simp [List.getD_eq_getElem?_getD, List.getElem?_eq_getElem hj]
  rw [e]
  exact List.getElem_mem hj
theorem rScr_congr {B B' : Int → Int} {S : SC} (h : rScr B S) (e : ∀ j, 0 ≤ j → j < 12 * S.1 → B' j = B j) : rScr B' S := by
  refine ⟨h.1, fun v h0 h1 => ?_⟩
  have g := h.2 v h0 h1
  have E : ∀ k, 0 ≤ k → k < 12 → B' (12 * v + k) = B (12 * v + k) := fun k a b => e _ (by omega) (by omega)
  refine ⟨(e _ (by omega) (by omega)).trans g.kd, (E _ (by omega) (by omega)).trans g.n0, (E _ (by omega) (by omega)).trans g.n1, (E _ (by omega) (by omega)).trans g.n2, g.kr, g.r0, g.r1, g.r2, g.r3, g.r4, g.r5, fun z => ?_, g.r7, g.ro⟩
  obtain ⟨a, b, c⟩ := g.r6 z
  refine ⟨a, b, fun o o0 o1 => ?_⟩
  obtain ⟨c1, c2, c3⟩ := c o o0 o1
  exact ⟨(e _ (by omega) (by omega)).trans c1, (e _ (by omega) (by omega)).trans c2, c3⟩
theorem rScr_0 {B : Int → Int} {S : SC} (h : S.1 = 0) : rScr B S := ⟨by omega, fun v h0 h1 => by omega⟩
/-- what the text's reading leaves on both sides -/
theorem rScr_text {T : TX} {B : Int → Int} {S : SC} (hr : rowsAre B (ffR T 29 0).2) : rScr B (addAll (0, S.2) (ffR T 29 0).2) := by
  have hf := ffR_fit (T := T) 29 0
  have h0 : nodesAre (0, S.2) [] := ⟨rfl, fun j hj => absurd hj (Nat.not_lt_zero _)⟩
  have h1 := nodes_all (ffR T 29 0).2 h0 (by rw [List.length_nil]; omega) (fun nd h => ndFit_small (hf.2 nd h))
  rw [List.nil_append] at h1
  exact rScr_of hf.1 h1 hr hf.2
theorem addAll_n {T : TX} {S : SC} : (addAll (0, S.2) (ffR T 29 0).2).1 = ((ffR T 29 0).2.length : Nat) := by
  have hf := ffR_fit (T := T) 29 0
  have h0 : nodesAre (0, S.2) [] := ⟨rfl, fun j hj => absurd hj (Nat.not_lt_zero _)⟩
  have h1 := nodes_all (ffR T 29 0).2 h0 (by rw [List.length_nil]; omega) (fun nd h => ndFit_small (hf.2 nd h))
  rw [List.nil_append] at h1
  exact h1.1
