/-! ===== Play: writes ===== -/
theorem mset_ss (M : Int → MO) (i : Int) (a b : MO) : mset (mset M i a) i b = mset M i b := by
  funext j
  unfold mset
  by_cases e : j = i
  · rw [if_pos e, if_pos e]
  · rw [if_neg e, if_neg e, if_neg e]
def shA (ad : Int → Nat) : Int → Nat := fun i => if i < 19 then ad (i + 1) else ad 0
def shM (M : Int → MO) : Int → MO := fun i => if i < 19 then M (i + 1) else M 0
theorem fam.shift {h : AH} {p : Nat} {ad : Int → Nat} {M : Int → MO} (s : fam h p ad M) : fam h p (shA ad) (shM M) := by
  refine ⟨fun i h0 h1 => ?_, fun i j i0 i1 j0 j1 hij => ?_⟩
  · unfold shA shM
    by_cases e : i < 19
    · rw [if_pos e, if_pos e]; exact s.1 (i + 1) (by omega) (by omega)
    · rw [if_neg e, if_neg e]; exact s.1 0 (by omega) (by omega)
  · unfold shA
    by_cases e : i < 19 <;> by_cases e2 : j < 19
    · rw [if_pos e, if_pos e2]; exact s.2 _ _ (by omega) (by omega) (by omega) (by omega) (by omega)
    · rw [if_pos e, if_neg e2]; exact s.2 _ _ (by omega) (by omega) (by omega) (by omega) (by omega)
    · rw [if_neg e, if_pos e2]; exact s.2 _ _ (by omega) (by omega) (by omega) (by omega) (by omega)
    · omega
set_option maxRecDepth 100000 in
set_option maxHeartbeats 4000000 in
theorem s2_forgetEarliest {d : Nat} {h : AH} {R : RP} {p : Nat} {P : PL} (hP : plAt h p P) (k : ∀ h', plAt h' p (P.1, P.2.1, shA P.2.2.1, shM P.2.2.2.1, P.2.2.2.2) → Fr h h' p 74 → R none h') : AM m2_forgetEarliest (d) h [vR p] R := by
  refine AM.of (L := [some (vR p), none, none]) ok_2_forgetEarliest (by decide) (fun G => Nat.le_of_ble_eq_true rfl) rfl ?_
  obtain ⟨g, sg, p0, p1, p2, p3, p4, hg, hsg, hF, hV⟩ := hP
  have loop : ∀ (nf : Nat) (i : Nat) (h1 : AH) (g : Int → Option Nat) (hi : 1 ≤ i ∧ i ≤ 20) (p0 : h1.2 p = some (kO 2 [vR (p + 1), vI P.1, vI P.2.1, vR (p + 2), vR (p + 3), vR (p + 4)])) (p1 : h1.2 (p + 1) = some (kQ 20 g)) (p2 : h1.2 (p + 2) = some (kQ 3 sg)) (p3 : h1.2 (p + 3) = some (kA 2 3 P.2.2.2.2.1)) (p4 : h1.2 (p + 4) = some (kA 2 31 P.2.2.2.2.2.1)) (hg : ∀ j : Int, 0 ≤ j → j < 20 → g j = some (if j < i - 1 then P.2.2.1 (j + 1) else P.2.2.1 j)) (hF : fam h1 p P.2.2.1 P.2.2.2.1) (hV : sav h1 p P.2.2.2.2.2.2) (hFr : Fr h h1 p 74) (hn : 20 - i < nf), AW m2_forgetEarliest (d) (mC m2_forgetEarliest, mS m2_forgetEarliest) 9 [some (vR p), some (vR (P.2.2.1 0)), some (vI i)] [] h1 R := by
    intro nf
    induction nf with
    | zero => intro i  h1  g  hi p0 p1 p2 p3 p4 hg hF hV hFr hn; omega
    | succ nf ih =>
      intro i  h1  g  hi p0 p1 p2 p3 p4 hg hF hV hFr hn
      refine A.il3_2 d2_forgetEarliest_9 ?_
      refine A.bipush d2_forgetEarliest_10 ?_
      refine A.ic_ge d2_forgetEarliest_12 (fun c12 => ?_) (fun c12 => ?_)
      · refine A.al3_0 d2_forgetEarliest_35 ?_
        refine A.getf d2_forgetEarliest_36 ?_ (hc := p0)
        refine A.bipush d2_forgetEarliest_39 ?_
        refine A.al3_1 d2_forgetEarliest_41 ?_
        refine A.qast d2_forgetEarliest_42 (hF.1 0 (by omega) (by omega)).2.2.1 (fun h42 e42 f42 => ?_) (hc := p1)
        first | (have p0 := (f42.2 _ (by omega)).trans p0) | (have p0 := e42)
        first | (have p1 := (f42.2 _ (by omega)).trans p1) | (have p1 := e42)
        first | (have p2 := (f42.2 _ (by omega)).trans p2) | (have p2 := e42)
        first | (have p3 := (f42.2 _ (by omega)).trans p3) | (have p3 := e42)
        first | (have p4 := (f42.2 _ (by omega)).trans p4) | (have p4 := e42)
        have hF := hF.fr f42 (by omega)
        have hV := hV.fr f42 (by omega)
        have F42 := f42.wide (a := p) (n := 74) (by omega) (by omega)
        refine A.vret d2_forgetEarliest_43 ?_
        have e : i = 20 := by omega
        subst e
        refine k _ ⟨gset g 19 (some (P.2.2.1 0)), sg, p0, p1, p2, p3, p4, fun j j0 j1 => ?_, hsg, hF.shift, hV⟩ (hFr.then F42 (by omega) (by omega))
        show gset g 19 (some (P.2.2.1 0)) j = some (shA P.2.2.1 j)
        unfold gset shA
        by_cases e : j = 19
        · rw [if_pos e, if_neg (by omega)]
        · rw [if_neg e, if_pos (by omega), hg j j0 j1, if_pos (by omega)]
      · refine A.al3_0 d2_forgetEarliest_15 ?_
        refine A.getf d2_forgetEarliest_16 ?_ (hc := p0)
        refine A.il3_2 d2_forgetEarliest_19 ?_
        refine A.iconst d2_forgetEarliest_20 ?_
        refine A.isub d2_forgetEarliest_21 ?_
        refine A.al3_0 d2_forgetEarliest_22 ?_
        refine A.getf d2_forgetEarliest_23 ?_ (hc := p0)
        refine A.il3_2 d2_forgetEarliest_26 ?_
        refine A.qald d2_forgetEarliest_27 (by rw [hg i (by omega) (by omega), if_neg (by omega)]) ?_ (hc := p1)
        refine A.qast d2_forgetEarliest_28 (hF.1 i (by omega) (by omega)).2.2.1 (fun h28 e28 f28 => ?_) (hc := p1)
        first | (have p0 := (f28.2 _ (by omega)).trans p0) | (have p0 := e28)
        first | (have p1 := (f28.2 _ (by omega)).trans p1) | (have p1 := e28)
        first | (have p2 := (f28.2 _ (by omega)).trans p2) | (have p2 := e28)
        first | (have p3 := (f28.2 _ (by omega)).trans p3) | (have p3 := e28)
        first | (have p4 := (f28.2 _ (by omega)).trans p4) | (have p4 := e28)
        have hF := hF.fr f28 (by omega)
        have hV := hV.fr f28 (by omega)
        have F28 := f28.wide (a := p) (n := 74) (by omega) (by omega)
        refine A.ii3_2 d2_forgetEarliest_29 ?_
        refine A.goto d2_forgetEarliest_32 ?_
        refine ih (i + 1) _ _ (by omega) p0 p1 p2 p3 p4 (fun j j0 j1 => ?_) hF hV (hFr.then F28 (by omega) (by omega)) (by omega)
        unfold gset
        by_cases e : j = i - 1
        · rw [if_pos e, if_pos (by omega), show j + 1 = i by omega]
        · rw [if_neg e, hg j j0 j1]
          by_cases e2 : j < i - 1
          · rw [if_pos e2, if_pos (by omega)]
          · rw [if_neg e2, if_neg (by omega)]
  refine A.al3_0 d2_forgetEarliest_0 ?_
  refine A.getf d2_forgetEarliest_1 ?_ (hc := p0)
  refine A.iconst d2_forgetEarliest_4 ?_
  refine A.qald d2_forgetEarliest_5 (hg 0 (by omega) (by omega)) ?_ (hc := p1)
  refine A.as3_1 d2_forgetEarliest_6 ?_
  refine A.iconst d2_forgetEarliest_7 ?_
  refine A.is3_2 d2_forgetEarliest_8 ?_
  refine loop 20 1 h g (by omega) p0 p1 p2 p3 p4 (fun j j0 j1 => ?_) hF hV Fr.rfl (by omega)
  rw [if_neg (by omega)]
  exact hg j j0 j1
noncomputable def anewP (S : SC) (P : PL) : PL := seeP (1, 0, P.2.2.1, mset P.2.2.2.1 0 (cCome S (emptyM (P.2.2.2.1 0)) 0), P.2.2.2.2) (cCome S (emptyM (P.2.2.2.1 0)) 0).1
set_option maxRecDepth 100000 in
set_option maxHeartbeats 4000000 in
theorem s2_startAnew {d : Nat} {h : AH} {R : RP} {p s : Nat} {P : PL} {S : SC} (hP : plAt h p P) (hS : scAt h s S) (hd : s + 6 ≤ p ∨ p + 74 ≤ s) (hb : ∀ v, 0 ≤ v → v < 31 → 0 ≤ P.2.2.2.2.2.1 v ∧ P.2.2.2.2.2.1 v ≤ 1) (k : ∀ h', plAt h' p (anewP S P) → Fr h h' p 74 → R none h') : AM m2_startAnew (d + 4) h [vR p, vR s] R := by
  refine AM.of (L := [some (vR p), some (vR s)]) ok_2_startAnew (by decide) (fun G => Nat.le_of_ble_eq_true rfl) rfl ?_
  refine A.al2_0 d2_startAnew_0 ?_
  refine A.v0 d2_startAnew_1 (s2_keepOneMoment hP (fun h1 hP1 f1 => kN ?_)) (hc := hP.choose_spec.choose_spec.1)
  obtain ⟨g, sg, p0, p1, p2, p3, p4, hg, hsg, hF, hV⟩ := hP1
  dsimp only at p0 p1 p2 p3 p4 hg hsg hF hV
  have hS := hS.fr f1 (by omega)
  refine A.al2_0 d2_startAnew_4 ?_
  refine A.v0 d2_startAnew_5 (s2_now (pr := 0) (a := P.2.2.1 0) p0 rfl rfl p1 (hg 0 (by omega) (by omega)) (by omega) (by omega) (kS ?_)) (hc := p0)
  refine A.v0 d2_startAnew_8 (s1_makeEmpty (hF.1 0 (by omega) (by omega)).2.2 (fun h8 hm8 f8 => kN ?_)) (hc := (hF.1 0 (by omega) (by omega)).2.2.1)
  have hb8 := hF.1 0 (by omega) (by omega)
  obtain ⟨hx8, hy8, -⟩ := hb8
  have p0 := f8.get p0 (by omega)
  have p1 := f8.get p1 (by omega)
  have p2 := f8.get p2 (by omega)
  have p3 := f8.get p3 (by omega)
  have p4 := f8.get p4 (by omega)
  have hV := hV.fr f8 (by omega)
  have hS := hS.fr f8 (by omega)
  have hF := hF.put (by omega) (by omega) f8 hm8
  refine A.al2_0 d2_startAnew_11 ?_
  refine A.v0 d2_startAnew_12 (s2_now (pr := 0) (a := P.2.2.1 0) p0 rfl rfl p1 (hg 0 (by omega) (by omega)) (by omega) (by omega) (kS ?_)) (hc := p0)
  refine A.al2_1 d2_startAnew_15 ?_
  refine A.iconst d2_startAnew_16 ?_
  refine A.v2 d2_startAnew_17 (s1_comeFrom hm8 hS (by omega) (fun h17 hm17 f17 => kN ?_)) (hc := (hF.1 0 (by omega) (by omega)).2.2.1)
  have hb17 := hF.1 0 (by omega) (by omega)
  obtain ⟨hx17, hy17, -⟩ := hb17
  have p0 := f17.get p0 (by omega)
  have p1 := f17.get p1 (by omega)
  have p2 := f17.get p2 (by omega)
  have p3 := f17.get p3 (by omega)
  have p4 := f17.get p4 (by omega)
  have hV := hV.fr f17 (by omega)
  have hS := hS.fr f17 (by omega)
  have hF := hF.put (by omega) (by omega) f17 hm17
  rw [mset_ss] at hF
  have hP17 : plAt h17 p (1, 0, P.2.2.1, mset P.2.2.2.1 0 (cCome S (emptyM (P.2.2.2.1 0)) 0), P.2.2.2.2) := ⟨g, sg, p0, p1, p2, p3, p4, hg, hsg, hF, hV⟩
  refine A.al2_0 d2_startAnew_20 ?_
  refine A.al2_0 d2_startAnew_21 ?_
  refine A.v0 d2_startAnew_22 (s2_now (pr := 0) (a := P.2.2.1 0) p0 rfl rfl p1 (hg 0 (by omega) (by omega)) (by omega) (by omega) (kS ?_)) (hc := p0)
  refine A.getf d2_startAnew_25 ?_ (hc := hm17.1)
  refine A.v1 d2_startAnew_28 (s2_see hP17 hb (fun h28 hP28 f28 => kS ?_)) (hc := p0)
  refine A.pop d2_startAnew_31 ?_
  refine A.vret d2_startAnew_32 ?_
  exact k _ hP28 (((f1.then f8 (by omega) (by omega)).then f17 (by omega) (by omega)).then f28 (by omega) (by omega))
noncomputable def startP (S : SC) (P : PL) : PL := anewP S (P.1, P.2.1, P.2.2.1, P.2.2.2.1, fillN 0 3 P.2.2.2.2.1, fillN 0 31 P.2.2.2.2.2.1, P.2.2.2.2.2.2)
set_option maxRecDepth 100000 in
set_option maxHeartbeats 4000000 in
theorem s2_startScript {d : Nat} {h : AH} {R : RP} {p s : Nat} {P : PL} {S : SC} (hP : plAt h p P) (hS : scAt h s S) (hd : s + 6 ≤ p ∨ p + 74 ≤ s) (k : ∀ h', plAt h' p (startP S P) → Fr h h' p 74 → R none h') : AM m2_startScript (d + 5) h [vR p, vR s] R := by
  refine AM.of (L := [some (vR p), some (vR s), none]) ok_2_startScript (by decide) (fun G => Nat.le_of_ble_eq_true rfl) rfl ?_
  obtain ⟨g, sg, p0, p1, p2, p3, p4, hg, hsg, hF, hV⟩ := hP
  have loop2 : ∀ (nf : Nat) (i : Nat) (h1 : AH) (hi : i ≤ 31) (p0 : h1.2 p = some (kO 2 [vR (p + 1), vI P.1, vI P.2.1, vR (p + 2), vR (p + 3), vR (p + 4)])) (p1 : h1.2 (p + 1) = some (kQ 20 g)) (p2 : h1.2 (p + 2) = some (kQ 3 sg)) (p3 : h1.2 (p + 3) = some (kA 2 3 (fillN 0 3 P.2.2.2.2.1))) (p4 : h1.2 (p + 4) = some (kA 2 31 (fillN 0 i P.2.2.2.2.2.1))) (hF : fam h1 p P.2.2.1 P.2.2.2.1) (hV : sav h1 p P.2.2.2.2.2.2) (hS : scAt h1 s S) (hFr : Fr h h1 p 74) (hn : 31 - i < nf), AW m2_startScript (d + 5) (mC m2_startScript, mS m2_startScript) 22 [some (vR p), some (vR s), some (vI i)] [] h1 R := by
    intro nf
    induction nf with
    | zero => intro i  h1  hi p0 p1 p2 p3 p4 hF hV hS hFr hn; omega
    | succ nf ih =>
      intro i  h1  hi p0 p1 p2 p3 p4 hF hV hS hFr hn
      refine A.il3_2 d2_startScript_22 ?_
      refine A.bipush d2_startScript_23 ?_
      refine A.ic_ge d2_startScript_25 (fun c25 => ?_) (fun c25 => ?_)
      · have e : i = 31 := by omega
        subst e
        refine A.al3_0 d2_startScript_41 ?_
        refine A.al3_1 d2_startScript_42 ?_
        refine A.v1 d2_startScript_43 (s2_startAnew (P := (P.1, P.2.1, P.2.2.1, P.2.2.2.1, fillN 0 3 P.2.2.2.2.1, fillN 0 31 P.2.2.2.2.2.1, P.2.2.2.2.2.2)) ⟨g, sg, p0, p1, p2, p3, p4, hg, hsg, hF, hV⟩ hS hd (fun v v0 v1 => by show 0 ≤ fillN 0 31 _ v ∧ fillN 0 31 _ v ≤ 1; rw [fillN_in 0 _ 31 v v0 v1]; omega) (fun h43 hP43 f43 => kN ?_)) (hc := p0)
        refine A.vret d2_startScript_46 ?_
        exact k _ hP43 (hFr.then f43 (by omega) (by omega))
      · refine A.al3_0 d2_startScript_28 ?_
        refine A.getf d2_startScript_29 ?_ (hc := p0)
        refine A.il3_2 d2_startScript_32 ?_
        refine A.iconst d2_startScript_33 ?_
        refine A.bast d2_startScript_34 (fun h34 e34 f34 => ?_) (hc := p4)
        first | (have p0 := (f34.2 _ (by omega)).trans p0) | (have p0 := e34)
        first | (have p1 := (f34.2 _ (by omega)).trans p1) | (have p1 := e34)
        first | (have p2 := (f34.2 _ (by omega)).trans p2) | (have p2 := e34)
        first | (have p3 := (f34.2 _ (by omega)).trans p3) | (have p3 := e34)
        first | (have p4 := (f34.2 _ (by omega)).trans p4) | (have p4 := e34)
        have hF := hF.fr f34 (by omega)
        have hV := hV.fr f34 (by omega)
        have hS := hS.fr f34 (by omega)
        have F34 := f34.wide (a := p) (n := 74) (by omega) (by omega)
        refine A.ii3_2 d2_startScript_35 ?_
        refine A.goto d2_startScript_38 ?_
        exact ih (i + 1) _ (by omega) p0 p1 p2 p3 p4 hF hV hS (hFr.then F34 (by omega) (by omega)) (by omega)
  have loop1 : ∀ (nf : Nat) (i : Nat) (h1 : AH) (hi : i ≤ 3) (p0 : h1.2 p = some (kO 2 [vR (p + 1), vI P.1, vI P.2.1, vR (p + 2), vR (p + 3), vR (p + 4)])) (p1 : h1.2 (p + 1) = some (kQ 20 g)) (p2 : h1.2 (p + 2) = some (kQ 3 sg)) (p3 : h1.2 (p + 3) = some (kA 2 3 (fillN 0 i P.2.2.2.2.1))) (p4 : h1.2 (p + 4) = some (kA 2 31 (P.2.2.2.2.2.1))) (hF : fam h1 p P.2.2.1 P.2.2.2.1) (hV : sav h1 p P.2.2.2.2.2.2) (hS : scAt h1 s S) (hFr : Fr h h1 p 74) (hn : 3 - i < nf), AW m2_startScript (d + 5) (mC m2_startScript, mS m2_startScript) 2 [some (vR p), some (vR s), some (vI i)] [] h1 R := by
    intro nf
    induction nf with
    | zero => intro i  h1  hi p0 p1 p2 p3 p4 hF hV hS hFr hn; omega
    | succ nf ih =>
      intro i  h1  hi p0 p1 p2 p3 p4 hF hV hS hFr hn
      refine A.il3_2 d2_startScript_2 ?_
      refine A.iconst d2_startScript_3 ?_
      refine A.ic_ge d2_startScript_4 (fun c4 => ?_) (fun c4 => ?_)
      · refine A.iconst d2_startScript_20 ?_
        refine A.is3_2 d2_startScript_21 ?_
        have e : i = 3 := by omega
        subst e
        exact loop2 32 0 h1 (by omega) p0 p1 p2 p3 p4 hF hV hS hFr (by omega)
      · refine A.al3_0 d2_startScript_7 ?_
        refine A.getf d2_startScript_8 ?_ (hc := p0)
        refine A.il3_2 d2_startScript_11 ?_
        refine A.iconst d2_startScript_12 ?_
        refine A.bast d2_startScript_13 (fun h13 e13 f13 => ?_) (hc := p3)
        first | (have p0 := (f13.2 _ (by omega)).trans p0) | (have p0 := e13)
        first | (have p1 := (f13.2 _ (by omega)).trans p1) | (have p1 := e13)
        first | (have p2 := (f13.2 _ (by omega)).trans p2) | (have p2 := e13)
        first | (have p3 := (f13.2 _ (by omega)).trans p3) | (have p3 := e13)
        first | (have p4 := (f13.2 _ (by omega)).trans p4) | (have p4 := e13)
        have hF := hF.fr f13 (by omega)
        have hV := hV.fr f13 (by omega)
        have hS := hS.fr f13 (by omega)
        have F13 := f13.wide (a := p) (n := 74) (by omega) (by omega)
        refine A.ii3_2 d2_startScript_14 ?_
        refine A.goto d2_startScript_17 ?_
        exact ih (i + 1) _ (by omega) p0 p1 p2 p3 p4 hF hV hS (hFr.then F13 (by omega) (by omega)) (by omega)
  refine A.iconst d2_startScript_0 ?_
  refine A.is3_2 d2_startScript_1 ?_
  exact loop1 4 0 h (by omega) p0 p1 p2 p3 p4 hF hV hS Fr.rfl (by omega)
