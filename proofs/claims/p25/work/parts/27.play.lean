/-! ===== Play: going on; what is saved ===== -/
noncomputable def goM (S : SC) (P : PL) (v : Int) : MO := cCome S (P.2.2.2.1 P.2.1) v
noncomputable def goP (S : SC) (P : PL) (v : Int) : PL := if P.2.1 + 1 < 20 then seeP (P.2.1 + 1 + 1, P.2.1 + 1, P.2.2.1, mset P.2.2.2.1 (P.2.1 + 1) (goM S P v), P.2.2.2.2) (goM S P v).1
  else seeP (P.2.1 + 1, P.2.1, shA P.2.2.1, mset (shM P.2.2.2.1) P.2.1 (goM S P v), P.2.2.2.2) (goM S P v).1
theorem seenB_rng {P : PL} (hb : ∀ v, 0 ≤ v → v < 31 → 0 ≤ P.2.2.2.2.2.1 v ∧ P.2.2.2.2.2.1 v ≤ 1) (v : Int) : 0 ≤ seenB P v ∧ seenB P v ≤ 1 := by
  unfold seenB
  by_cases e : 0 ≤ v ∧ v < 31
  · rw [if_pos e]; exact hb v e.1 e.2
  · rw [if_neg e]; omega
set_option maxRecDepth 100000 in
set_option maxHeartbeats 4000000 in
theorem s2_goOn {d : Nat} {h : AH} {R : RP} {v : Int} {p s : Nat} {P : PL} {S : SC} (hP : plAt h p P) (hS : scAt h s S) (hd : s + 6 ≤ p ∨ p + 74 ≤ s) (hb : ∀ v, 0 ≤ v → v < 31 → 0 ≤ P.2.2.2.2.2.1 v ∧ P.2.2.2.2.2.1 v ≤ 1) (hp0 : 0 ≤ P.2.1) (hp1 : P.2.1 < 20) (k : ∀ h', plAt h' p (goP S P v) → Fr h h' p 74 → R (some (vI (seenB P (goM S P v).1))) h') : AM m2_goOn (d + 4) h [vR p, vR s, vI v] R := by
  refine AM.of (L := [some (vR p), some (vR s), some (vI v), none]) ok_2_goOn (by decide) (fun G => Nat.le_of_ble_eq_true rfl) rfl ?_
  obtain ⟨g, sg, p0, p1, p2, p3, p4, hg, hsg, hF, hV⟩ := hP
  have hFd := hF.2
  have tail : ∀ (h1 : AH) (j kp : Int) (ad : Int → Nat) (M : Int → MO) (a0 : Nat) (g sg : Int → Option Nat) (j0 : 0 ≤ j) (j1 : j < 20) (p0 : h1.2 p = some (kO 2 [vR (p + 1), vI kp, vI j, vR (p + 2), vR (p + 3), vR (p + 4)])) (p1 : h1.2 (p + 1) = some (kQ 20 g)) (p2 : h1.2 (p + 2) = some (kQ 3 sg)) (p3 : h1.2 (p + 3) = some (kA 2 3 P.2.2.2.2.1)) (p4 : h1.2 (p + 4) = some (kA 2 31 P.2.2.2.2.2.1)) (hg : ∀ i : Int, 0 ≤ i → i < 20 → g i = some (ad i)) (hsg : ∀ i : Int, 0 ≤ i → i < 3 → sg i = some (p + 65 + 3 * i.toNat)) (hF : fam h1 p ad M) (hV : sav h1 p P.2.2.2.2.2.2) (hS : scAt h1 s S) (hO : moAt h1 a0 (P.2.2.2.1 P.2.1)) (hda : ad j + 3 ≤ a0 ∨ a0 + 3 ≤ ad j) (ha0 : p + 5 ≤ a0 ∧ a0 + 3 ≤ p + 65) (hFr : Fr h h1 p 74) (kk : ∀ h', plAt h' p (seeP (j + 1, j, ad, mset M j (goM S P v), P.2.2.2.2) (goM S P v).1) → Fr h h' p 74 → R (some (vI (seenB P (goM S P v).1))) h'), AW m2_goOn (d + 4) (mC m2_goOn, mS m2_goOn) 33 [some (vR p), some (vR s), some (vI v), some (vR a0)] [] h1 R := by
    intro h1  j kp  ad  M  a0  g sg  j0 j1 p0 p1 p2 p3 p4 hg hsg hF hV hS hO hda ha0 hFr kk
    refine A.al4_0 d2_goOn_33 ?_
    refine A.al4_0 d2_goOn_34 ?_
    refine A.getf d2_goOn_35 ?_ (hc := p0)
    refine A.iconst d2_goOn_38 ?_
    refine A.iadd d2_goOn_39 ?_
    refine A.putf d2_goOn_40 (fun h40 e40 f40 => ?_) (hc := p0) (hk := blt_ok rfl)
    first | (have p0 := (f40.2 _ (by omega)).trans p0) | (have p0 := e40)
    first | (have p1 := (f40.2 _ (by omega)).trans p1) | (have p1 := e40)
    first | (have p2 := (f40.2 _ (by omega)).trans p2) | (have p2 := e40)
    first | (have p3 := (f40.2 _ (by omega)).trans p3) | (have p3 := e40)
    first | (have p4 := (f40.2 _ (by omega)).trans p4) | (have p4 := e40)
    have hF := hF.fr f40 (by omega)
    have hV := hV.fr f40 (by omega)
    have hS := hS.fr f40 (by omega)
    have hO := hO.fr f40 (by omega)
    refine A.al4_0 d2_goOn_43 ?_
    refine A.v0 d2_goOn_44 (s2_now (pr := j) (a := ad j) p0 rfl rfl p1 (hg j (by omega) (by omega)) (by omega) (by omega) (kS ?_)) (hc := p0)
    refine A.al4_3 d2_goOn_47 ?_
    refine A.v1 d2_goOn_48 (s1_makeLike (hF.1 j (by omega) (by omega)).2.2 hO hda (fun h48 hm48 f48 => kN ?_)) (hc := (hF.1 j (by omega) (by omega)).2.2.1)
    have hb48 := hF.1 j (by omega) (by omega)
    obtain ⟨hx48, hy48, -⟩ := hb48
    have p0 := f48.get p0 (by omega)
    have p1 := f48.get p1 (by omega)
    have p2 := f48.get p2 (by omega)
    have p3 := f48.get p3 (by omega)
    have p4 := f48.get p4 (by omega)
    have hV := hV.fr f48 (by omega)
    have hS := hS.fr f48 (by omega)
    have hF := hF.put (by omega) (by omega) f48 hm48
    refine A.al4_0 d2_goOn_51 ?_
    refine A.v0 d2_goOn_52 (s2_now (pr := j) (a := ad j) p0 rfl rfl p1 (hg j (by omega) (by omega)) (by omega) (by omega) (kS ?_)) (hc := p0)
    refine A.al4_1 d2_goOn_55 ?_
    refine A.il4_2 d2_goOn_56 ?_
    refine A.v2 d2_goOn_57 (s1_comeFrom hm48 hS (by omega) (fun h57 hm57 f57 => kN ?_)) (hc := (hF.1 j (by omega) (by omega)).2.2.1)
    have hb57 := hF.1 j (by omega) (by omega)
    obtain ⟨hx57, hy57, -⟩ := hb57
    have p0 := f57.get p0 (by omega)
    have p1 := f57.get p1 (by omega)
    have p2 := f57.get p2 (by omega)
    have p3 := f57.get p3 (by omega)
    have p4 := f57.get p4 (by omega)
    have hV := hV.fr f57 (by omega)
    have hS := hS.fr f57 (by omega)
    have hF := hF.put (by omega) (by omega) f57 hm57
    rw [mset_ss] at hF
    have hP57 : plAt h57 p (j + 1, j, ad, mset M j (goM S P v), P.2.2.2.2) := ⟨g, sg, p0, p1, p2, p3, p4, hg, hsg, hF, hV⟩
    refine A.al4_0 d2_goOn_60 ?_
    refine A.al4_0 d2_goOn_61 ?_
    refine A.v0 d2_goOn_62 (s2_now (pr := j) (a := ad j) p0 rfl rfl p1 (hg j (by omega) (by omega)) (by omega) (by omega) (kS ?_)) (hc := p0)
    refine A.getf d2_goOn_65 ?_ (hc := hm57.1)
    refine A.v1 d2_goOn_68 (s2_see (P := (j + 1, j, ad, mset M j (goM S P v), P.2.2.2.2)) hP57 hb (fun h68 hP68 f68 => kS ?_)) (hc := p0)
    refine A.zret d2_goOn_71 ?_ (seenB_rng (P := (j + 1, j, ad, mset M j (goM S P v), P.2.2.2.2)) hb _)
    exact kk _ hP68 ((((hFr.then f40 (by omega) (by omega)).then f48 (by omega) (by omega)).then f57 (by omega) (by omega)).then f68 (by omega) (by omega))
  refine A.al4_0 d2_goOn_0 ?_
  refine A.v0 d2_goOn_1 (s2_now (pr := P.2.1) (a := P.2.2.1 P.2.1) p0 rfl rfl p1 (hg P.2.1 hp0 hp1) hp0 hp1 (kS ?_)) (hc := p0)
  refine A.as4_3 d2_goOn_4 ?_
  have hb0 := hF.1 P.2.1 hp0 hp1
  obtain ⟨hx0, hy0, hO⟩ := hb0
  refine A.al4_0 d2_goOn_5 ?_
  refine A.getf d2_goOn_6 ?_ (hc := p0)
  refine A.iconst d2_goOn_9 ?_
  refine A.iadd d2_goOn_10 ?_
  refine A.bipush d2_goOn_11 ?_
  refine A.ic_ge d2_goOn_13 (fun c13 => ?_) (fun c13 => ?_)
  · refine A.al4_0 d2_goOn_29 ?_
    refine A.v0 d2_goOn_30 (s2_forgetEarliest ⟨g, sg, p0, p1, p2, p3, p4, hg, hsg, hF, hV⟩ (fun h30 hP30 f30 => kN ?_)) (hc := p0)
    obtain ⟨g, sg2, p0, p1, p2, p3, p4, hg, hsg2, hF, hV⟩ := hP30
    dsimp only at p0 p1 p2 p3 p4 hg hsg2 hF hV
    have e19 : P.2.1 = 19 := by omega
    have hP33 : fam h30 p (shA P.2.2.1) (shM P.2.2.2.1) := hF
    have hO33 : moAt h30 (P.2.2.1 P.2.1) (P.2.2.2.1 P.2.1) := by
      have q := (hP33.1 18 (by omega) (by omega)).2.2
      unfold shA shM at q
      rw [if_pos (by omega), if_pos (by omega)] at q
      rw [e19]
      exact q
    refine tail h30 P.2.1 P.1 (shA P.2.2.1) (shM P.2.2.2.1) _ g sg2 hp0 hp1 p0 p1 p2 p3 p4 hg hsg2 hF hV (hS.fr f30 (by omega)) hO33 ?_ ⟨hx0, hy0⟩ f30 (fun h2 q1 q2 => k h2 (by unfold goP; rw [if_neg (by omega)]; exact q1) q2)
    have := hFd P.2.1 0 hp0 hp1 (by omega) (by omega) (by omega)
    unfold shA
    rw [if_neg (by omega)]
    omega
  · refine A.al4_0 d2_goOn_16 ?_
    refine A.dup d2_goOn_17 ?_
    refine A.getf d2_goOn_18 ?_ (hc := p0)
    refine A.iconst d2_goOn_21 ?_
    refine A.iadd d2_goOn_22 ?_
    refine A.putf d2_goOn_23 (fun h23 e23 f23 => ?_) (hc := p0) (hk := blt_ok rfl)
    first | (have p0 := (f23.2 _ (by omega)).trans p0) | (have p0 := e23)
    first | (have p1 := (f23.2 _ (by omega)).trans p1) | (have p1 := e23)
    first | (have p2 := (f23.2 _ (by omega)).trans p2) | (have p2 := e23)
    first | (have p3 := (f23.2 _ (by omega)).trans p3) | (have p3 := e23)
    first | (have p4 := (f23.2 _ (by omega)).trans p4) | (have p4 := e23)
    have hF := hF.fr f23 (by omega)
    have hV := hV.fr f23 (by omega)
    have hS := hS.fr f23 (by omega)
    have hO := hO.fr f23 (by omega)
    have F23 := f23.wide (a := p) (n := 74) (by omega) (by omega)
    refine A.goto d2_goOn_26 ?_
    exact tail _ (P.2.1 + 1) P.1 P.2.2.1 P.2.2.2.1 _ g sg (by omega) (by omega) p0 p1 p2 p3 p4 hg hsg hF hV hS hO (by have := hFd (P.2.1 + 1) P.2.1 (by omega) (by omega) hp0 hp1 (by omega); omega) ⟨hx0, hy0⟩ F23 (fun h2 q1 q2 => k h2 (by unfold goP; rw [if_pos (by omega)]; exact q1) q2)
def keepP (P : PL) (i : Int) : PL := (P.1, P.2.1, P.2.2.1, P.2.2.2.1, fset P.2.2.2.2.1 i 1, P.2.2.2.2.2.1, mset P.2.2.2.2.2.2 i (P.2.2.2.1 P.2.1))
def takeP (P : PL) (i : Int) : PL := (1, 0, P.2.2.1, mset P.2.2.2.1 0 (P.2.2.2.2.2.2 i), P.2.2.2.2)
set_option maxRecDepth 100000 in
set_option maxHeartbeats 4000000 in
theorem s2_keepIn {d : Nat} {h : AH} {R : RP} {p : Nat} {P : PL} {i : Int} (hP : plAt h p P) (hp0 : 0 ≤ P.2.1) (hp1 : P.2.1 < 20) (k : ∀ h', plAt h' p (pif (0 ≤ i ∧ i < 3) (keepP P i) P) → Fr h h' p 74 → R none h') : AM m2_keepIn (d + 2) h [vR p, vI i] R := by
  refine AM.of (L := [some (vR p), some (vI i)]) ok_2_keepIn (by decide) (fun G => Nat.le_of_ble_eq_true rfl) rfl ?_
  obtain ⟨g, sg, p0, p1, p2, p3, p4, hg, hsg, hF, hV⟩ := hP
  refine A.il2_1 d2_keepIn_0 ?_
  refine A.if_lt d2_keepIn_1 (fun c1 => ?_) (fun c1 => ?_)
  · refine A.vret d2_keepIn_29 ?_
    first | exact k _ (by rw [pif_f (by omega)]; exact ⟨g, sg, p0, p1, p2, p3, p4, hg, hsg, hF, hV⟩) Fr.rfl | exact k _ (by rw [pif_t (by omega)]; exact ⟨g, sg, p0, p1, p2, p3, p4, hg, hsg, hF, hV⟩) ((f19.wide (by omega) (by omega)).then f28 (by omega) (by omega))
  · refine A.il2_1 d2_keepIn_4 ?_
    refine A.iconst d2_keepIn_5 ?_
    refine A.ic_ge d2_keepIn_6 (fun c6 => ?_) (fun c6 => ?_)
    · refine A.vret d2_keepIn_29 ?_
      first | exact k _ (by rw [pif_f (by omega)]; exact ⟨g, sg, p0, p1, p2, p3, p4, hg, hsg, hF, hV⟩) Fr.rfl | exact k _ (by rw [pif_t (by omega)]; exact ⟨g, sg, p0, p1, p2, p3, p4, hg, hsg, hF, hV⟩) ((f19.wide (by omega) (by omega)).then f28 (by omega) (by omega))
    · refine A.al2_0 d2_keepIn_9 ?_
      refine A.getf d2_keepIn_10 ?_ (hc := p0)
      refine A.il2_1 d2_keepIn_13 ?_
      refine A.qald d2_keepIn_14 (hsg i (by omega) (by omega)) ?_ (hc := p2)
      refine A.al2_0 d2_keepIn_15 ?_
      refine A.v0 d2_keepIn_16 (s2_now (pr := P.2.1) (a := P.2.2.1 P.2.1) p0 rfl rfl p1 (hg P.2.1 hp0 hp1) hp0 hp1 (kS ?_)) (hc := p0)
      refine A.v1 d2_keepIn_19 (s1_makeLike (hV i (by omega) (by omega)) (hF.1 P.2.1 hp0 hp1).2.2 (by have := hF.1 P.2.1 hp0 hp1; omega) (fun h19 hm19 f19 => kN ?_)) (hc := (hV i (by omega) (by omega)).1)
      have hb19 := hF.1 P.2.1 hp0 hp1
      have p0 := f19.get p0 (by omega)
      have p1 := f19.get p1 (by omega)
      have p2 := f19.get p2 (by omega)
      have p3 := f19.get p3 (by omega)
      have p4 := f19.get p4 (by omega)
      have hF := hF.fr f19 (by omega)
      have hV := hV.put (by omega) (by omega) f19 hm19
      refine A.al2_0 d2_keepIn_22 ?_
      refine A.getf d2_keepIn_23 ?_ (hc := p0)
      refine A.il2_1 d2_keepIn_26 ?_
      refine A.iconst d2_keepIn_27 ?_
      refine A.bast d2_keepIn_28 (fun h28 e28 f28 => ?_) (hc := p3)
      first | (have p0 := (f28.2 _ (by omega)).trans p0) | (have p0 := e28)
      first | (have p1 := (f28.2 _ (by omega)).trans p1) | (have p1 := e28)
      first | (have p2 := (f28.2 _ (by omega)).trans p2) | (have p2 := e28)
      first | (have p3 := (f28.2 _ (by omega)).trans p3) | (have p3 := e28)
      first | (have p4 := (f28.2 _ (by omega)).trans p4) | (have p4 := e28)
      have hF := hF.fr f28 (by omega)
      have hV := hV.fr f28 (by omega)
      refine A.vret d2_keepIn_29 ?_
      first | exact k _ (by rw [pif_f (by omega)]; exact ⟨g, sg, p0, p1, p2, p3, p4, hg, hsg, hF, hV⟩) Fr.rfl | exact k _ (by rw [pif_t (by omega)]; exact ⟨g, sg, p0, p1, p2, p3, p4, hg, hsg, hF, hV⟩) ((f19.wide (by omega) (by omega)).then f28 (by omega) (by omega))
set_option maxRecDepth 100000 in
set_option maxHeartbeats 4000000 in
theorem s2_takeFrom {d : Nat} {h : AH} {R : RP} {p : Nat} {P : PL} {i : Int} (hP : plAt h p P) (hs : ∀ j, 0 ≤ j → j < 3 → 0 ≤ P.2.2.2.2.1 j ∧ P.2.2.2.2.1 j ≤ 1) (k : ∀ h', plAt h' p (pif (0 ≤ i ∧ i < 3 ∧ P.2.2.2.2.1 i = 1) (takeP P i) P) → Fr h h' p 74 → R (some (vI (bi (0 ≤ i ∧ i < 3 ∧ P.2.2.2.2.1 i = 1)))) h') : AM m2_takeFrom (d + 2) h [vR p, vI i] R := by
  refine AM.of (L := [some (vR p), some (vI i)]) ok_2_takeFrom (by decide) (fun G => Nat.le_of_ble_eq_true rfl) rfl ?_
  obtain ⟨g, sg, p0, p1, p2, p3, p4, hg, hsg, hF, hV⟩ := hP
  refine A.il2_1 d2_takeFrom_0 ?_
  refine A.if_lt d2_takeFrom_1 (fun c1 => ?_) (fun c1 => ?_)
  · refine A.iconst d2_takeFrom_18 ?_
    refine A.zret d2_takeFrom_19 ?_
    exact rF (k _ (by rw [pif_f (by omega)]; exact ⟨g, sg, p0, p1, p2, p3, p4, hg, hsg, hF, hV⟩) Fr.rfl) (by omega)
  · refine A.il2_1 d2_takeFrom_4 ?_
    refine A.iconst d2_takeFrom_5 ?_
    refine A.ic_ge d2_takeFrom_6 (fun c6 => ?_) (fun c6 => ?_)
    · refine A.iconst d2_takeFrom_18 ?_
      refine A.zret d2_takeFrom_19 ?_
      exact rF (k _ (by rw [pif_f (by omega)]; exact ⟨g, sg, p0, p1, p2, p3, p4, hg, hsg, hF, hV⟩) Fr.rfl) (by omega)
    · refine A.al2_0 d2_takeFrom_9 ?_
      refine A.getf d2_takeFrom_10 ?_ (hc := p0)
      refine A.il2_1 d2_takeFrom_13 ?_
      refine A.bald d2_takeFrom_14 ?_ (hc := p3)
      refine A.if_ne d2_takeFrom_15 (fun c15 => ?_) (fun c15 => ?_)
      · refine A.al2_0 d2_takeFrom_20 ?_
        refine A.v0 d2_takeFrom_21 (s2_keepOneMoment ⟨g, sg, p0, p1, p2, p3, p4, hg, hsg, hF, hV⟩ (fun h21 hP21 f21 => kN ?_)) (hc := p0)
        obtain ⟨g, sg, p0, p1, p2, p3, p4, hg, hsg, hF, hV⟩ := hP21
        dsimp only at p0 p1 p2 p3 p4 hg hsg hF hV
        refine A.al2_0 d2_takeFrom_24 ?_
        refine A.v0 d2_takeFrom_25 (s2_now (pr := 0) (a := P.2.2.1 0) p0 rfl rfl p1 (hg 0 (by omega) (by omega)) (by omega) (by omega) (kS ?_)) (hc := p0)
        refine A.al2_0 d2_takeFrom_28 ?_
        refine A.getf d2_takeFrom_29 ?_ (hc := p0)
        refine A.il2_1 d2_takeFrom_32 ?_
        refine A.qald d2_takeFrom_33 (hsg i (by omega) (by omega)) ?_ (hc := p2)
        refine A.v1 d2_takeFrom_34 (s1_makeLike (hF.1 0 (by omega) (by omega)).2.2 (hV i (by omega) (by omega)) (by have := hF.1 0 (by omega) (by omega); omega) (fun h34 hm34 f34 => kN ?_)) (hc := (hF.1 0 (by omega) (by omega)).2.2.1)
        have hb34 := hF.1 0 (by omega) (by omega)
        obtain ⟨hx34, hy34, -⟩ := hb34
        have p0 := f34.get p0 (by omega)
        have p1 := f34.get p1 (by omega)
        have p2 := f34.get p2 (by omega)
        have p3 := f34.get p3 (by omega)
        have p4 := f34.get p4 (by omega)
        have hV := hV.fr f34 (by omega)
        have hF := hF.put (by omega) (by omega) f34 hm34
        refine A.iconst d2_takeFrom_37 ?_
        refine A.zret d2_takeFrom_38 ?_
        have e1 : P.2.2.2.2.1 i = 1 := by have := hs i (by omega) (by omega); omega
        exact rT (k _ (by rw [pif_t (by omega)]; exact ⟨g, sg, p0, p1, p2, p3, p4, hg, hsg, hF, hV⟩) (f21.then f34 (by omega) (by omega))) (by omega)
      · refine A.iconst d2_takeFrom_18 ?_
        refine A.zret d2_takeFrom_19 ?_
        exact rF (k _ (by rw [pif_f (by omega)]; exact ⟨g, sg, p0, p1, p2, p3, p4, hg, hsg, hF, hV⟩) Fr.rfl) (by omega)
