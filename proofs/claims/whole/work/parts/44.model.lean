/-! ===== the reference: nodes are carried out ===== -/
theorem rSK_ne {S : SC} {v : Int} (h : rSK S v ≠ -11) : cShown S v := Classical.byContradiction fun z => h (pif_f z)
theorem rSK_no {S : SC} {v : Int} (h : rSK S v = -11) : ¬ cShown S v := fun z => by
  rw [show rSK S v = _ from pif_t z] at h
  unfold cSK at h
  (repeat' split at h) <;> omega
theorem not_shown {S : SC} {B : Int → Int} {v : Int} (hB : rScr B S) (h0 : 0 ≤ v) (h : ¬ cShown S v) : v < S.1 ∧ 1 ≤ cKind S v ∧ cKind S v ≤ 5 := by
  unfold cShown at h
  have h1 : v < S.1 := Classical.byContradiction fun z => h (Or.inl (cK_out (by omega)))
  have g := (hB.2 v h0 h1).kr
  exact ⟨h1, by omega, by omega⟩
theorem cDo1 {S : SC} {m : MO} {v : Int} (h : cKind S v = 1) : cDo S m v = (putM m (cNum S v 1) (cNum S v 0) (cNum S v 2), v + 1) := if_pos h
theorem cDo2 {S : SC} {m : MO} {v : Int} (h : cKind S v = 2) : cDo S m v = (hideM m (cNum S v 0), v + 1) := (if_neg (by omega)).trans (if_pos h)
theorem cDo3 {S : SC} {m : MO} {v : Int} (h : cKind S v = 3) : cDo S m v = ((m.1, (if cNum S v 1 = 1 then bOr m.2.1 (bShl 1 (cNum S v 0)) else bAnd m.2.1 (bXor (bShl 1 (cNum S v 0)) (-1))), m.2.2), v + 1) := (if_neg (by omega)).trans ((if_neg (by omega)).trans (if_pos h))
theorem cDo4 {S : SC} {m : MO} {v : Int} (h : cKind S v = 4) : cDo S m v = (m, cNum S v 0) := (if_neg (by omega)).trans ((if_neg (by omega)).trans ((if_neg (by omega)).trans (if_pos h)))
theorem cDo5 {S : SC} {m : MO} {v : Int} (h : cKind S v = 5) : cDo S m v = (m, pif (fon m.2.1 (cNum S v 0)) (cNum S v 1) (v + 1)) := (if_neg (by omega)).trans ((if_neg (by omega)).trans ((if_neg (by omega)).trans ((if_neg (by omega)).trans (if_pos h))))
theorem cDo_rng {S : SC} {B : Int → Int} {v : Int} {m : MO} (hB : rScr B S) (h0 : 0 ≤ v) (h : ¬ cShown S v) : 0 ≤ (cDo S m v).2 ∧ (cDo S m v).2 ≤ 29 := by
  obtain ⟨h1, h2, h3⟩ := not_shown hB h0 h
  have g := hB.2 v h0 h1
  have hB1 := hB.1
  rcases (by omega : cKind S v = 1 ∨ cKind S v = 2 ∨ cKind S v = 3 ∨ cKind S v = 4 ∨ cKind S v = 5) with z | z | z | z | z
  · rw [cDo1 z]; exact ⟨by show 0 ≤ v + 1; omega, by show v + 1 ≤ 29; omega⟩
  · rw [cDo2 z]; exact ⟨by show 0 ≤ v + 1; omega, by show v + 1 ≤ 29; omega⟩
  · rw [cDo3 z]; exact ⟨by show 0 ≤ v + 1; omega, by show v + 1 ≤ 29; omega⟩
  · rw [cDo4 z]; exact g.r4 z
  · rw [cDo5 z]
    have r := g.r5 z
    by_cases c : fon m.2.1 (cNum S v 0)
    · rw [pif_t c]; exact r.2
    · rw [pif_f c]; exact ⟨by show 0 ≤ v + 1; omega, by show v + 1 ≤ 29; omega⟩
theorem cIt_rng {S : SC} {B : Int → Int} (hB : rScr B S) : ∀ (n : Nat) (m : MO) (v : Int), 0 ≤ v → v ≤ 30 → 0 ≤ (cIt S n (m, v)).2 ∧ (cIt S n (m, v)).2 ≤ 30 := by
  intro n
  induction n with
  | zero => intro m v h0 h1; exact ⟨h0, h1⟩
  | succ n ih =>
    intro m v h0 h1
    by_cases c : cShown S v
    · rw [show cIt S (n + 1) (m, v) = _ from pif_t c]; exact ⟨h0, h1⟩
    · rw [show cIt S (n + 1) (m, v) = _ from pif_f c]
      have := cDo_rng (m := m) hB h0 c
      exact ih _ _ this.1 (Int.le_trans this.2 (by decide))
theorem cCome_rng {S : SC} {B : Int → Int} (hB : rScr B S) (m : MO) {v : Int} (h0 : 0 ≤ v) (h1 : v ≤ 30) : (0 ≤ (cCome S m v).1 ∧ (cCome S m v).1 ≤ 30) ∧ cShown S (cCome S m v).1 := by
  have r := cIt_rng hB 60 m v h0 h1
  rw [show (cCome S m v).1 = pif (cShown S (cIt S 60 (m, v)).2) (cIt S 60 (m, v)).2 30 from rfl]
  by_cases c : cShown S (cIt S 60 (m, v)).2
  · rw [pif_t c]; exact ⟨r, c⟩
  · rw [pif_f c]; exact ⟨by omega, Or.inl (cK_out (by have := hB.1; omega))⟩
set_option maxRecDepth 100000 in
set_option maxHeartbeats 4000000 in
theorem s6_does {d : Nat} {h : AH} {R : RP} {v : Int} {q : Nat} {rd fi co ah se tl ps fa fl ch : Int} {hx : Int64} {S : SC} {B : Int → Int} (w0 : h.2 q = some (mobj q S.1 rd fi co ah se tl ps fa fl ch hx)) (w1 : h.2 (q + 1) = some (kA 0 348 B)) (hB : rScr B S) {m : MO} {V F : Int → Int} (w7 : h.2 (q + 7) = some (kA 0 3 V)) (w8 : h.2 (q + 8) = some (kA 0 3 F)) (hs : scrR m fl V F) (h0 : 0 ≤ v) (h1 : v < S.1) (hk1 : 1 ≤ cKind S v) (hk2 : cKind S v ≤ 5) (k : ∀ h' fl' V' F', h'.2 q = some (mobj q S.1 rd fi co ah se tl ps fa fl' ch hx) → h'.2 (q + 7) = some (kA 0 3 V') → h'.2 (q + 8) = some (kA 0 3 F') → scrR ((cDo S m v).1) fl' V' F' → Fr2 h h' q 1 (q + 7) 2 → R (some (vI (cDo S m v).2)) h') : AM m6_does (d + 1) h [vR q, vI v] R := by
  refine AM.of (L := [some (vR q), some (vI v), none, none]) ok_6_does (by decide) (fun G => Nat.le_of_ble_eq_true rfl) rfl ?_
  have hB1 := hB.1
  have g := hB.2 v h0 h1
  have g0 : B (12 * v + 0) = cKind S v := by rw [Int.add_zero]; exact g.kd
  have gn0 := g.n0
  have gn1 := g.n1
  have gn2 := g.n2
  refine A.al4_0 d6_does_0 ?_
  refine A.il4_1 d6_does_1 ?_
  refine A.iconst d6_does_2 ?_
  refine A.v2 d6_does_3 (s6_of w0 w1 hB (by omega) (by omega) (by omega) (by omega) (kS ?_)) (hc := w0)
  refine A.is4_2 d6_does_6 ?_
  refine A.al4_0 d6_does_7 ?_
  refine A.il4_1 d6_does_8 ?_
  refine A.iconst d6_does_9 ?_
  refine A.v2 d6_does_10 (s6_of w0 w1 hB (by omega) (by omega) (by omega) (by omega) (kS ?_)) (hc := w0)
  refine A.is4_3 d6_does_13 ?_
  refine A.al4_0 d6_does_14 ?_
  refine A.il4_1 d6_does_15 ?_
  refine A.iconst d6_does_16 ?_
  refine A.v2 d6_does_17 (s6_of w0 w1 hB (by omega) (by omega) (by omega) (by omega) (kS ?_)) (hc := w0)
  refine A.tsw4 d6_does_20 (fun c20 => ?_) (fun c20 => ?_) (fun c20 => ?_) (fun c20 => ?_) (fun c20 => ?_)
  · obtain ⟨ra, rb, rc⟩ := g.r1 (by omega)
    refine A.al4_0 d6_does_52 ?_
    refine A.il4_2 d6_does_53 ?_
    refine A.v1 d6_does_54 (s6_leaves (B := B) w0 w7 (fun h54 V1 e54 v54 f54 => kN ?_)) (hc := w0)
    have w0 := f54.get w0 (by omega)
    have w1 := f54.get w1 (by omega)
    have w8 := f54.get w8 (by omega)
    have w7 := e54
    refine A.al4_0 d6_does_57 ?_
    refine A.getf d6_does_58 ?_ (hc := w0)
    refine A.il4_3 d6_does_61 ?_
    refine A.il4_2 d6_does_62 ?_
    refine A.iast d6_does_63 (fun h63 e63 f63 => ?_) (hc := w7)
    first | (have w0 := (f63.2 _ (by omega)).trans w0) | (have w0 := e63)
    first | (have w1 := (f63.2 _ (by omega)).trans w1) | (have w1 := e63)
    first | (have w7 := (f63.2 _ (by omega)).trans w7) | (have w7 := e63)
    first | (have w8 := (f63.2 _ (by omega)).trans w8) | (have w8 := e63)
    refine A.al4_0 d6_does_64 ?_
    refine A.getf d6_does_65 ?_ (hc := w0)
    refine A.il4_3 d6_does_68 ?_
    refine A.al4_0 d6_does_69 ?_
    refine A.il4_1 d6_does_70 ?_
    refine A.iconst d6_does_71 ?_
    refine A.v2 d6_does_72 (s6_of w0 w1 hB (by omega) (by omega) (by omega) (by omega) (kS ?_)) (hc := w0)
    refine A.iast d6_does_75 (fun h75 e75 f75 => ?_) (hc := w8)
    first | (have w0 := (f75.2 _ (by omega)).trans w0) | (have w0 := e75)
    first | (have w1 := (f75.2 _ (by omega)).trans w1) | (have w1 := e75)
    first | (have w7 := (f75.2 _ (by omega)).trans w7) | (have w7 := e75)
    first | (have w8 := (f75.2 _ (by omega)).trans w8) | (have w8 := e75)
    refine A.il4_1 d6_does_76 ?_
    refine A.iconst d6_does_77 ?_
    refine A.iadd d6_does_78 ?_
    refine A.iret d6_does_79 ?_
    have e := cDo1 (m := m) (v := v) (S := S) (by omega)
    have hz := scr_put (f := B (12 * v + 3)) hs v54 (p := B (12 * v + 2)) (by omega) (by omega) (by omega)
    rw [show putM m (B (12 * v + 2)) (B (12 * v + 1)) (B (12 * v + 3)) = (cDo S m v).1 by rw [g.n0, g.n1, g.n2, e]] at hz
    exact rI (k _ _ _ _ w0 w7 w8 hz (((Fr2.rfl.trans (f54.two2 (by omega) (by omega))).trans (f63.two2 (by omega) (by omega))).trans (f75.two2 (by omega) (by omega)))) (by rw [e])
  · have ra := g.r2 (by omega)
    refine A.al4_0 d6_does_80 ?_
    refine A.il4_2 d6_does_81 ?_
    refine A.v1 d6_does_82 (s6_leaves (B := B) w0 w7 (fun h82 V1 e82 v82 f82 => kN ?_)) (hc := w0)
    have w0 := f82.get w0 (by omega)
    have w1 := f82.get w1 (by omega)
    have w8 := f82.get w8 (by omega)
    have w7 := e82
    refine A.il4_1 d6_does_85 ?_
    refine A.iconst d6_does_86 ?_
    refine A.iadd d6_does_87 ?_
    refine A.iret d6_does_88 ?_
    have e := cDo2 (m := m) (v := v) (S := S) (by omega)
    have hz := scr_hide hs v82
    rw [show hideM m (B (12 * v + 1)) = (cDo S m v).1 by rw [g.n0, e]] at hz
    exact rI (k _ _ _ _ w0 w7 w8 hz (Fr2.rfl.trans (f82.two2 (by omega) (by omega)))) (by rw [e])
  · obtain ⟨ra, rb⟩ := g.r3 (by omega)
    refine A.al4_0 d6_does_89 ?_
    refine A.il4_3 d6_does_90 ?_
    refine A.iconst d6_does_91 ?_
    refine A.ic_ne d6_does_92 (fun c92 => ?_) (fun c92 => ?_)
    · refine A.al4_0 d6_does_106 ?_
      refine A.getf d6_does_107 ?_ (hc := w0)
      refine A.iconst d6_does_110 ?_
      refine A.il4_2 d6_does_111 ?_
      refine A.ishl d6_does_112 ?_
      refine A.iconst d6_does_113 ?_
      refine A.ixor d6_does_114 ?_
      refine A.iand d6_does_115 ?_
      refine A.putf d6_does_116 (fun h116 e116 f116 => ?_) (hc := w0) (hk := blt_ok rfl)
      first | (have w0 := (f116.2 _ (by omega)).trans w0) | (have w0 := e116)
      first | (have w1 := (f116.2 _ (by omega)).trans w1) | (have w1 := e116)
      first | (have w7 := (f116.2 _ (by omega)).trans w7) | (have w7 := e116)
      first | (have w8 := (f116.2 _ (by omega)).trans w8) | (have w8 := e116)
      refine A.il4_1 d6_does_119 ?_
      refine A.iconst d6_does_120 ?_
      refine A.iadd d6_does_121 ?_
      refine A.iret d6_does_122 ?_
      have e := cDo3 (m := m) (v := v) (S := S) (by omega)
      have hfo := flOr hs.2.1.1 hs.2.1.2 (a := cNum S v 0) (by omega) (by omega)
      have hfa := flAnd hs.2.1.1 hs.2.1.2 (a := cNum S v 0) (by omega) (by omega)
      rw [g.n0] at w0
      refine rI (k _ _ _ _ w0 w7 w8 ?_ (Fr2.rfl.trans (f116.two1 (by omega) (by omega)))) (by rw [e])
      rw [e]
      first
        | exact ⟨(if_pos (by omega)).trans (by rw [hs.1]), hfo, hs.2.2⟩
        | exact ⟨(if_neg (by omega)).trans (by rw [hs.1]), hfa, hs.2.2⟩
    · refine A.al4_0 d6_does_95 ?_
      refine A.getf d6_does_96 ?_ (hc := w0)
      refine A.iconst d6_does_99 ?_
      refine A.il4_2 d6_does_100 ?_
      refine A.ishl d6_does_101 ?_
      refine A.ior d6_does_102 ?_
      refine A.goto d6_does_103 ?_
      refine A.putf d6_does_116 (fun h116 e116 f116 => ?_) (hc := w0) (hk := blt_ok rfl)
      first | (have w0 := (f116.2 _ (by omega)).trans w0) | (have w0 := e116)
      first | (have w1 := (f116.2 _ (by omega)).trans w1) | (have w1 := e116)
      first | (have w7 := (f116.2 _ (by omega)).trans w7) | (have w7 := e116)
      first | (have w8 := (f116.2 _ (by omega)).trans w8) | (have w8 := e116)
      refine A.il4_1 d6_does_119 ?_
      refine A.iconst d6_does_120 ?_
      refine A.iadd d6_does_121 ?_
      refine A.iret d6_does_122 ?_
      have e := cDo3 (m := m) (v := v) (S := S) (by omega)
      have hfo := flOr hs.2.1.1 hs.2.1.2 (a := cNum S v 0) (by omega) (by omega)
      have hfa := flAnd hs.2.1.1 hs.2.1.2 (a := cNum S v 0) (by omega) (by omega)
      rw [g.n0] at w0
      refine rI (k _ _ _ _ w0 w7 w8 ?_ (Fr2.rfl.trans (f116.two1 (by omega) (by omega)))) (by rw [e])
      rw [e]
      first
        | exact ⟨(if_pos (by omega)).trans (by rw [hs.1]), hfo, hs.2.2⟩
        | exact ⟨(if_neg (by omega)).trans (by rw [hs.1]), hfa, hs.2.2⟩
  · have ra := g.r4 (by omega)
    refine A.il4_2 d6_does_123 ?_
    refine A.iret d6_does_124 ?_
    have e := cDo4 (m := m) (v := v) (S := S) (by omega)
    exact rI (k _ _ _ _ w0 w7 w8 (by rw [e]; exact hs) Fr2.rfl) (by rw [e]; exact g.n0)
  · obtain ⟨ra, rb⟩ := g.r5 (by omega)
    refine A.al4_0 d6_does_125 ?_
    refine A.getf d6_does_126 ?_ (hc := w0)
    refine A.il4_2 d6_does_129 ?_
    refine A.ishr d6_does_130 ?_
    refine A.iconst d6_does_131 ?_
    refine A.iand d6_does_132 ?_
    refine A.iconst d6_does_133 ?_
    refine A.ic_ne d6_does_134 (fun c134 => ?_) (fun c134 => ?_)
    · refine A.il4_1 d6_does_141 ?_
      refine A.iconst d6_does_142 ?_
      refine A.iadd d6_does_143 ?_
      refine A.iret d6_does_144 ?_
      have e := cDo5 (m := m) (v := v) (S := S) (by omega)
      refine rI (k _ _ _ _ w0 w7 w8 (by rw [e]; exact hs) Fr2.rfl) ?_
      rw [e]
      rw [g.n0, ← hs.1] at c134
      first
        | exact g.n1.trans (pif_t c134).symm
        | exact (pif_f c134).symm
    · refine A.il4_3 d6_does_137 ?_
      refine A.goto d6_does_138 ?_
      refine A.iret d6_does_144 ?_
      have e := cDo5 (m := m) (v := v) (S := S) (by omega)
      refine rI (k _ _ _ _ w0 w7 w8 (by rw [e]; exact hs) Fr2.rfl) ?_
      rw [e]
      rw [g.n0, ← hs.1] at c134
      first
        | exact g.n1.trans (pif_t c134).symm
        | exact (pif_f c134).symm
set_option maxRecDepth 100000 in
set_option maxHeartbeats 4000000 in
theorem s6_carries {d : Nat} {h : AH} {R : RP} {v : Int} {q : Nat} {rd fi co ah se tl ps fa fl ch : Int} {hx : Int64} {S : SC} {B : Int → Int} (w0 : h.2 q = some (mobj q S.1 rd fi co ah se tl ps fa fl ch hx)) (w1 : h.2 (q + 1) = some (kA 0 348 B)) (hB : rScr B S) {m : MO} {V F : Int → Int} (w7 : h.2 (q + 7) = some (kA 0 3 V)) (w8 : h.2 (q + 8) = some (kA 0 3 F)) (hs : scrR m fl V F) (h0 : 0 ≤ v) (h1 : v ≤ 30) (k : ∀ h' fl' V' F', h'.2 q = some (mobj q S.1 rd fi co ah se tl ps fa fl' ch hx) → h'.2 (q + 7) = some (kA 0 3 V') → h'.2 (q + 8) = some (kA 0 3 F') → scrR (cCome S m v) fl' V' F' → Fr2 h h' q 1 (q + 7) 2 → R (some (vI (cCome S m v).1)) h') : AM m6_carries (d + 2) h [vR q, vI v] R := by
  refine AM.of (L := [some (vR q), some (vI v), none, none]) ok_6_carries (by decide) (fun G => Nat.le_of_ble_eq_true rfl) rfl ?_
  have fin : ∀ (i : Int) (b fl1 : Int) (m1 : MO) (V1 F1 : Int → Int) (h1 : AH) (h0b : 0 ≤ b) (h1b : b ≤ 30) (w0 : h1.2 q = some (mobj q S.1 rd fi co ah se tl ps fa fl1 ch hx)) (w1 : h1.2 (q + 1) = some (kA 0 348 B)) (w7 : h1.2 (q + 7) = some (kA 0 3 V1)) (w8 : h1.2 (q + 8) = some (kA 0 3 F1)) (hs : scrR m1 fl1 V1 F1) (hF : Fr2 h h1 q 1 (q + 7) 2) (he : cIt S 60 (m, v) = (m1, b)), AW m6_carries (d + 2) (mC m6_carries, mS m6_carries) 32 [some (vR q), some (vI v), some (vI b), some (vI i)] [] h1 R := by
    intro i  b fl1  m1  V1 F1  h1  h0b h1b w0 w1 w7 w8 hs hF he
    refine A.al4_0 d6_carries_32 ?_
    refine A.il4_2 d6_carries_33 ?_
    refine A.v1 d6_carries_34 (s6_shownKind w0 w1 hB h0b (kS ?_)) (hc := w0)
    refine A.bipush d6_carries_37 ?_
    refine A.ic_ne d6_carries_39 (fun c39 => ?_) (fun c39 => ?_)
    · refine A.il4_2 d6_carries_47 ?_
      refine A.iret d6_carries_48 ?_
      have hz : scrR (cCome S m v) fl1 V1 F1 := by unfold cCome; rw [he]; exact hs
      first
        | exact rI (k _ _ _ _ w0 w7 w8 hz hF) (by unfold cCome; rw [he]; exact (pif_t (rSK_ne c39)).symm)
        | exact rI (k _ _ _ _ w0 w7 w8 hz hF) (by unfold cCome; rw [he]; exact (pif_f (rSK_no c39)).symm)
    · refine A.bipush d6_carries_42 ?_
      refine A.goto d6_carries_44 ?_
      refine A.iret d6_carries_48 ?_
      have hz : scrR (cCome S m v) fl1 V1 F1 := by unfold cCome; rw [he]; exact hs
      first
        | exact rI (k _ _ _ _ w0 w7 w8 hz hF) (by unfold cCome; rw [he]; exact (pif_t (rSK_ne c39)).symm)
        | exact rI (k _ _ _ _ w0 w7 w8 hz hF) (by unfold cCome; rw [he]; exact (pif_f (rSK_no c39)).symm)
  have loop : ∀ (nf : Nat) (i : Nat) (b fl1 : Int) (m1 : MO) (V1 F1 : Int → Int) (h1 : AH) (hi : i ≤ 60) (h0b : 0 ≤ b) (h1b : b ≤ 30) (w0 : h1.2 q = some (mobj q S.1 rd fi co ah se tl ps fa fl1 ch hx)) (w1 : h1.2 (q + 1) = some (kA 0 348 B)) (w7 : h1.2 (q + 7) = some (kA 0 3 V1)) (w8 : h1.2 (q + 8) = some (kA 0 3 F1)) (hs : scrR m1 fl1 V1 F1) (hF : Fr2 h h1 q 1 (q + 7) 2) (he : cIt S 60 (m, v) = cIt S (60 - i) (m1, b)) (hn : 60 - i < nf), AW m6_carries (d + 2) (mC m6_carries, mS m6_carries) 4 [some (vR q), some (vI v), some (vI b), some (vI i)] [] h1 R := by
    intro nf
    induction nf with
    | zero => intro i  b fl1  m1  V1 F1  h1  hi h0b h1b w0 w1 w7 w8 hs hF he hn; omega
    | succ nf ih =>
      intro i  b fl1  m1  V1 F1  h1  hi h0b h1b w0 w1 w7 w8 hs hF he hn
      refine A.il4_3 d6_carries_4 ?_
      refine A.bipush d6_carries_5 ?_
      refine A.ic_ge d6_carries_7 (fun c7 => ?_) (fun c7 => ?_)
      · first
          | (obtain ⟨j, hj⟩ : ∃ j, 60 - i = j + 1 := ⟨60 - i - 1, by omega⟩
             exact fin _ _ _ _ _ _ _ h0b h1b w0 w1 w7 w8 hs hF (by rw [he, hj]; exact pif_t (rSK_ne c17)))
          | exact fin _ _ _ _ _ _ _ h0b h1b w0 w1 w7 w8 hs hF (by rw [he, show 60 - i = 0 by omega]; rfl)
      · refine A.al4_0 d6_carries_10 ?_
        refine A.il4_2 d6_carries_11 ?_
        refine A.v1 d6_carries_12 (s6_shownKind w0 w1 hB h0b (kS ?_)) (hc := w0)
        refine A.bipush d6_carries_15 ?_
        refine A.ic_ne d6_carries_17 (fun c17 => ?_) (fun c17 => ?_)
        · first
            | (obtain ⟨j, hj⟩ : ∃ j, 60 - i = j + 1 := ⟨60 - i - 1, by omega⟩
               exact fin _ _ _ _ _ _ _ h0b h1b w0 w1 w7 w8 hs hF (by rw [he, hj]; exact pif_t (rSK_ne c17)))
            | exact fin _ _ _ _ _ _ _ h0b h1b w0 w1 w7 w8 hs hF (by rw [he, show 60 - i = 0 by omega]; rfl)
        · have ns := rSK_no c17
          refine A.al4_0 d6_carries_20 ?_
          refine A.il4_2 d6_carries_21 ?_
          refine A.v1 d6_carries_22 (s6_does w0 w1 hB w7 w8 hs h0b (not_shown hB h0b ns).1 (not_shown hB h0b ns).2.1 (not_shown hB h0b ns).2.2 (fun h22 fl2 V2 F2 e22 x22 y22 hs2 f22 => kS ?_)) (hc := w0)
          have w0 := e22
          have w1 := f22.get w1 (by omega) (by omega)
          have w7 := x22
          have w8 := y22
          refine A.is4_2 d6_carries_25 ?_
          refine A.ii4_3 d6_carries_26 ?_
          refine A.goto d6_carries_29 ?_
          obtain ⟨j, hj⟩ : ∃ j, 60 - i = j + 1 := ⟨60 - i - 1, by omega⟩
          have hr := cDo_rng (m := m1) hB h0b ns
          exact ih (i + 1) _ _ _ _ _ _ (by omega) hr.1 (by omega) w0 w1 w7 w8 hs2 (hF.trans f22) (by rw [he, hj, show 60 - (i + 1) = j by omega]; exact pif_f ns) (by omega)
  refine A.il4_1 d6_carries_0 ?_
  refine A.is4_2 d6_carries_1 ?_
  refine A.iconst d6_carries_2 ?_
  refine A.is4_3 d6_carries_3 ?_
  exact loop 61 0 v _ m _ _ h (by omega) h0 h1 w0 w1 w7 w8 hs Fr2.rfl rfl (by omega)
