/-! ===== the reference: nodes, what they do ===== -/
noncomputable def rSK (S : SC) (v : Int) : Int := pif (cShown S v) (cSK S v) (-11)
theorem cK_out {S : SC} {v : Int} (h : S.1 ≤ v) : cKind S v = -1 := if_neg (by omega)
theorem rSK_out {S : SC} {v : Int} (h : S.1 ≤ v) : rSK S v = 2 := by
  have e := cK_out h
  unfold rSK cSK cShown
  rw [pif_t (Or.inl e), e]; rfl
theorem rSK_in {S : SC} {v : Int} (h : 0 ≤ cKind S v) : rSK S v = if cKind S v = 0 then 0 else if cKind S v = 6 then 1 else if cKind S v = 7 then 2 else -11 := by
  unfold rSK cSK cShown
  by_cases a : cKind S v = 0
  · rw [pif_t (by omega), if_pos a, if_pos a]
  · by_cases b : cKind S v = 6
    · rw [pif_t (by omega), if_neg a, if_neg a, if_pos b, if_pos b]
    · by_cases c : cKind S v = 7
      · rw [pif_t (by omega), if_neg a, if_neg a, if_neg b, if_neg b, if_pos c]
      · rw [pif_f (by omega), if_neg a, if_neg b, if_neg c]
theorem fl_or : ∀ (f : Fin 64) (a : Fin 6), 0 ≤ bOr (f.val : Int) (bShl 1 (a.val : Int)) ∧ bOr (f.val : Int) (bShl 1 (a.val : Int)) ≤ 63 := by decide +kernel
theorem fl_and : ∀ (f : Fin 64) (a : Fin 6), 0 ≤ bAnd (f.val : Int) (bXor (bShl 1 (a.val : Int)) (-1)) ∧ bAnd (f.val : Int) (bXor (bShl 1 (a.val : Int)) (-1)) ≤ 63 := by decide +kernel
theorem flOr {f a : Int} (h0 : 0 ≤ f) (h1 : f ≤ 63) (a0 : 0 ≤ a) (a1 : a ≤ 5) : 0 ≤ bOr f (bShl 1 a) ∧ bOr f (bShl 1 a) ≤ 63 := by
  have := fl_or ⟨f.toNat, by omega⟩ ⟨a.toNat, by omega⟩
  rwa [show ((f.toNat : Nat) : Int) = f by omega, show ((a.toNat : Nat) : Int) = a by omega] at this
theorem flAnd {f a : Int} (h0 : 0 ≤ f) (h1 : f ≤ 63) (a0 : 0 ≤ a) (a1 : a ≤ 5) : 0 ≤ bAnd f (bXor (bShl 1 a) (-1)) ∧ bAnd f (bXor (bShl 1 a) (-1)) ≤ 63 := by
  have := fl_and ⟨f.toNat, by omega⟩ ⟨a.toNat, by omega⟩
  rwa [show ((f.toNat : Nat) : Int) = f by omega, show ((a.toNat : Nat) : Int) = a by omega] at this
/-- the reference's scratch holds a moment: flags, voices, faces (a face where no voice stands is of no use) -/
def scrR (m : MO) (fl : Int) (V F : Int → Int) : Prop := m.2.1 = fl ∧ (0 ≤ fl ∧ fl ≤ 63) ∧ ∀ k : Int, 0 ≤ k → k < 3 → m.2.2.1 k = V k ∧ m.2.2.2 k = if V k = -11 then -11 else F k
theorem hideF_at (v : Int) (m : (Int → Int) × (Int → Int)) : ∀ (n : Nat) (j : Int), 0 ≤ j → (hideF v n m).1 j = (if j < n ∧ m.1 j = v then -11 else m.1 j) ∧ (hideF v n m).2 j = (if j < n ∧ m.1 j = v then -11 else m.2 j) := by
  intro n
  induction n with
  | zero => intro j h0; rw [if_neg (by omega), if_neg (by omega)]; exact ⟨rfl, rfl⟩
  | succ n ih =>
    intro j h0
    have e := ih n (by omega)
    rw [if_neg (by omega), if_neg (by omega)] at e
    by_cases c : (hideF v n m).1 n = v
    · rw [show hideF v (n + 1) m = _ from if_pos c]
      by_cases d : j = n
      · subst d
        have E : (n : Int) < ((n + 1 : Nat) : Int) ∧ m.1 n = v := ⟨by omega, by rw [← e.1]; exact c⟩
        exact ⟨(fs_at rfl).trans (if_pos E).symm, (fs_at rfl).trans (if_pos E).symm⟩
      · show fset _ _ _ _ = _ ∧ fset _ _ _ _ = _
        rw [fs_off d, fs_off d, (ih j h0).1, (ih j h0).2]
        by_cases g : j < n ∧ m.1 j = v
        · rw [if_pos g, if_pos g, if_pos ⟨by omega, g.2⟩, if_pos ⟨by omega, g.2⟩]; exact ⟨rfl, rfl⟩
        · have g2 : ¬ (j < ((n + 1 : Nat) : Int) ∧ m.1 j = v) := fun z => g ⟨by omega, z.2⟩
          rw [if_neg g, if_neg g, if_neg g2, if_neg g2]; exact ⟨rfl, rfl⟩
    · rw [show hideF v (n + 1) m = _ from if_neg c, (ih j h0).1, (ih j h0).2]
      by_cases g : j < n ∧ m.1 j = v
      · rw [if_pos g, if_pos g, if_pos ⟨by omega, g.2⟩, if_pos ⟨by omega, g.2⟩]; exact ⟨rfl, rfl⟩
      · have g2 : ¬ (j < ((n + 1 : Nat) : Int) ∧ m.1 j = v) := fun z => by
          by_cases d : j = n
          · subst d; exact c (by rw [e.1]; exact z.2)
          · exact g ⟨by omega, z.2⟩
        rw [if_neg g, if_neg g, if_neg g2, if_neg g2]; exact ⟨rfl, rfl⟩
theorem scr_hide {m : MO} {fl v : Int} {V V' F : Int → Int} (h : scrR m fl V F) (hv : ∀ k : Int, 0 ≤ k → k < 3 → V' k = if V k = v then -11 else V k) : scrR (hideM m v) fl V' F := by
  refine ⟨h.1, h.2.1, fun k h0 h1 => ?_⟩
  obtain ⟨a, b⟩ := h.2.2 k h0 h1
  obtain ⟨c, d⟩ := hideF_at v m.2.2 3 k h0
  show (hideF v 3 m.2.2).1 k = V' k ∧ (hideF v 3 m.2.2).2 k = _
  rw [c, d, hv k h0 h1, a]
  by_cases e : V k = v
  · have E : k < ((3 : Nat) : Int) ∧ V k = v := ⟨by omega, e⟩
    rw [if_pos e, if_pos E, if_pos E]; exact ⟨rfl, (if_pos rfl).symm⟩
  · have E : ¬ (k < ((3 : Nat) : Int) ∧ V k = v) := fun z => e z.2
    rw [if_neg e, if_neg E, if_neg E]; exact ⟨rfl, b⟩
theorem scr_put {m : MO} {fl v p f : Int} {V V' F : Int → Int} (h : scrR m fl V F) (hv : ∀ k : Int, 0 ≤ k → k < 3 → V' k = if V k = v then -11 else V k) (p0 : 0 ≤ p) (p1 : p < 3) (v0 : v ≠ -11) : scrR (putM m p v f) fl (fset V' p v) (fset F p f) := by
  have g := scr_hide h hv
  rw [show putM m p v f = _ from if_pos ⟨p0, p1⟩]
  refine ⟨g.1, g.2.1, fun k h0 h1 => ?_⟩
  obtain ⟨a, b⟩ := g.2.2 k h0 h1
  show fset _ p v k = _ ∧ fset _ p f k = _
  by_cases e : k = p
  · rw [fs_at e, fs_at e, fs_at e, fs_at e, if_neg v0]; exact ⟨rfl, rfl⟩
  · rw [fs_off e, fs_off e, fs_off e, fs_off e]; exact ⟨a, b⟩
theorem cSN_in {S : SC} {v : Int} {B : Int → Int} (hB : rScr B S) (h0 : 0 ≤ v) (h1 : v < S.1) (hk : cKind S v ≠ 0) : B (12 * v + 1) = cSN S v := by
  have hB1 := hB.1
  have g := hB.2 v h0 h1
  refine g.n0.trans ?_
  have e : cSN S v = _ := (if_neg (by omega)).trans (if_pos (by omega))
  rw [e, if_neg hk]
set_option maxRecDepth 100000 in
set_option maxHeartbeats 4000000 in
theorem s6_of {d : Nat} {h : AH} {R : RP} {v w : Int} {q : Nat} {rd fi co ah se tl ps fa fl ch : Int} {hx : Int64} {S : SC} {B : Int → Int} (c0 : h.2 q = some (mobj q S.1 rd fi co ah se tl ps fa fl ch hx)) (c1 : h.2 (q + 1) = some (kA 0 348 B)) (hB : rScr B S) (h0 : 0 ≤ v) (h1 : v ≤ 28) (w0 : 0 ≤ w) (w1 : w ≤ 11) (k : R (some (vI (B (12 * v + w)))) h) : AM m6_of (d) h [vR q, vI v, vI w] R := by
  refine AM.of (L := [some (vR q), some (vI v), some (vI w)]) ok_6_of (by decide) (fun G => Nat.le_of_ble_eq_true rfl) rfl ?_
  refine A.al3_0 d6_of_0 ?_
  refine A.getf d6_of_1 ?_ (hc := c0)
  refine A.bipush d6_of_4 ?_
  refine A.il3_1 d6_of_6 ?_
  refine A.imul d6_of_7 ?_
  refine A.il3_2 d6_of_8 ?_
  refine A.iadd d6_of_9 ?_
  refine A.iald d6_of_10 ?_ (hc := c1)
  refine A.iret d6_of_11 ?_
  exact k
set_option maxRecDepth 100000 in
set_option maxHeartbeats 4000000 in
theorem s6_shownKind {d : Nat} {h : AH} {R : RP} {v : Int} {q : Nat} {rd fi co ah se tl ps fa fl ch : Int} {hx : Int64} {S : SC} {B : Int → Int} (c0 : h.2 q = some (mobj q S.1 rd fi co ah se tl ps fa fl ch hx)) (c1 : h.2 (q + 1) = some (kA 0 348 B)) (hB : rScr B S) (h0 : 0 ≤ v) (k : R (some (vI (rSK S v))) h) : AM m6_shownKind (d + 1) h [vR q, vI v] R := by
  refine AM.of (L := [some (vR q), some (vI v), none]) ok_6_shownKind (by decide) (fun G => Nat.le_of_ble_eq_true rfl) rfl ?_
  have hB1 := hB.1
  refine A.il3_1 d6_shownKind_0 ?_
  refine A.al3_0 d6_shownKind_1 ?_
  refine A.getf d6_shownKind_2 ?_ (hc := c0)
  refine A.ic_lt d6_shownKind_5 (fun c5 => ?_) (fun c5 => ?_)
  · have g := hB.2 v h0 (by omega)
    have g0 : B (12 * v + 0) = cKind S v := by rw [Int.add_zero]; exact g.kd
    have gr := g.kr
    refine A.al3_0 d6_shownKind_10 ?_
    refine A.il3_1 d6_shownKind_11 ?_
    refine A.iconst d6_shownKind_12 ?_
    refine A.v2 d6_shownKind_13 (s6_of c0 c1 hB (by omega) (by omega) (by omega) (by omega) (kS ?_)) (hc := c0)
    refine A.is3_2 d6_shownKind_16 ?_
    refine A.il3_2 d6_shownKind_17 ?_
    refine A.if_ne d6_shownKind_18 (fun c18 => ?_) (fun c18 => ?_)
    · refine A.il3_2 d6_shownKind_25 ?_
      refine A.bipush d6_shownKind_26 ?_
      refine A.ic_ne d6_shownKind_28 (fun c28 => ?_) (fun c28 => ?_)
      · refine A.il3_2 d6_shownKind_35 ?_
        refine A.bipush d6_shownKind_36 ?_
        refine A.ic_ne d6_shownKind_38 (fun c38 => ?_) (fun c38 => ?_)
        · refine A.bipush d6_shownKind_45 ?_
          refine A.iret d6_shownKind_47 ?_
          first | exact rI k (by rw [rSK_in (by omega), ← g0]; (repeat' split) <;> omega)
        · refine A.iconst d6_shownKind_41 ?_
          refine A.goto d6_shownKind_42 ?_
          refine A.iret d6_shownKind_47 ?_
          first | exact rI k (by rw [rSK_in (by omega), ← g0]; (repeat' split) <;> omega)
      · refine A.iconst d6_shownKind_31 ?_
        refine A.goto d6_shownKind_32 ?_
        refine A.iret d6_shownKind_47 ?_
        first | exact rI k (by rw [rSK_in (by omega), ← g0]; (repeat' split) <;> omega)
    · refine A.iconst d6_shownKind_21 ?_
      refine A.goto d6_shownKind_22 ?_
      refine A.iret d6_shownKind_47 ?_
      first | exact rI k (by rw [rSK_in (by omega), ← g0]; (repeat' split) <;> omega)
  · refine A.iconst d6_shownKind_8 ?_
    refine A.iret d6_shownKind_9 ?_
    exact rI k (rSK_out (by omega)).symm
set_option maxRecDepth 100000 in
set_option maxHeartbeats 4000000 in
theorem s6_endOf {d : Nat} {h : AH} {R : RP} {v : Int} {q : Nat} {rd fi co ah se tl ps fa fl ch : Int} {hx : Int64} {S : SC} {B : Int → Int} (c0 : h.2 q = some (mobj q S.1 rd fi co ah se tl ps fa fl ch hx)) (c1 : h.2 (q + 1) = some (kA 0 348 B)) (hB : rScr B S) (h0 : 0 ≤ v) (hk : cKind S v ≠ 0) (k : R (some (vI (cSN S v))) h) : AM m6_endOf (d + 1) h [vR q, vI v] R := by
  refine AM.of (L := [some (vR q), some (vI v)]) ok_6_endOf (by decide) (fun G => Nat.le_of_ble_eq_true rfl) rfl ?_
  have hB1 := hB.1
  refine A.il2_1 d6_endOf_0 ?_
  refine A.bipush d6_endOf_1 ?_
  refine A.ic_ne d6_endOf_3 (fun c3 => ?_) (fun c3 => ?_)
  · refine A.il2_1 d6_endOf_11 ?_
    refine A.al2_0 d6_endOf_12 ?_
    refine A.getf d6_endOf_13 ?_ (hc := c0)
    refine A.ic_lt d6_endOf_16 (fun c16 => ?_) (fun c16 => ?_)
    · refine A.al2_0 d6_endOf_24 ?_
      refine A.il2_1 d6_endOf_25 ?_
      refine A.iconst d6_endOf_26 ?_
      refine A.v2 d6_endOf_27 (s6_of c0 c1 hB (by omega) (by omega) (by omega) (by omega) (kS ?_)) (hc := c0)
      refine A.iret d6_endOf_30 ?_
      first | exact rI k (if_pos (by omega) : cSN S v = _).symm | exact rI k ((if_neg (by omega)).trans (if_neg (by omega)) : cSN S v = _).symm | exact rI k (cSN_in hB h0 (by omega) hk)
    · refine A.bipush d6_endOf_19 ?_
      refine A.goto d6_endOf_21 ?_
      refine A.iret d6_endOf_30 ?_
      first | exact rI k (if_pos (by omega) : cSN S v = _).symm | exact rI k ((if_neg (by omega)).trans (if_neg (by omega)) : cSN S v = _).symm | exact rI k (cSN_in hB h0 (by omega) hk)
  · refine A.bipush d6_endOf_6 ?_
    refine A.goto d6_endOf_8 ?_
    refine A.iret d6_endOf_30 ?_
    first | exact rI k (if_pos (by omega) : cSN S v = _).symm | exact rI k ((if_neg (by omega)).trans (if_neg (by omega)) : cSN S v = _).symm | exact rI k (cSN_in hB h0 (by omega) hk)
set_option maxRecDepth 100000 in
set_option maxHeartbeats 4000000 in
theorem s6_leaves {d : Nat} {h : AH} {R : RP} {v : Int} {V : Int → Int} {q : Nat} {rd fi co ah se tl ps fa fl ch : Int} {hx : Int64} {S : SC} {B : Int → Int} (c0 : h.2 q = some (mobj q S.1 rd fi co ah se tl ps fa fl ch hx))(c7 : h.2 (q + 7) = some (kA 0 3 V)) (k : ∀ h' V', h'.2 (q + 7) = some (kA 0 3 V') → (∀ k : Int, 0 ≤ k → k < 3 → V' k = if V k = v then -11 else V k) → Fr h h' (q + 7) 1 → R none h') : AM m6_leaves (d) h [vR q, vI v] R := by
  refine AM.of (L := [some (vR q), some (vI v), none]) ok_6_leaves (by decide) (fun G => Nat.le_of_ble_eq_true rfl) rfl ?_
  have loop : ∀ (nf : Nat) (i : Nat) (V1 : Int → Int) (h1 : AH) (hi : i ≤ 3) (c0 : h1.2 q = some (mobj q S.1 rd fi co ah se tl ps fa fl ch hx)) (c7 : h1.2 (q + 7) = some (kA 0 3 V1)) (hF : Fr h h1 (q + 7) 1) (ha : ∀ k : Int, 0 ≤ k → k < i → V1 k = if V k = v then -11 else V k) (hb : ∀ k : Int, i ≤ k → V1 k = V k) (hn : 3 - i < nf), AW m6_leaves (d) (mC m6_leaves, mS m6_leaves) 2 [some (vR q), some (vI v), some (vI i)] [] h1 R := by
    intro nf
    induction nf with
    | zero => intro i  V1  h1  hi c0 c7 hF ha hb hn; omega
    | succ nf ih =>
      intro i  V1  h1  hi c0 c7 hF ha hb hn
      refine A.il3_2 d6_leaves_2 ?_
      refine A.iconst d6_leaves_3 ?_
      refine A.ic_ge d6_leaves_4 (fun c4 => ?_) (fun c4 => ?_)
      · refine A.vret d6_leaves_40 ?_
        exact k _ _ c7 (fun j h0 h1 => ha j h0 (by omega)) hF
      · refine A.al3_0 d6_leaves_7 ?_
        refine A.getf d6_leaves_8 ?_ (hc := c0)
        refine A.il3_2 d6_leaves_11 ?_
        refine A.al3_0 d6_leaves_12 ?_
        refine A.getf d6_leaves_13 ?_ (hc := c0)
        refine A.il3_2 d6_leaves_16 ?_
        refine A.iald d6_leaves_17 ?_ (hc := c7)
        refine A.il3_1 d6_leaves_18 ?_
        refine A.ic_ne d6_leaves_19 (fun c19 => ?_) (fun c19 => ?_)
        · refine A.al3_0 d6_leaves_27 ?_
          refine A.getf d6_leaves_28 ?_ (hc := c0)
          refine A.il3_2 d6_leaves_31 ?_
          refine A.iald d6_leaves_32 ?_ (hc := c7)
          refine A.iast d6_leaves_33 (fun h33 e33 f33 => ?_) (hc := c7)
          first | (have c0 := (f33.2 _ (by omega)).trans c0) | (have c0 := e33)
          first | (have c7 := (f33.2 _ (by omega)).trans c7) | (have c7 := e33)
          refine A.ii3_2 d6_leaves_34 ?_
          refine A.goto d6_leaves_37 ?_
          refine ih (i + 1) _ _ (by omega) c0 c7 (hF.then f33 (by omega) (by omega)) (fun j h0 h1 => ?_) (fun j h0 => (fs_off (by omega)).trans (hb j (by omega))) (by omega)
          by_cases e : j = i
          · subst e
            have hbi := hb i (by omega)
            first | exact (fs_at rfl).trans (if_pos (by omega)).symm | exact (fs_at rfl).trans (hbi.trans (if_neg (by omega)).symm)
          · exact (fs_off e).trans (ha j h0 (by omega))
        · refine A.bipush d6_leaves_22 ?_
          refine A.goto d6_leaves_24 ?_
          refine A.iast d6_leaves_33 (fun h33 e33 f33 => ?_) (hc := c7)
          first | (have c0 := (f33.2 _ (by omega)).trans c0) | (have c0 := e33)
          first | (have c7 := (f33.2 _ (by omega)).trans c7) | (have c7 := e33)
          refine A.ii3_2 d6_leaves_34 ?_
          refine A.goto d6_leaves_37 ?_
          refine ih (i + 1) _ _ (by omega) c0 c7 (hF.then f33 (by omega) (by omega)) (fun j h0 h1 => ?_) (fun j h0 => (fs_off (by omega)).trans (hb j (by omega))) (by omega)
          by_cases e : j = i
          · subst e
            have hbi := hb i (by omega)
            first | exact (fs_at rfl).trans (if_pos (by omega)).symm | exact (fs_at rfl).trans (hbi.trans (if_neg (by omega)).symm)
          · exact (fs_off e).trans (ha j h0 (by omega))
  refine A.iconst d6_leaves_0 ?_
  refine A.is3_2 d6_leaves_1 ?_
  exact loop 4 0 V h (by omega) c0 c7 Fr.rfl (fun j h0 h1 => by omega) (fun j _ => rfl) (by omega)
