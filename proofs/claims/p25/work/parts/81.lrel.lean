/-! ===== the law's numbers against the class's: a node's row, a moment's row ===== -/
/-- a place, packed: 0 where nobody stands -/
def en (V F : FN) (k : Int) : Int := if V k = -11 then 0 else 8 * (V k + 1) + F k
def mpk (m : MO) : Int := en m.2.2.1 m.2.2.2 0 + 64 * en m.2.2.1 m.2.2.2 1 + 4096 * en m.2.2.1 m.2.2.2 2
/-- a place's voice and face are in their ranges -/
def plOk (V F : FN) (k : Int) : Prop := (V k = -11 ∧ F k = -11) ∨ ((0 ≤ V k ∧ V k ≤ 5) ∧ 0 ≤ F k ∧ F k ≤ 4)
def moQ (m : MO) : Prop := (0 ≤ m.2.1 ∧ m.2.1 ≤ 63) ∧ plOk m.2.2.1 m.2.2.2 0 ∧ plOk m.2.2.1 m.2.2.2 1 ∧ plOk m.2.2.1 m.2.2.2 2
theorem en_rng {V F : FN} {k : Int} (h : plOk V F k) : 0 ≤ en V F k ∧ en V F k ≤ 52 := by
  unfold en
  rcases h with ⟨a, b⟩ | ⟨a, b⟩
  · rw [if_pos a]; omega
  · rw [if_neg (by omega)]; omega
theorem mpk_rng {m : MO} (h : moQ m) : 0 ≤ mpk m ∧ mpk m ≤ 262143 := by
  have a := en_rng h.2.1
  have b := en_rng h.2.2.1
  have c := en_rng h.2.2.2
  unfold mpk
  omega
theorem en_v {V F : FN} {k v : Int} (h : plOk V F k) (v0 : 0 ≤ v) : en V F k / 8 = v + 1 ↔ V k = v := by
  unfold en
  rcases h with ⟨a, b⟩ | ⟨a, b⟩
  · rw [if_pos a]; omega
  · rw [if_neg (by omega)]; omega
theorem fin3 {k : Int} (h0 : 0 ≤ k) (h1 : k < 3) : k = 0 ∨ k = 1 ∨ k = 2 := by omega
theorem moQ.at {m : MO} (h : moQ m) {k : Int} (h0 : 0 ≤ k) (h1 : k < 3) : plOk m.2.2.1 m.2.2.2 k := by
  rcases fin3 h0 h1 with rfl | rfl | rfl
  · exact h.2.1
  · exact h.2.2.1
  · exact h.2.2.2
/-- a place read out of the packed number -/
theorem mpk_get {m : MO} (h : moQ m) {k : Int} (h0 : 0 ≤ k) (h1 : k < 3) : bAnd (bShr (mpk m) (6 * k)) 63 = en m.2.2.1 m.2.2.2 k := by
  have r := mpk_rng h
  have a := en_rng h.2.1
  have b := en_rng h.2.2.1
  have c := en_rng h.2.2.2
  have e : mpk m = en m.2.2.1 m.2.2.2 0 + 64 * en m.2.2.1 m.2.2.2 1 + 4096 * en m.2.2.1 m.2.2.2 2 := rfl
  generalize mpk m = x at *
  rcases fin3 h0 h1 with rfl | rfl | rfl
  · rw [show (6 : Int) * 0 = ((0 : Nat) : Int) by rfl, getSh (w := 6) (by decide) (by omega) (by omega) (by decide) (by decide)]; omega
  · rw [show (6 : Int) * 1 = ((6 : Nat) : Int) by rfl, getSh (w := 6) (by decide) (by omega) (by omega) (by decide) (by decide)]; omega
  · rw [show (6 : Int) * 2 = ((12 : Nat) : Int) by rfl, getSh (w := 6) (by decide) (by omega) (by omega) (by decide) (by decide)]; omega
/-- a packed number whose place k is taken out -/
theorem mpk_clr {m : MO} (h : moQ m) {k : Int} (h0 : 0 ≤ k) (h1 : k < 3) : bAnd (mpk m) (bXor (bShl 63 (6 * k)) (-1)) = mpk (m.1, m.2.1, fset m.2.2.1 k (-11), fset m.2.2.2 k (-11)) := by
  have r := mpk_rng h
  have a := en_rng h.2.1
  have b := en_rng h.2.2.1
  have c := en_rng h.2.2.2
  have e : mpk m = en m.2.2.1 m.2.2.2 0 + 64 * en m.2.2.1 m.2.2.2 1 + 4096 * en m.2.2.1 m.2.2.2 2 := rfl
  have q : ∀ j : Int, en (fset m.2.2.1 k (-11)) (fset m.2.2.2 k (-11)) j = if j = k then 0 else en m.2.2.1 m.2.2.2 j := fun j => by
    unfold en
    by_cases z : j = k
    · rw [fs_at z, if_pos rfl, if_pos z]
    · rw [fs_off z, fs_off z, if_neg z]
  rw [show mpk (m.1, m.2.1, fset m.2.2.1 k (-11), fset m.2.2.2 k (-11)) = en (fset m.2.2.1 k (-11)) (fset m.2.2.2 k (-11)) 0 + 64 * en (fset m.2.2.1 k (-11)) (fset m.2.2.2 k (-11)) 1 + 4096 * en (fset m.2.2.1 k (-11)) (fset m.2.2.2 k (-11)) 2 from rfl, q, q, q]
  generalize mpk m = x at *
  rcases fin3 h0 h1 with rfl | rfl | rfl
  · rw [show (6 : Int) * 0 = ((0 : Nat) : Int) by rfl, clrSh (w := 6) (by decide) (by omega) (by omega) (by decide) (by decide), if_pos rfl, if_neg (by decide), if_neg (by decide)]; omega
  · rw [show (6 : Int) * 1 = ((6 : Nat) : Int) by rfl, clrSh (w := 6) (by decide) (by omega) (by omega) (by decide) (by decide), if_neg (by decide), if_pos rfl, if_neg (by decide)]; omega
  · rw [show (6 : Int) * 2 = ((12 : Nat) : Int) by rfl, clrSh (w := 6) (by decide) (by omega) (by omega) (by decide) (by decide), if_neg (by decide), if_neg (by decide), if_pos rfl]; omega
/-- a place put where nobody stands -/
theorem mpk_set {m : MO} (h : moQ m) {k v f : Int} (h0 : 0 ≤ k) (h1 : k < 3) (hk : m.2.2.1 k = -11) (v0 : 0 ≤ v) (v1 : v ≤ 5) (f0 : 0 ≤ f) (f1 : f ≤ 4) : bOr (mpk m) (bShl (8 * (v + 1) + f) (6 * k)) = mpk (m.1, m.2.1, fset m.2.2.1 k v, fset m.2.2.2 k f) := by
  have r := mpk_rng h
  have a := en_rng h.2.1
  have b := en_rng h.2.2.1
  have c := en_rng h.2.2.2
  have e : mpk m = en m.2.2.1 m.2.2.2 0 + 64 * en m.2.2.1 m.2.2.2 1 + 4096 * en m.2.2.1 m.2.2.2 2 := rfl
  have z0 : en m.2.2.1 m.2.2.2 k = 0 := if_pos hk
  have q : ∀ j : Int, en (fset m.2.2.1 k v) (fset m.2.2.2 k f) j = if j = k then 8 * (v + 1) + f else en m.2.2.1 m.2.2.2 j := fun j => by
    by_cases z : j = k
    · unfold en; rw [fs_at z, fs_at z, if_neg (by omega), if_pos z]
    · unfold en; rw [fs_off z, fs_off z, if_neg z]
  rw [show mpk (m.1, m.2.1, fset m.2.2.1 k v, fset m.2.2.2 k f) = en (fset m.2.2.1 k v) (fset m.2.2.2 k f) 0 + 64 * en (fset m.2.2.1 k v) (fset m.2.2.2 k f) 1 + 4096 * en (fset m.2.2.1 k v) (fset m.2.2.2 k f) 2 from rfl, q, q, q]
  generalize mpk m = x at *
  generalize hw : 8 * (v + 1) + f = w
  have w0 : 0 ≤ w := by omega
  have w1 : w ≤ 52 := by omega
  rcases fin3 h0 h1 with rfl | rfl | rfl
  · rw [show (6 : Int) * 0 = ((0 : Nat) : Int) by rfl, orSh (w := 6) (by omega) w0 (by omega) (by omega) (by decide) (by omega), if_pos rfl, if_neg (by decide), if_neg (by decide)]; omega
  · rw [show (6 : Int) * 1 = ((6 : Nat) : Int) by rfl, orSh (w := 6) (by omega) w0 (by omega) (by omega) (by decide) (by omega), if_neg (by decide), if_pos rfl, if_neg (by decide)]; omega
  · rw [show (6 : Int) * 2 = ((12 : Nat) : Int) by rfl, orSh (w := 6) (by omega) w0 (by omega) (by omega) (by decide) (by omega), if_neg (by decide), if_neg (by decide), if_pos rfl]; omega
/-- hidden up to place i -/
def hidM (m : MO) (v : Int) (i : Nat) : MO := (m.1, m.2.1, hideF v i m.2.2)
theorem hidM_3 (m : MO) (v : Int) : hidM m v 3 = hideM m v := rfl
theorem hidM_q {m : MO} (h : moQ m) (v : Int) (i : Nat) : moQ (hidM m v i) := by
  have g : ∀ k : Int, 0 ≤ k → k < 3 → plOk (hideF v i m.2.2).1 (hideF v i m.2.2).2 k := fun k h0 h1 => by
    obtain ⟨a, b⟩ := hideF_at v m.2.2 i k h0
    unfold plOk
    rw [a, b]
    by_cases c : k < (i : Int) ∧ m.2.2.1 k = v
    · rw [if_pos c, if_pos c]; exact Or.inl ⟨rfl, rfl⟩
    · rw [if_neg c, if_neg c]; exact h.at h0 h1
  exact ⟨h.1, g 0 (by decide) (by decide), g 1 (by decide) (by decide), g 2 (by decide) (by decide)⟩
theorem hidM_s {m : MO} {v : Int} {i : Nat} : hidM m v (i + 1) = if (hidM m v i).2.2.1 i = v then ((hidM m v i).1, (hidM m v i).2.1, fset (hidM m v i).2.2.1 i (-11), fset (hidM m v i).2.2.2 i (-11)) else hidM m v i := by
  by_cases c : (hidM m v i).2.2.1 i = v
  · rw [if_pos c]
    show (m.1, m.2.1, hideF v (i + 1) m.2.2) = _
    rw [show hideF v (i + 1) m.2.2 = _ from if_pos c]
    rfl
  · rw [if_neg c]
    show (m.1, m.2.1, hideF v (i + 1) m.2.2) = _
    rw [show hideF v (i + 1) m.2.2 = _ from if_neg c]
    rfl
theorem put_none {m : MO} (v : Int) {k : Int} (h0 : 0 ≤ k) (h1 : k < 3) : (hideM m v).2.2.1 k = v → v = -11 := fun e => by
  obtain ⟨a, b⟩ := hideF_at v m.2.2 3 k h0
  have a' : (hideM m v).2.2.1 k = if k < ((3 : Nat) : Int) ∧ m.2.2.1 k = v then -11 else m.2.2.1 k := a
  rw [a'] at e
  by_cases c : k < ((3 : Nat) : Int) ∧ m.2.2.1 k = v
  · rw [if_pos c] at e; omega
  · rw [if_neg c] at e; exact absurd ⟨h1, e⟩ c
/-- the law's putting of a portrait -/
theorem mpk_put {m : MO} (h : moQ m) {p v f : Int} (p0 : 0 ≤ p) (p1 : p < 3) (v0 : 0 ≤ v) (v1 : v ≤ 5) (f0 : 0 ≤ f) (f1 : f ≤ 4) : bOr (bAnd (mpk (hideM m v)) (bXor (bShl 63 (6 * p)) (-1))) (bShl (8 * (v + 1) + f) (6 * p)) = mpk (putM m p v f) ∧ moQ (putM m p v f) := by
  have q := hidM_q h v 3
  rw [hidM_3] at q
  rw [mpk_clr q p0 p1]
  have q2 : moQ ((hideM m v).1, (hideM m v).2.1, fset (hideM m v).2.2.1 p (-11), fset (hideM m v).2.2.2 p (-11)) := by
    have g : ∀ k : Int, 0 ≤ k → k < 3 → plOk (fset (hideM m v).2.2.1 p (-11)) (fset (hideM m v).2.2.2 p (-11)) k := fun k h0 h1 => by
      unfold plOk
      by_cases c : k = p
      · rw [fs_at c, fs_at c]; exact Or.inl ⟨rfl, rfl⟩
      · rw [fs_off c, fs_off c]; exact q.at h0 h1
    exact ⟨q.1, g 0 (by decide) (by decide), g 1 (by decide) (by decide), g 2 (by decide) (by decide)⟩
  rw [mpk_set q2 p0 p1 (fs_at rfl) v0 v1 f0 f1]
  have e : putM m p v f = _ := if_pos ⟨p0, p1⟩
  have ff : ∀ (g : FN) (x y : Int), fset (fset g p x) p y = fset g p y := fun g x y => by
    funext j
    by_cases c : j = p
    · rw [fs_at c, fs_at c]
    · rw [fs_off c, fs_off c, fs_off c]
  rw [e]
  refine ⟨?_, ?_⟩
  · show mpk (_, _, fset (fset _ p _) p _, fset (fset _ p _) p _) = _
    rw [ff, ff]
    rfl
  · have g : ∀ k : Int, 0 ≤ k → k < 3 → plOk (fset (hideM m v).2.2.1 p v) (fset (hideM m v).2.2.2 p f) k := fun k h0 h1 => by
      unfold plOk
      by_cases c : k = p
      · rw [fs_at c, fs_at c]; exact Or.inr ⟨⟨v0, v1⟩, f0, f1⟩
      · rw [fs_off c, fs_off c]; exact q.at h0 h1
    exact ⟨h.1, g 0 (by decide) (by decide), g 1 (by decide) (by decide), g 2 (by decide) (by decide)⟩
/-- a moment's row -/
def mRow (f : FN) (p : Int) (m : MO) : Prop := f p = m.1 ∧ f (p + 1) = m.2.1 ∧ f (p + 2) = mpk m
theorem mRow.cp {f g : FN} {p r : Int} {m : MO} (h : mRow f p m) (e : ∀ x : Int, 0 ≤ x → x < 3 → g (r + x) = f (p + x)) : mRow g r m := by
  have e0 := e 0 (by decide) (by decide)
  rw [Int.add_zero, Int.add_zero] at e0
  exact ⟨e0.trans h.1, (e 1 (by decide) (by decide)).trans h.2.1, (e 2 (by decide) (by decide)).trans h.2.2⟩
/-- a node's row -/
def pNode (fp : FN) (S : SC) (v : Int) : Prop := fp (4 * v) = cKind S v ∧ (cKind S v ≠ 6 → fp (4 * v + 1) = cNum S v 0 ∧ fp (4 * v + 2) = cNum S v 1 ∧ fp (4 * v + 3) = cNum S v 2) ∧ (cKind S v = 6 → fp (4 * v + 1) = cOpts S v ∧ ∀ o : Int, 0 ≤ o → o < cOpts S v → bAnd (bShr (fp (4 * v + 2)) (5 * o)) 31 = cPart S v o 0 ∧ bAnd (bShr (fp (4 * v + 3)) (4 * o)) 15 = lkc (cPart S v o 1, cPart S v o 2))
def pRel (fp : FN) (S : SC) : Prop := fp 60 = S.1 ∧ S.1 ≤ 12 ∧ ∀ v : Int, 0 ≤ v → v < S.1 → pNode fp S v
noncomputable def lSK (S : SC) (v : Int) : Int := if S.1 ≤ v then 2 else if cKind S v = 0 then 0 else if cKind S v = 6 then 1 else if cKind S v = 7 then 2 else -1
theorem lSK_y {S : SC} {B : FN} {v : Int} (hB : rScr B S) (h0 : 0 ≤ v) (h : 0 ≤ lSK S v) : cShown S v ∧ lSK S v = cSK S v := by
  unfold lSK at h ⊢
  unfold cShown cSK
  by_cases c : S.1 ≤ v
  · rw [if_pos c, cK_out c]; exact ⟨Or.inl rfl, by decide⟩
  · rw [if_neg c] at h ⊢
    have g := (hB.2 v h0 (by omega)).kr
    (repeat' split at h) <;> (repeat' split) <;> omega
theorem lSK_n {S : SC} {B : FN} {v : Int} (hB : rScr B S) (h0 : 0 ≤ v) (h : lSK S v < 0) : ¬ cShown S v := by
  unfold lSK at h
  unfold cShown
  by_cases c : S.1 ≤ v
  · rw [if_pos c] at h; omega
  · rw [if_neg c] at h
    have g := (hB.2 v h0 (by omega)).kr
    (repeat' split at h) <;> omega
theorem lSK_s {S : SC} {B : FN} {v : Int} (hB : rScr B S) (h0 : 0 ≤ v) (h : cShown S v) : lSK S v = cSK S v := by
  refine (lSK_y hB h0 ?_).2
  by_cases c : lSK S v < 0
  · exact absurd h (lSK_n hB h0 c)
  · omega
