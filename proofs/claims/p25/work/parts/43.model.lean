/-! ===== the reference: nodes, what they do ===== -/
noncomputable def rSK (S : SC) (v : Int) : Int := pif (cShown S v) (cSK S v) (-11)
theorem cK_out {S : SC} {v : Int} (h : S.1 ≤ v) : cKind S v = -1 := if_neg (by omega)
theorem rSK_out {S : SC} {v : Int} (h : S.1 ≤ v) : rSK S v = 2 := by
  have e := cK_out h
  unfold rSK cSK cShown
  rw [pif_t (Or.inl e), e]; rfl
theorem rSK_in {S : SC} {v : Int} (h : 0 ≤ cKind S v) : rSK S v = if cKind S v = 0 then 0 else if cKind S v = 6 then 1 else if cKind S v = 7 then 2 else -11 := by
  unfold rSK cSK cShown
  by_cases a : cKind S v = 0
  · rw [pif_t (by omega), if_pos a, if_pos a]
  · by_cases b : cKind S v = 6
    · rw [pif_t (by omega), if_neg a, if_neg a, if_pos b, if_pos b]
    · by_cases c : cKind S v = 7
      · rw [pif_t (by omega), if_neg a, if_neg a, if_neg b, if_neg b, if_pos c]
      · rw [pif_f (by omega), if_neg a, if_neg b, if_neg c]
theorem fl_or : ∀ (f : Fin 64) (a : Fin 6), 0 ≤ bOr (f.val : Int) (bShl 1 (a.val : Int)) ∧ bOr (f.val : Int) (bShl 1 (a.val : Int)) ≤ 63 := by decide +kernel
theorem fl_and : ∀ (f : Fin 64) (a : Fin 6), 0 ≤ bAnd (f.val : Int) (bXor (bShl 1 (a.val : Int)) (-1)) ∧ bAnd (f.val : Int) (bXor (bShl 1 (a.val : Int)) (-1)) ≤ 63 := by decide +kernel
theorem flOr {f a : Int} (h0 : 0 ≤ f) (h1 : f ≤ 63) (a0 : 0 ≤ a) (a1 : a ≤ 5) : 0 ≤ bOr f (bShl 1 a) ∧ bOr f (bShl 1 a) ≤ 63 := by
  have := fl_or ⟨f.toNat, by omega⟩ ⟨a.toNat, by omega⟩
  rwa [show ((f.toNat : Nat) : Int) = f by omega, show ((a.toNat : Nat) : Int) = a by omega] at this
theorem flAnd {f a : Int} (h0 : 0 ≤ f) (h1 : f ≤ 63) (a0 : 0 ≤ a) (a1 : a ≤ 5) : 0 ≤ bAnd f (bXor (bShl 1 a) (-1)) ∧ bAnd f (bXor (bShl 1 a) (-1)) ≤ 63 := by
  have := fl_and ⟨f.toNat, by omega⟩ ⟨a.toNat, by omega⟩
  rwa [show ((f.toNat : Nat) : Int) = f by omega, show ((a.toNat : Nat) : Int) = a by omega] at this
/-- the reference's scratch holds a moment: flags, voices, faces (a face where no voice stands is of no use) -/
def scrR (m : MO) (fl : Int) (V F : Int → Int) : Prop := m.2.1 = fl ∧ (0 ≤ fl ∧ fl ≤ 63) ∧ ∀ k : Int, 0 ≤ k → k < 3 → m.2.2.1 k = V k ∧ m.2.2.2 k = if V k = -11 then -11 else F k
theorem hideF_at (v : Int) (m : (Int → Int) × (Int → Int)) : ∀ (n : Nat) (j : Int), 0 ≤ j → (hideF v n m).1 j = (if j < n ∧ m.1 j = v then -11 else m.1 j) ∧ (hideF v n m).2 j = (if j < n ∧ m.1 j = v then -11 else m.2 j) := by
  intro n
  induction n with
  | zero => intro j h0; rw [if_neg (by omega), if_neg (by omega)]; exact ⟨rfl, rfl⟩
  | succ n ih =>
    intro j h0
    have e := ih n (by omega)
    rw [if_neg (by omega), if_neg (by omega)] at e
    by_cases c : (hideF v n m).1 n = v
    · rw [show hideF v (n + 1) m = _ from if_pos c]
      by_cases d : j = n
      · subst d
        have E : (n : Int) < ((n + 1 : Nat) : Int) ∧ m.1 n = v := ⟨by omega, by rw [← e.1]; exact c⟩
        exact ⟨(fs_at rfl).trans (if_pos E).symm, (fs_at rfl).trans (if_pos E).symm⟩
      · show fset _ _ _ _ = _ ∧ fset _ _ _ _ = _
        rw [fs_off d, fs_off d, (ih j h0).1, (ih j h0).2]
        by_cases g : j < n ∧ m.1 j = v
        · rw [if_pos g, if_pos g, if_pos ⟨by omega, g.2⟩, if_pos ⟨by omega, g.2⟩]; exact ⟨rfl, rfl⟩
        · have g2 : ¬ (j < ((n + 1 : Nat) : Int) ∧ m.1 j = v) := fun z => g ⟨by omega, z.2⟩
          rw [if_neg g, if_neg g, if_neg g2, if_neg g2]; exact ⟨rfl, rfl⟩
    · rw [show hideF v (n + 1) m = _ from if_neg c, (ih j h0).1, (ih j h0).2]
      by_cases g : j < n ∧ m.1 j = v
      · rw [if_pos g, if_pos g, if_pos ⟨by omega, g.2⟩, if_pos ⟨by omega, g.2⟩]; exact ⟨rfl, rfl⟩
      · have g2 : ¬ (j < ((n + 1 : Nat) : Int) ∧ m.1 j = v) := fun z => by
          by_cases d : j = n
          · subst d; exact c (by rw [e.1]; exact z.2)
          · exact g ⟨by omega, z.2⟩
        rw [if_neg g, if_neg g, if_neg g2, if_neg g2]; exact ⟨rfl, rfl⟩
theorem scr_hide {m : MO} {fl v : Int} {V V' F : Int → Int} (h : scrR m fl V F) (hv : ∀ k : Int, 0 ≤ k → k < 3 → V' k = if V k = v then -11 else V k) : scrR (hideM m v) fl V' F := by
  refine ⟨h.1, h.2.1, fun k h0 h1 => ?_⟩
  obtain ⟨a, b⟩ := h.2.2 k h0 h1
  obtain ⟨c, d⟩ := hideF_at v m.2.2 3 k h0
  show (hideF v 3 m.2.2).1 k = V' k ∧ (hideF v 3 m.2.2).2 k = _
  rw [c, d, hv k h0 h1, a]
  by_cases e : V k = v
  · have E : k < ((3 : Nat) : Int) ∧ V k = v := ⟨by omega, e⟩
    rw [if_pos e, if_pos E, if_pos E]; exact ⟨rfl, (if_pos rfl).symm⟩
  · have E : ¬ (k < ((3 : Nat) : Int) ∧ V k = v) := fun z => e z.2
    rw [if_neg e, if_neg E, if_neg E]; exact ⟨rfl, b⟩
theorem scr_put {m : MO} {fl v p f : Int} {V V' F : Int → Int} (h : scrR m fl V F) (hv : ∀ k : Int, 0 ≤ k → k < 3 → V' k = if V k = v then -11 else V k) (p0 : 0 ≤ p) (p1 : p < 3) (v0 : v ≠ -11) : scrR (putM m p v f) fl (fset V' p v) (fset F p f) := by
  have g := scr_hide h hv
  rw [show putM m p v f = _ from if_pos ⟨p0, p1⟩]
  refine ⟨g.1, g.2.1, fun k h0 h1 => ?_⟩
  obtain ⟨a, b⟩ := g.2.2 k h0 h1
  show fset _ p v k = _ ∧ fset _ p f k = _
  by_cases e : k = p
  · rw [fs_at e, fs_at e, fs_at e, fs_at e, if_neg v0]; exact ⟨rfl, rfl⟩
  · rw [fs_off e, fs_off e, fs_off e, fs_off e]; exact ⟨a, b⟩
theorem cSN_in {S : SC} {v : Int} {B : Int → Int} (hB : rScr B S) (h0 : 0 ≤ v) (h1 : v < S.1) (hk : cKind S v ≠ 0) : B (12 * v + 1) = cSN S v := by
  have hB1 := hB.1
  have g := hB.2 v h0 h1
  refine g.n0.trans ?_
  have e : cSN S v = _ := (if_neg (by omega)).trans (if_pos (by omega))
  rw [e, if_neg hk]
