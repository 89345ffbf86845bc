/-! ===== pictures and frames ===== -/
theorem Fr.rfl {h : AH} {a n : Nat} : Fr h h a n := ⟨Eq.refl _, fun _ _ => Eq.refl _⟩
theorem Fr.wide {h h' : AH} {a b n k : Nat} (f : Fr h h' b k) (h1 : a ≤ b) (h2 : b + k ≤ a + n) : Fr h h' a n := ⟨f.1, fun q hq => f.2 q (by omega)⟩
theorem Fr.then {h h1 h2 : AH} {a b n k : Nat} (F : Fr h h1 a n) (f : Fr h1 h2 b k) (q1 : a ≤ b) (q2 : b + k ≤ a + n) : Fr h h2 a n := ⟨f.1.trans F.1, fun q hq => (f.2 q (by omega)).trans (F.2 q hq)⟩
theorem Fr.get {h h' : AH} {b n q : Nat} {c : AC} (f : Fr h h' b n) (hq : h.2 q = some c) (hd : ¬ (b ≤ q ∧ q < b + n)) : h'.2 q = some c := (f.2 q hd).trans hq
def Fr2 (h h' : AH) (a n b k : Nat) : Prop := h'.1 = h.1 ∧ ∀ q, ¬ (a ≤ q ∧ q < a + n) → ¬ (b ≤ q ∧ q < b + k) → h'.2 q = h.2 q
theorem Fr2.rfl {h : AH} {a n b k : Nat} : Fr2 h h a n b k := ⟨Eq.refl _, fun _ _ _ => Eq.refl _⟩
theorem Fr2.trans {h h1 h2 : AH} {a n b k : Nat} (f : Fr2 h h1 a n b k) (g : Fr2 h1 h2 a n b k) : Fr2 h h2 a n b k := ⟨g.1.trans f.1, fun q q1 q2 => (g.2 q q1 q2).trans (f.2 q q1 q2)⟩
theorem Fr.two1 {h h' : AH} {a n b k c m : Nat} (f : Fr h h' c m) (q1 : a ≤ c) (q2 : c + m ≤ a + n) : Fr2 h h' a n b k := ⟨f.1, fun q h1 _ => f.2 q (by omega)⟩
theorem Fr.two2 {h h' : AH} {a n b k c m : Nat} (f : Fr h h' c m) (q1 : b ≤ c) (q2 : c + m ≤ b + k) : Fr2 h h' a n b k := ⟨f.1, fun q _ h2 => f.2 q (by omega)⟩
theorem Fr2.one {h h' : AH} {a n b k c m : Nat} (f : Fr2 h h' a n b k) (q1 : c ≤ a) (q2 : a + n ≤ c + m) (q3 : c ≤ b) (q4 : b + k ≤ c + m) : Fr h h' c m := ⟨f.1, fun q hq => f.2 q (by omega) (by omega)⟩
theorem Fr2.get {h h' : AH} {a n b k q : Nat} {c : AC} (f : Fr2 h h' a n b k) (hq : h.2 q = some c) (h1 : ¬ (a ≤ q ∧ q < a + n)) (h2 : ¬ (b ≤ q ∧ q < b + k)) : h'.2 q = some c := (f.2 q h1 h2).trans hq
/-- a Script: nodes, kinds, numberCounts, numbers, optionCounts, optionParts -/
abbrev SC : Type := Int × (Int → Int) × (Int → Int) × (Int → Int) × (Int → Int) × (Int → Int)
def scAt (h : AH) (a : Nat) (S : SC) : Prop := h.2 a = some (kO 3 [vI S.1, vR (a + 1), vR (a + 2), vR (a + 3), vR (a + 4), vR (a + 5)]) ∧ h.2 (a + 1) = some (kA 0 29 S.2.1) ∧ h.2 (a + 2) = some (kA 0 29 S.2.2.1) ∧ h.2 (a + 3) = some (kA 0 87 S.2.2.2.1) ∧ h.2 (a + 4) = some (kA 0 29 S.2.2.2.2.1) ∧ h.2 (a + 5) = some (kA 0 348 S.2.2.2.2.2)
theorem scAt.fr {h h' : AH} {a b n : Nat} {S : SC} (s : scAt h a S) (f : Fr h h' b n) (hd : a + 6 ≤ b ∨ b + n ≤ a) : scAt h' a S := by
  obtain ⟨s0, s1, s2, s3, s4, s5⟩ := s
  exact ⟨f.get s0 (by omega), f.get s1 (by omega), f.get s2 (by omega), f.get s3 (by omega), f.get s4 (by omega), f.get s5 (by omega)⟩
theorem scAt.fr2 {h h' : AH} {a b n c k : Nat} {S : SC} (s : scAt h a S) (f : Fr2 h h' b n c k) (hd : a + 6 ≤ b ∨ b + n ≤ a) (hd2 : a + 6 ≤ c ∨ c + k ≤ a) : scAt h' a S := by
  obtain ⟨s0, s1, s2, s3, s4, s5⟩ := s
  exact ⟨f.get s0 (by omega) (by omega), f.get s1 (by omega) (by omega), f.get s2 (by omega) (by omega), f.get s3 (by omega) (by omega), f.get s4 (by omega) (by omega), f.get s5 (by omega) (by omega)⟩
/-- a Script's counts are in their bounds -/
def scI (S : SC) : Prop := 0 ≤ S.1 ∧ S.1 ≤ 29 ∧ ∀ v, 0 ≤ v → v < S.1 → (0 ≤ S.2.2.1 v ∧ S.2.2.1 v ≤ 3) ∧ (0 ≤ S.2.2.2.2.1 v ∧ S.2.2.2.2.1 v ≤ 4)
def cHas (S : SC) (v : Int) : Prop := 0 ≤ v ∧ v < S.1 ∧ v < 29
def cKind (S : SC) (v : Int) : Int := if 0 ≤ v ∧ v < S.1 ∧ v < 29 then S.2.1 v else -1
def cOpts (S : SC) (v : Int) : Int := if 0 ≤ v ∧ v < S.1 ∧ v < 29 then S.2.2.2.2.1 v else 0
def cNum (S : SC) (v i : Int) : Int := if 0 ≤ v ∧ v < S.1 ∧ v < 29 ∧ 0 ≤ i ∧ i < 3 then (if S.2.1 v = 6 then (if i = 0 then S.2.2.2.2.1 v else -11) else if i < S.2.2.1 v then S.2.2.2.1 (v * 3 + i) else -11) else -11
def cPart (S : SC) (v o w : Int) : Int := if (0 ≤ v ∧ v < S.1 ∧ v < 29) ∧ 0 ≤ o ∧ o < S.2.2.2.2.1 v ∧ o < 4 ∧ 0 ≤ w ∧ w < 3 then S.2.2.2.2.2 ((v * 4 + o) * 3 + w) else -11
/-- is a flag set -/
def fon (flags f : Int) : Prop := bAnd (bShr flags f) 1 = 1
def cOpen (S : SC) (v o flags : Int) : Prop := 0 ≤ o ∧ o < cOpts S v ∧ (cPart S v o 1 = 0 ∨ (fon flags (cPart S v o 2) ↔ cPart S v o 1 = 1))
def cShown (S : SC) (v : Int) : Prop := cKind S v = -1 ∨ cKind S v = 0 ∨ cKind S v = 6 ∨ cKind S v = 7
def cSK (S : SC) (v : Int) : Int := if cKind S v = 0 then 0 else if cKind S v = 6 then 1 else 2
def cSN (S : SC) (v : Int) : Int := if v = 30 then -3 else if 0 ≤ v ∧ v < S.1 ∧ v < 29 then cNum S v (if cKind S v = 0 then 1 else 0) else -2
theorem rT {P : Prop} {R : RP} {h : AH} (k : R (some (vI (bi P))) h) (hp : P) : R (some (vI 1)) h := by rw [bi_t hp] at k; exact k
theorem rF {P : Prop} {R : RP} {h : AH} (k : R (some (vI (bi P))) h) (hp : ¬ P) : R (some (vI 0)) h := by rw [bi_f hp] at k; exact k
theorem rI {z z' : Int} {R : RP} {h : AH} (k : R (some (vI z)) h) (e : z' = z) : R (some (vI z')) h := by rw [e]; exact k
