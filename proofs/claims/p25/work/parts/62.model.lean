/-! ===== the reference: reads of the chart ===== -/
def isE (e : Int) : Prop := (0 ≤ e ∧ e ≤ 9) ∨ e = -2 ∨ e = -3
def cl (X : CH) (k : Int) : Int := if k = -11 then 0 else X.2.2.2.2.2.1 k + 1
def stR (X : CH) (e : Int) : Int := if X.2.2.2.2.2.2.1 (3 + e) = 0 then -11 else cl X (X.2.2.2.2.2.2.2.1 (3 + e))
def stepW (X : CH) : Nat → Int → Int → Int
  | 0, its, _ => its
  | t + 1, _, k => stepW X t (X.2.2.2.2.1 k) (X.2.2.2.1 k)
def usR (S : SC) (X : CH) (v o : Int) : Prop := ∃ k : Int, (0 ≤ k ∧ k < X.2.1) ∧ X.2.2.1 k / 64 = v ∧ cOpen S v o (X.2.2.1 k % 64)
theorem cl_rng {S : SC} {X : CH} {k : Int} (h : chI S X) (hk : k = -11 ∨ (0 ≤ k ∧ k < X.2.1)) : 0 ≤ cl X k ∧ cl X k ≤ X.2.1 ∧ (k ≠ -11 → 1 ≤ cl X k) := by
  have hn := h.1.1
  unfold cl
  rcases hk with z | z
  · rw [if_pos z]; exact ⟨by omega, hn, fun y => absurd z y⟩
  · rw [if_neg (by omega)]
    obtain ⟨-, -, -, -, -, a, b⟩ := h.2.2.1 k z.1 z.2
    exact ⟨by omega, by omega, fun _ => by omega⟩
theorem cl_step {S : SC} {X : CH} {k : Int} (h : chI S X) (k0 : 0 ≤ k) (k1 : k < X.2.1) : cl X k = cl X (X.2.2.2.1 k) + 1 ∧ (X.2.2.2.1 k = -11 ∨ (0 ≤ X.2.2.2.1 k ∧ X.2.2.2.1 k < X.2.1)) := by
  obtain ⟨-, -, -, a, b, -, -⟩ := h.2.2.1 k k0 k1
  refine ⟨?_, a.elim Or.inl (fun z => Or.inr ⟨z.1, by omega⟩)⟩
  unfold cl
  rw [if_neg (by omega : ¬ k = -11), b]
