/-! ===== the reference: what is shown ===== -/
theorem bOr0 (x : Int) : bOr x 0 = (Int32.ofInt x).toInt := by
  unfold bOr
  rw [show Int32.ofInt 0 = 0 by decide, Int32.or_zero]
theorem bOr_z {x y : Int} : bOr (bOr x y) 0 = bOr x y := by
  rw [bOr0]; unfold bOr; rw [Int32.ofInt_toInt]
/-- the reference's sum of the options that are not locked -/
noncomputable def rOpen (S : SC) (v fl : Int) : Nat → Int
  | 0 => 0
  | k + 1 => bOr (rOpen S v fl k) (pif (cOpen S v k fl) (bShl 1 k) 0)
theorem rOpen_sum {S : SC} {v fl : Int} : ∀ n : Nat, rOpen S v fl n = oSum S v fl n := by
  intro n
  induction n with
  | zero => rfl
  | succ n ih =>
    by_cases c : cOpen S v n fl
    · rw [show rOpen S v fl (n + 1) = bOr (rOpen S v fl n) (bShl 1 n) from congrArg _ (pif_t c), ih]
      exact (pif_t c).symm
    · rw [show rOpen S v fl (n + 1) = bOr (rOpen S v fl n) 0 from congrArg _ (pif_f c), ih]
      rw [show oSum S v fl (n + 1) = oSum S v fl n from pif_f c]
      clear ih
      cases n with
      | zero => show bOr 0 0 = 0; decide
      | succ n =>
        clear c
        induction n with
        | zero =>
          by_cases d : cOpen S v (0 : Nat) fl
          · rw [show oSum S v fl (0 + 1) = _ from pif_t d, bOr_z]
          · rw [show oSum S v fl (0 + 1) = _ from pif_f d]; show bOr 0 0 = 0; decide
        | succ n ih =>
          by_cases d : cOpen S v (n + 1 : Nat) fl
          · rw [show oSum S v fl (n + 1 + 1) = _ from pif_t d, bOr_z]
          · rw [show oSum S v fl (n + 1 + 1) = _ from pif_f d]; exact ih
theorem oSum_more {S : SC} {v fl : Int} {k : Nat} (h : ∀ j : Nat, k ≤ j → ¬ cOpen S v j fl) : ∀ n : Nat, k ≤ n → oSum S v fl n = oSum S v fl k := by
  intro n hn
  induction n with
  | zero => have : k = 0 := by omega
            rw [this]
  | succ n ih =>
    by_cases e : k = n + 1
    · rw [e]
    · rw [show oSum S v fl (n + 1) = oSum S v fl n from pif_f (h n (by omega))]; exact ih (by omega)
noncomputable def shRR (S : SC) (m : MO) (w : Int) : Int := if w = 0 then m.1 else if w = 1 then cSK S m.1 else if w = 2 then (if cSK S m.1 = 0 then cNum S m.1 0 else -11) else if w = 3 then cSN S m.1 else if w = 4 then m.2.1 else if w = 5 then cOS S m.1 m.2.1 else -12
def poRR (m : MO) (p f : Int) : Int := if 0 ≤ p ∧ p < 3 then (if f ≠ 0 then m.2.2.2 p else m.2.2.1 p) else -12
def noRR (S : SC) (v w : Int) : Int := if (0 ≤ v ∧ v < S.1) ∧ 0 ≤ w ∧ w ≤ 3 then (if w = 0 then cKind S v else cNum S v (w - 1)) else -12
def opRR (S : SC) (v o w : Int) : Int := if cKind S v = 6 ∧ 0 ≤ o ∧ 0 ≤ w ∧ w ≤ 2 then cPart S v o w else -12
theorem sn_of {S : SC} {B : Int → Int} {v : Int} (hB : rScr B S) (h0 : 0 ≤ v) (hs : cSK S v = 0 ∨ cSK S v = 1) {x : Int} (hx : (cSK S v = 0 → x = B (12 * v + 2)) ∧ (cSK S v = 1 → x = B (12 * v + 1))) : x = cSN S v := by
  have hk : cKind S v = 0 ∨ cKind S v = 6 := hs.elim (fun z => Or.inl (sk_line z)) (fun z => Or.inr (sk_choice z))
  have hl := kd_lt (S := S) (v := v) (by omega)
  have g := hB.2 v h0 hl.2.1
  have e : cSN S v = _ := (if_neg (by omega)).trans (if_pos hl)
  rw [e]
  rcases hs with z | z
  · rw [if_pos (sk_line z), hx.1 z]; exact g.n1
  · rw [if_neg (by rw [sk_choice z]; decide), hx.2 z]; exact g.n0
theorem row1 {Mo : Int → Int} {p k : Int} {m : MO} (h : rowM Mo p m) (k0 : 0 ≤ k) (k1 : k < 3) : Mo (p + (2 + k)) = m.2.2.1 k ∧ Mo (p + (5 + k)) = m.2.2.2 k := by
  rw [← Int.add_assoc, ← Int.add_assoc]; exact h.2.2 k k0 k1
