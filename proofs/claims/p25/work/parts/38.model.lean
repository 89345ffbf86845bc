def lkc (o : Int × Int) : Int := if o.1 = 0 then 0 else o.1 + 2 * o.2
/-- the options of a list lie in a row of the array -/
def oRep (A : Int → Int) (p : Int) (l : List (Int × Int × Int)) : Prop := ∀ j : Nat, j < l.length → A (p + 4 + 2 * j) = (l.getD j (0, 0, 0)).1 ∧ A (p + 4 + 2 * j + 1) = lkc (l.getD j (0, 0, 0)).2
theorem oRep_snoc {A A' : Int → Int} {p : Int} {l : List (Int × Int × Int)} {o : Int × Int × Int} (h : oRep A p l) (e1 : A' (p + 4 + 2 * (l.length : Nat)) = o.1) (e2 : A' (p + 4 + 2 * (l.length : Nat) + 1) = lkc o.2) (hk : ∀ j, p + 4 ≤ j → j < p + 4 + 2 * (l.length : Nat) → A' j = A j) : oRep A' p (l ++ [o]) := by
  intro j hj
  rw [List.length_append, List.length_singleton] at hj
  by_cases e : j < l.length
  · have hg : (l ++ [o]).getD j (0, 0, 0) = l.getD j (0, 0, 0) := by simp [List.getD_eq_getElem?_getD, List.getElem?_append_left e]
    rw [hg, hk _ (by omega) (by omega), hk _ (by omega) (by omega)]
    exact h j e
  · have e' : j = l.length := by omega
    subst e'
    have hg : (l ++ [o]).getD l.length (0, 0, 0) = o := by simp [List.getD_eq_getElem?_getD]
    rw [hg]
    exact ⟨e1, e2⟩
theorem oRep_congr {A A' : Int → Int} {p : Int} {l : List (Int × Int × Int)} (h : oRep A p l) (hk : ∀ j, p + 4 ≤ j → j < p + 4 + 2 * (l.length : Nat) → A' j = A j) : oRep A' p l := fun j hj => by
  rw [hk _ (by omega) (by omega), hk _ (by omega) (by omega)]
  exact h j hj
theorem nmAt_ne {T : TX} {m p : Int} (h0 : 0 ≤ p) (h1 : p ≤ T.1) : nmAt T m p ≠ -11 := by have := nmAt_le (m := m) h1; omega
theorem dgAt_ne {T : TX} {m p : Int} (h0 : 0 ≤ p) (h1 : p ≤ T.1) : dgAt T m p ≠ -11 := by have := dgAt_le (m := m) h1; omega
theorem fs_at {f : Int → Int} {i v j : Int} (h : j = i) : fset f i v j = v := if_pos h
theorem fs_off {f : Int → Int} {i v j : Int} (h : j ≠ i) : fset f i v j = f j := if_neg h
theorem lkV0 : lkc (0, -11) = 0 := rfl
theorem opV1 {T : TX} {p : Int} (h : opL T p) : (opV T p).1 = nmV T p := by rw [show opV T p = _ from pif_t h]
theorem lkV1 {T : TX} {p : Int} (h : opL T p) (e : tc T (opQ T p) = 63) : lkc (opV T p).2 = 1 + 2 * (tc T (opD T p) - 48) := by
  rw [show opV T p = _ from pif_t h]; unfold lkc; simp only []; rw [if_pos e]; exact if_neg (by decide)
theorem lkV2 {T : TX} {p : Int} (h : opL T p) (e : ¬ tc T (opQ T p) = 63) : lkc (opV T p).2 = 2 + 2 * (tc T (opD T p) - 48) := by
  rw [show opV T p = _ from pif_t h]; unfold lkc; simp only []; rw [if_neg e]; exact if_neg (by decide)
