theorem osR_sk {T : TX} (hT : txI T) (n : Nat) {a : Int} (h : 0 ≤ a) : osR T n (sk T a) = osR T n a := by
  cases n <;> simp only [osR, sk_sk hT h]
/-- a row of the array holds a node -/
def rowIs (B : Int → Int) (p : Int) (k : Int) (ns : List Int) (os : List (Int × Int × Int)) : Prop := B p = k ∧ (k ≠ 6 → B (p + 1) = ns.getD 0 (-11) ∧ B (p + 2) = ns.getD 1 (-11) ∧ B (p + 3) = ns.getD 2 (-11)) ∧ (k = 6 → B (p + 1) = (os.length : Nat) ∧ B (p + 2) = -11 ∧ B (p + 3) = -11 ∧ oRep B p os)
theorem rowI {B : Int → Int} {p k a b c : Int} {ns : List Int} {os : List (Int × Int × Int)} (hk : k ≠ 6) (e : ns.getD 0 (-11) = a ∧ ns.getD 1 (-11) = b ∧ ns.getD 2 (-11) = c) (h0 : B p = k) (h1 : B (p + 1) = a) (h2 : B (p + 2) = b) (h3 : B (p + 3) = c) : rowIs B p k ns os :=
  ⟨h0, fun _ => ⟨h1.trans e.1.symm, h2.trans e.2.1.symm, h3.trans e.2.2.symm⟩, fun z => absurd z hk⟩
theorem rowI6 {B : Int → Int} {p : Int} {ns : List Int} {os : List (Int × Int × Int)} (h0 : B p = 6) (h1 : B (p + 1) = (os.length : Nat)) (h2 : B (p + 2) = -11) (h3 : B (p + 3) = -11) (h4 : oRep B p os) : rowIs B p 6 ns os :=
  ⟨h0, fun z => absurd rfl z, fun _ => ⟨h1, h2, h3, h4⟩⟩
theorem rowIs_congr {B B' : Int → Int} {p k : Int} {ns : List Int} {os : List (Int × Int × Int)} (h : rowIs B p k ns os) (hl : os.length ≤ 4) (e : ∀ j, p ≤ j → j < p + 12 → B' j = B j) : rowIs B' p k ns os := by
  obtain ⟨h0, h1, h2⟩ := h
  refine ⟨by rw [e _ (by omega) (by omega)]; exact h0, fun z => ?_, fun z => ?_⟩
  · rw [e _ (by omega) (by omega), e _ (by omega) (by omega), e _ (by omega) (by omega)]; exact h1 z
  · obtain ⟨a, b, c, f⟩ := h2 z
    rw [e _ (by omega) (by omega), e _ (by omega) (by omega), e _ (by omega) (by omega)]
    exact ⟨a, b, c, oRep_congr f (fun j u v => e _ (by omega) (by omega))⟩
theorem osR_ss {T : TX} (hT : txI T) : ∀ {n : Nat} {a : Int}, 0 ≤ a → a ≤ T.1 → (osR T n a).1 → sk T (osR T n a).2.1 = (osR T n a).2.1 := by
  intro n
  induction n with
  | zero => intro a _ _ h; exact absurd h (fun z => z)
  | succ n ih =>
    intro a ha hb h
    have hs := sk_le (T := T) a
    have hs2 := sk_len hb
    by_cases u : opOk T (sk T a)
    · by_cases v : tc T (sk T (opAt T (sk T a))) = 44
      · have hl := tc_lt (T := T) (p := sk T (opAt T (sk T a))) (by omega)
        have e : osR T (n + 1) a = _ := (pif_t u).trans (pif_t v)
        rw [e] at h ⊢
        exact ih (by omega) (by omega) h
      · have e : osR T (n + 1) a = _ := (pif_t u).trans (pif_f v)
        rw [e]
        have := opAt_le (T := T) hs2
        exact sk_sk hT (by omega)
    · have e : osR T (n + 1) a = _ := pif_f u
      rw [e] at h
      exact absurd h (fun z => z)
