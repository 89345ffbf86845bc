/-! ===== the reference: all nodes; the fault ===== -/
theorem osR_len {T : TX} : ∀ (n : Nat) (a : Int), (osR T n a).2.2.length ≤ n := by
  intro n
  induction n with
  | zero => intro a; exact Nat.le_refl 0
  | succ n ih =>
    intro a
    by_cases u : opOk T (sk T a)
    · by_cases v : tc T (sk T (opAt T (sk T a))) = 44
      · rw [show osR T (n + 1) a = _ from (pif_t u).trans (pif_t v)]
        exact Nat.succ_le_succ (ih _)
      · rw [show osR T (n + 1) a = _ from (pif_t u).trans (pif_f v)]
        exact Nat.succ_le_succ (Nat.zero_le _)
    · rw [show osR T (n + 1) a = _ from pif_f u]
      exact Nat.zero_le _
theorem ndO_len {T : TX} (p : Int) : (ndO T p).length ≤ 4 := by
  unfold ndO
  split
  · exact osR_len 4 _
  · exact Nat.zero_le _
def nd0 : ND := (0, [], [])
/-- the rows of the array hold the nodes of a list -/
def rowsAre (B : Int → Int) (l : List ND) : Prop := ∀ j : Nat, j < l.length → rowIs B (12 * j) (l.getD j nd0).1 (l.getD j nd0).2.1 (l.getD j nd0).2.2 ∧ (l.getD j nd0).2.2.length ≤ 4
theorem rowsAre_snoc {B B' : Int → Int} {l : List ND} {nd : ND} (h : rowsAre B l) (hn : rowIs B' (12 * (l.length : Nat)) nd.1 nd.2.1 nd.2.2) (hl : nd.2.2.length ≤ 4) (e : ∀ j : Int, j < 12 * ((l.length : Nat) : Int) → B' j = B j) : rowsAre B' (l ++ [nd]) := by
  intro j hj
  rw [List.length_append, List.length_singleton] at hj
  by_cases c : j < l.length
  · have hg : (l ++ [nd]).getD j nd0 = l.getD j nd0 := by simp [List.getD_eq_getElem?_getD, List.getElem?_append_left c]
    rw [hg]
    obtain ⟨h1, h2⟩ := h j c
    exact ⟨rowIs_congr h1 h2 (fun i u v => e i (by omega)), h2⟩
  · have c' : j = l.length := by omega
    subst c'
    have hg : (l ++ [nd]).getD l.length nd0 = nd := by simp [List.getD_eq_getElem?_getD]
    rw [hg]
    exact ⟨hn, hl⟩
theorem ffR_end {T : TX} {n : Nat} {b : Int} (h : tc T (sk T b) = -1) : ffR T n b = (-11, []) := by
  cases n with
  | zero => exact congrArg (fun z => (z, [])) (pif_t h)
  | succ n => exact pif_t h
theorem tc_end {T : TX} (hT : txI T) {p : Int} (h : 0 ≤ p) : tc T p = -1 ↔ T.1 ≤ p := by
  have := hv_tc hT p
  omega
theorem tc_some {T : TX} (hT : txI T) {p : Int} (h : 0 ≤ p) (h2 : p < T.1) : tc T p ≠ -1 := fun z => by have := (tc_end hT h).1 z; omega
