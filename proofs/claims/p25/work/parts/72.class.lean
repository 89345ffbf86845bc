/-! ===== the class as a whole ===== -/
/-- the object: the text, the script and the draft (which change places), the play, the chart -/
def pAt (h : AH) (x : Nat) (S : SC) (P : PL) (T : TX) : Prop := ∃ (sr dr : Nat) (a n : Int) (Sd : SC) (re wc : Int) (Cc Lc Lo Wa Es : FN) (m : MO), ((sr = x + 9 ∧ dr = x + 3) ∨ (sr = x + 3 ∧ dr = x + 9)) ∧ h.2 x = some (kO 5 [vR (x + 1), vR sr, vR (x + 15), vR (x + 89)]) ∧ txAt h (x + 1) T dr a n ∧ scAt h sr S ∧ scAt h dr Sd ∧ scI S ∧ scI Sd ∧ plAt h (x + 15) P ∧ h.2 (x + 89) = some (cob (x + 89) re wc) ∧ h.2 (x + 89 + 1) = some (kA 0 1984 Cc) ∧ h.2 (x + 89 + 2) = some (kA 0 1984 Lc) ∧ h.2 (x + 89 + 3) = some (kA 0 1984 Lo) ∧ h.2 (x + 89 + 4) = some (kA 0 1984 Wa) ∧ h.2 (x + 89 + 5) = some (kA 0 12 Es) ∧ moAt h (x + 89 + 6) m ∧ cC (drawn S) re wc Cc Lc Lo Wa Es
/-- what holds of a play -/
def plI (P : PL) : Prop := (0 ≤ P.2.1 ∧ P.2.1 < P.1 ∧ P.1 ≤ 20) ∧ (∀ v : Int, 0 ≤ v → v < 31 → 0 ≤ P.2.2.2.2.2.1 v ∧ P.2.2.2.2.2.1 v ≤ 1) ∧ (∀ j : Int, 0 ≤ j → j < 3 → 0 ≤ P.2.2.2.2.1 j ∧ P.2.2.2.2.1 j ≤ 1) ∧ 0 ≤ (nowM P).1 ∧ (nowM P).1 ≤ 30
theorem plI_of {S : SC} {P : PL} {fi co ah se : Int} {Mo Sv Iv : FN} (h : plR S P fi co ah se Mo Sv Iv) : plI P := by
  obtain ⟨⟨-, b, c, d⟩, -, g, i, j⟩ := h
  obtain ⟨-, hm, -⟩ := g P.2.1 b c
  refine ⟨⟨b, c, d⟩, fun v v0 v1 => ?_, fun k k0 k1 => (i k k0 k1).2.1, hm.1.1, hm.1.2⟩
  rw [j v v0 v1]
  rcases bit_rng (x := se) v0 (by omega) with z | z <;> omega
theorem seeP_1 (P : PL) (v : Int) : (seeP P v).1 = P.1 ∧ (seeP P v).2.1 = P.2.1 ∧ (seeP P v).2.2.1 = P.2.2.1 ∧ (seeP P v).2.2.2.1 = P.2.2.2.1 ∧ (seeP P v).2.2.2.2.1 = P.2.2.2.2.1 ∧ (seeP P v).2.2.2.2.2.2 = P.2.2.2.2.2.2 := by
  unfold seeP
  split <;> exact ⟨rfl, rfl, rfl, rfl, rfl, rfl⟩
theorem seeP_b {P : PL} {w : Int} (h : ∀ v : Int, 0 ≤ v → v < 31 → 0 ≤ P.2.2.2.2.2.1 v ∧ P.2.2.2.2.2.1 v ≤ 1) : ∀ v : Int, 0 ≤ v → v < 31 → 0 ≤ (seeP P w).2.2.2.2.2.1 v ∧ (seeP P w).2.2.2.2.2.1 v ≤ 1 := by
  intro v v0 v1
  unfold seeP
  split
  · show 0 ≤ fset P.2.2.2.2.2.1 w 1 v ∧ fset P.2.2.2.2.2.1 w 1 v ≤ 1
    by_cases e : v = w
    · rw [fs_at e]; omega
    · rw [fs_off e]; exact h v v0 v1
  · exact h v v0 v1
theorem nowM_see (P : PL) (v : Int) : nowM (seeP P v) = nowM P := by
  unfold nowM
  obtain ⟨-, a, -, b, -⟩ := seeP_1 P v
  rw [a, b]
theorem goP_f {S : SC} {P : PL} {v : Int} (hb : plI P) : (0 ≤ (goP S P v).2.1 ∧ (goP S P v).2.1 < (goP S P v).1 ∧ (goP S P v).1 ≤ 20) ∧ (∀ w : Int, 0 ≤ w → w < 31 → 0 ≤ (goP S P v).2.2.2.2.2.1 w ∧ (goP S P v).2.2.2.2.2.1 w ≤ 1) ∧ (goP S P v).2.2.2.2.1 = P.2.2.2.2.1 := by
  obtain ⟨⟨b0, b1, b2⟩, hs, -⟩ := hb
  by_cases c : P.2.1 + 1 < 20
  · have e : goP S P v = _ := if_pos c
    rw [e]
    obtain ⟨q1, q2, -, -, q5, -⟩ := seeP_1 (P.2.1 + 1 + 1, P.2.1 + 1, P.2.2.1, mset P.2.2.2.1 (P.2.1 + 1) (goM S P v), P.2.2.2.2) (goM S P v).1
    rw [q1, q2, q5]
    exact ⟨⟨by show 0 ≤ P.2.1 + 1; omega, by show P.2.1 + 1 < P.2.1 + 1 + 1; omega, by show P.2.1 + 1 + 1 ≤ 20; omega⟩, seeP_b hs, rfl⟩
  · have e : goP S P v = _ := if_neg c
    rw [e]
    obtain ⟨q1, q2, -, -, q5, -⟩ := seeP_1 (P.2.1 + 1, P.2.1, shA P.2.2.1, mset (shM P.2.2.2.1) P.2.1 (goM S P v), P.2.2.2.2) (goM S P v).1
    rw [q1, q2, q5]
    exact ⟨⟨b0, by show P.2.1 < P.2.1 + 1; omega, by show P.2.1 + 1 ≤ 20; omega⟩, seeP_b hs, rfl⟩
theorem plI_go {S : SC} {B : FN} {P : PL} {v : Int} (hB : rScr B S) (hb : plI P) (v0 : 0 ≤ v) (v1 : v ≤ 30) : plI (goP S P v) ∧ nowM (goP S P v) = goM S P v := by
  obtain ⟨q1, q2, q3⟩ := goP_f (S := S) (v := v) hb
  have hcr : (0 ≤ (goM S P v).1 ∧ (goM S P v).1 ≤ 30) ∧ _ := cCome_rng hB (nowM P) v0 v1
  have e := goP_now (S := S) (P := P) (v := v) hcr.1.1 hcr.1.2
  exact ⟨⟨q1, q2, by rw [q3]; exact hb.2.2.1, by rw [e]; exact hcr.1⟩, e⟩
theorem anewP_f {S : SC} {B : FN} {P : PL} (hB : rScr B S) (hb : ∀ v : Int, 0 ≤ v → v < 31 → 0 ≤ P.2.2.2.2.2.1 v ∧ P.2.2.2.2.2.1 v ≤ 1) (hs : ∀ j : Int, 0 ≤ j → j < 3 → 0 ≤ P.2.2.2.2.1 j ∧ P.2.2.2.2.1 j ≤ 1) : plI (anewP S P) ∧ nowM (anewP S P) = cCome S (emptyM (P.2.2.2.1 0)) 0 := by
  obtain ⟨q1, q2, -, q4, q5, -⟩ := seeP_1 (1, 0, P.2.2.1, mset P.2.2.2.1 0 (cCome S (emptyM (P.2.2.2.1 0)) 0), P.2.2.2.2) (cCome S (emptyM (P.2.2.2.1 0)) 0).1
  have hcr := cCome_rng hB (emptyM (P.2.2.2.1 0)) (v := 0) (by omega) (by omega)
  have e : nowM (anewP S P) = cCome S (emptyM (P.2.2.2.1 0)) 0 := (nowM_see _ _).trans (mset_s P.2.2.2.1 0 (cCome S (emptyM (P.2.2.2.1 0)) 0))
  refine ⟨⟨?_, seeP_b hb, ?_, by rw [e]; exact hcr.1⟩, e⟩
  · show 0 ≤ (seeP _ _).2.1 ∧ (seeP _ _).2.1 < (seeP _ _).1 ∧ (seeP _ _).1 ≤ 20
    rw [q1, q2]
    show (0 : Int) ≤ 0 ∧ (0 : Int) < 1 ∧ (1 : Int) ≤ 20
    decide
  · show ∀ j : Int, 0 ≤ j → j < 3 → 0 ≤ (seeP _ _).2.2.2.2.1 j ∧ (seeP _ _).2.2.2.2.1 j ≤ 1
    rw [q5]; exact hs
/-- rows for a list of nodes -/
def rowF (nd : ND) (w : Int) : Int := if w = 0 then nd.1 else if nd.1 = 6 then (if w = 1 then (nd.2.2.length : Nat) else if w ≤ 3 then -11 else if (w - 4) % 2 = 0 then (nd.2.2.getD ((w - 4) / 2).toNat (0, 0, 0)).1 else lkc (nd.2.2.getD ((w - 4) / 2).toNat (0, 0, 0)).2) else nd.2.1.getD (w - 1).toNat (-11)
theorem rowF_is {B : FN} {p : Int} {nd : ND} (h : ∀ w : Int, 0 ≤ w → w < 12 → B (p + w) = rowF nd w) (hl : nd.2.2.length ≤ 4) : rowIs B p nd.1 nd.2.1 nd.2.2 := by
  refine ⟨?_, fun z => ?_, fun z => ?_⟩
  · have := h 0 (by omega) (by omega)
    rw [Int.add_zero] at this
    exact this.trans (if_pos rfl)
  · have g : ∀ w : Int, 1 ≤ w → w < 12 → B (p + w) = nd.2.1.getD (w - 1).toNat (-11) := fun w w0 w1 => (h w (by omega) w1).trans ((if_neg (by omega)).trans (if_neg z))
    exact ⟨g 1 (by omega) (by omega), g 2 (by omega) (by omega), g 3 (by omega) (by omega)⟩
  · have g : ∀ w : Int, 1 ≤ w → w < 12 → B (p + w) = _ := fun w w0 w1 => (h w (by omega) w1).trans ((if_neg (by omega)).trans (if_pos z))
    refine ⟨(g 1 (by omega) (by omega)).trans (if_pos rfl), (g 2 (by omega) (by omega)).trans ((if_neg (by omega)).trans (if_pos (by omega))), (g 3 (by omega) (by omega)).trans ((if_neg (by omega)).trans (if_pos (by omega))), fun j hj => ⟨?_, ?_⟩⟩
    · have e := (g (4 + 2 * j) (by omega) (by omega)).trans ((if_neg (by omega)).trans ((if_neg (by omega)).trans (if_pos (by omega))))
      rw [show (4 + 2 * (j : Int) - 4) / 2 = j by omega] at e
      rw [show p + 4 + 2 * (j : Int) = p + (4 + 2 * j) by omega]
      exact e
    · have e := (g (4 + 2 * j + 1) (by omega) (by omega)).trans ((if_neg (by omega)).trans ((if_neg (by omega)).trans (if_neg (by omega))))
      rw [show (4 + 2 * (j : Int) + 1 - 4) / 2 = j by omega] at e
      rw [show p + 4 + 2 * (j : Int) + 1 = p + (4 + 2 * j + 1) by omega]
      exact e
theorem rows_ex (l : List ND) (h : ∀ nd, nd ∈ l → nd.2.2.length ≤ 4) : ∃ B : FN, rowsAre B l := by
  refine ⟨fun j => rowF (l.getD (j / 12).toNat nd0) (j % 12), fun j hj => ?_⟩
  have hl : (l.getD j nd0).2.2.length ≤ 4 := by
    rw [List.getD_eq_getElem?_getD, List.getElem?_eq_getElem hj]
    exact h _ (List.getElem_mem hj)
  refine ⟨rowF_is (fun w w0 w1 => ?_) hl, hl⟩
  show rowF (l.getD ((12 * (j : Int) + w) / 12).toNat nd0) ((12 * (j : Int) + w) % 12) = _
  rw [show (12 * (j : Int) + w) / 12 = j by omega, show (12 * (j : Int) + w) % 12 = w by omega]
  rfl
theorem rScr_ex (Sd : SC) (T : TX) : ∃ B : FN, rScr B (rdS Sd T) := by
  have hf := ffR_fit (T := T) 29 0
  obtain ⟨B, hB⟩ := rows_ex (ffR T 29 0).2 (fun nd hn => (ndFit_small (hf.2 nd hn)).2)
  exact ⟨B, rScr_text hB⟩
