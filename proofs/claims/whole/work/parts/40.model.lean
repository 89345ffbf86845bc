/-! ===== the reference: all nodes; the fault ===== -/
theorem osR_len {T : TX} : ∀ (n : Nat) (a : Int), (osR T n a).2.2.length ≤ n := by
  intro n
  induction n with
  | zero => intro a; exact Nat.le_refl 0
  | succ n ih =>
    intro a
    by_cases u : opOk T (sk T a)
    · by_cases v : tc T (sk T (opAt T (sk T a))) = 44
      · rw [show osR T (n + 1) a = _ from (pif_t u).trans (pif_t v)]
        exact Nat.succ_le_succ (ih _)
      · rw [show osR T (n + 1) a = _ from (pif_t u).trans (pif_f v)]
        exact Nat.succ_le_succ (Nat.zero_le _)
    · rw [show osR T (n + 1) a = _ from pif_f u]
      exact Nat.zero_le _
theorem ndO_len {T : TX} (p : Int) : (ndO T p).length ≤ 4 := by
  unfold ndO
  split
  · exact osR_len 4 _
  · exact Nat.zero_le _
def nd0 : ND := (0, [], [])
/-- the rows of the array hold the nodes of a list -/
def rowsAre (B : Int → Int) (l : List ND) : Prop := ∀ j : Nat, j < l.length → rowIs B (12 * j) (l.getD j nd0).1 (l.getD j nd0).2.1 (l.getD j nd0).2.2 ∧ (l.getD j nd0).2.2.length ≤ 4
theorem rowsAre_snoc {B B' : Int → Int} {l : List ND} {nd : ND} (h : rowsAre B l) (hn : rowIs B' (12 * (l.length : Nat)) nd.1 nd.2.1 nd.2.2) (hl : nd.2.2.length ≤ 4) (e : ∀ j : Int, j < 12 * ((l.length : Nat) : Int) → B' j = B j) : rowsAre B' (l ++ [nd]) := by
  intro j hj
  rw [List.length_append, List.length_singleton] at hj
  by_cases c : j < l.length
  · have hg : (l ++ [nd]).getD j nd0 = l.getD j nd0 := by simp [List.getD_eq_getElem?_getD, List.getElem?_append_left c]
    rw [hg]
    obtain ⟨h1, h2⟩ := h j c
    exact ⟨rowIs_congr h1 h2 (fun i u v => e i (by omega)), h2⟩
  · have c' : j = l.length := by omega
    subst c'
    have hg : (l ++ [nd]).getD l.length nd0 = nd := by simp [List.getD_eq_getElem?_getD]
    rw [hg]
    exact ⟨hn, hl⟩
theorem ffR_end {T : TX} {n : Nat} {b : Int} (h : tc T (sk T b) = -1) : ffR T n b = (-11, []) := by
  cases n with
  | zero => exact congrArg (fun z => (z, [])) (pif_t h)
  | succ n => exact pif_t h
theorem tc_end {T : TX} (hT : txI T) {p : Int} (h : 0 ≤ p) : tc T p = -1 ↔ T.1 ≤ p := by
  have := hv_tc hT p
  omega
theorem tc_some {T : TX} (hT : txI T) {p : Int} (h : 0 ≤ p) (h2 : p < T.1) : tc T p ≠ -1 := fun z => by have := (tc_end hT h).1 z; omega
set_option maxRecDepth 100000 in
set_option maxHeartbeats 4000000 in
theorem s6_reads {d : Nat} {h : AH} {R : RP} {q : Nat} {n rd fi co ah se ps fa fl ch : Int} {hx : Int64} {T : TX} {B0 : Int → Int} (c0 : h.2 q = some (mobj q n rd fi co ah se T.1 ps fa fl ch hx)) (c2 : h.2 (q + 2) = some (kA 0 348 B0)) (c6 : h.2 (q + 6) = some (kA 0 100 T.2)) (hT : txI T) (k : ∀ h' ps' rd' B', h'.2 q = some (mobj q n rd' fi co ah se T.1 ps' ((ffR T 29 0).1) fl ch hx) → h'.2 (q + 2) = some (kA 0 348 B') → ((ffR T 29 0).1 = -11 → rd' = ((ffR T 29 0).2.length : Nat) ∧ rowsAre B' (ffR T 29 0).2) → Fr2 h h' q 1 (q + 2) 1 → R none h') : AM m6_reads (d + 5) h [vR q] R := by
  refine AM.of (L := [some (vR q)]) ok_6_reads (by decide) (fun G => Nat.le_of_ble_eq_true rfl) rfl ?_
  have dead : ∀ (b2 fa2 rd2 : Int) (A2 : Int → Int) (h1 : AH) (c0 : h1.2 q = some (mobj q n rd2 fi co ah se T.1 b2 fa2 fl ch hx)) (c2 : h1.2 (q + 2) = some (kA 0 348 A2)) (hne : fa2 ≠ -11) (hq : (ffR T 29 0).1 = fa2) (hF : Fr2 h h1 q 1 (q + 2) 1), AW m6_reads (d + 5) (mC m6_reads, mS m6_reads) 20 [some (vR q)] [] h1 R := by
    intro b2 fa2 rd2  A2  h1  c0 c2 hne hq hF
    refine A.al1_0 d6_reads_20 ?_
    refine A.getf d6_reads_21 ?_ (hc := c0)
    refine A.bipush d6_reads_24 ?_
    refine A.ic_ne d6_reads_26 (fun c26 => ?_) (fun c26 => absurd c26 hne)
    refine A.vret d6_reads_47 ?_
    exact k _ _ _ _ (by rw [hq]; exact c0) c2 (fun z => absurd (hq.symm.trans z) hne) hF
  have loop : ∀ (nf : Nat) (i : Nat) (b : Int) (pre : List ND) (A1 : Int → Int) (h1 : AH) (hi : i ≤ 29) (hb : 0 ≤ b) (hb1 : b ≤ T.1) (c0 : h1.2 q = some (mobj q n ((i : Nat)) fi co ah se T.1 (sk T b) (-11) fl ch hx)) (c2 : h1.2 (q + 2) = some (kA 0 348 A1)) (c6 : h1.2 (q + 6) = some (kA 0 100 T.2)) (hF : Fr2 h h1 q 1 (q + 2) 1) (q1 : (ffR T 29 0).1 = (ffR T (29 - i) b).1) (q3 : (ffR T 29 0).2 = pre ++ (ffR T (29 - i) b).2) (hpl : pre.length = i) (hR : rowsAre A1 pre) (hn : 29 - i < nf), AW m6_reads (d + 5) (mC m6_reads, mS m6_reads) 20 [some (vR q)] [] h1 R := by
    intro nf
    induction nf with
    | zero => intro i  b  pre  A1  h1  hi hb hb1 c0 c2 c6 hF q1 q3 hpl hR hn; omega
    | succ nf ih =>
      intro i  b  pre  A1  h1  hi hb hb1 c0 c2 c6 hF q1 q3 hpl hR hn
      have hs0 := sk_le (T := T) b
      have hs1 := sk_len hb1
      refine A.al1_0 d6_reads_20 ?_
      refine A.getf d6_reads_21 ?_ (hc := c0)
      refine A.bipush d6_reads_24 ?_
      refine A.ic_ne d6_reads_26 (fun c26 => absurd rfl c26) (fun c26 => ?_)
      refine A.al1_0 d6_reads_29 ?_
      refine A.getf d6_reads_30 ?_ (hc := c0)
      refine A.al1_0 d6_reads_33 ?_
      refine A.getf d6_reads_34 ?_ (hc := c0)
      refine A.ic_ge d6_reads_37 (fun c37 => ?_) (fun c37 => ?_)
      · refine A.vret d6_reads_47 ?_
        have he := ffR_end (n := 29 - i) ((tc_end hT (by omega)).2 c37)
        rw [he] at q1 q3
        exact k _ _ _ _ (by rw [q1]; exact c0) c2 (fun _ => by rw [q3, List.append_nil]; exact ⟨by rw [hpl], hR⟩) hF
      · have ht := tc_some hT (by omega) (by omega : sk T b < T.1)
        refine A.al1_0 d6_reads_40 ?_
        refine A.v0 d6_reads_41 (s6_readsNode c0 c6 hT (by omega) (by omega) (sk_sk hT hb) c2 (by omega) (by omega) (fun h41 ps1 fa1 rd1 A2 e41 g41 b41 d41 r41 y41 n41 o41 f41 => kN ?_)) (hc := c0)
        refine A.goto d6_reads_44 ?_
        by_cases u : (i : Int) < 29 ∧ ndOk T (sk T b) ∧ tc T (sk T (ndAt T (sk T b))) = 59
        · obtain ⟨w1, w2, w3, w4⟩ := y41 u
          rw [w1, w2, w3] at e41
          have hna := ndAt_le (T := T) (p := sk T b) (by omega) (by omega)
          have hl := tc_lt (T := T) (p := sk T (ndAt T (sk T b))) (by omega)
          obtain ⟨j, hj⟩ : ∃ j, 29 - i = j + 1 := ⟨29 - i - 1, by omega⟩
          rw [hj, show ffR T (j + 1) b = _ from (pif_f ht).trans ((pif_t u.2.1).trans (pif_t u.2.2))] at q1 q3
          refine ih (i + 1) (sk T (ndAt T (sk T b)) + 1) _ _ _ (by omega) (by omega) (by omega) e41 g41 (f41.get c6 (by omega) (by omega)) (hF.trans f41) (by rw [q1, show 29 - (i + 1) = j by omega]) (by rw [q3, show 29 - (i + 1) = j by omega, ← List.append_cons]) (by rw [List.length_append, hpl]; rfl) (rowsAre_snoc hR (by rw [hpl]; exact w4) (ndO_len _) (fun j hj2 => o41 j (by omega))) (by omega)
        · have z := n41 u
          have hna := ndAt_le (T := T) (p := sk T b) (by omega) (by omega)
          have hs2 := sk_le (T := T) (ndAt T (sk T b))
          by_cases e29 : i = 29
          · subst e29
            rw [pif_t (by omega)] at z
            exact dead _ _ _ _ _ e41 g41 (by omega) (by rw [q1, z]; exact pif_f ht) (hF.trans f41)
          · obtain ⟨j, hj⟩ : ∃ j, 29 - i = j + 1 := ⟨29 - i - 1, by omega⟩
            rw [pif_f (by omega)] at z
            by_cases u1 : ndOk T (sk T b)
            · rw [pif_t u1] at z
              exact dead _ _ _ _ _ e41 g41 (by omega) (by rw [q1, z, hj]; exact congrArg (fun y => y.1) ((pif_f ht).trans ((pif_t u1).trans (pif_f (fun y => u ⟨by omega, u1, y⟩))) : ffR T (j + 1) b = _)) (hF.trans f41)
            · rw [pif_f u1] at z
              exact dead _ _ _ _ _ e41 g41 (by omega) (by rw [q1, z, hj]; exact congrArg (fun y => y.1) ((pif_f ht).trans (pif_f u1) : ffR T (j + 1) b = _)) (hF.trans f41)
  refine A.al1_0 d6_reads_0 ?_
  refine A.iconst d6_reads_1 ?_
  refine A.putf d6_reads_2 (fun h2 e2 f2 => ?_) (hc := c0) (hk := blt_ok rfl)
  first | (have c0 := (f2.2 _ (by omega)).trans c0) | (have c0 := e2)
  first | (have c2 := (f2.2 _ (by omega)).trans c2) | (have c2 := e2)
  first | (have c6 := (f2.2 _ (by omega)).trans c6) | (have c6 := e2)
  refine A.al1_0 d6_reads_5 ?_
  refine A.bipush d6_reads_6 ?_
  refine A.putf d6_reads_8 (fun h8 e8 f8 => ?_) (hc := c0) (hk := blt_ok rfl)
  first | (have c0 := (f8.2 _ (by omega)).trans c0) | (have c0 := e8)
  first | (have c2 := (f8.2 _ (by omega)).trans c2) | (have c2 := e8)
  first | (have c6 := (f8.2 _ (by omega)).trans c6) | (have c6 := e8)
  refine A.al1_0 d6_reads_11 ?_
  refine A.iconst d6_reads_12 ?_
  refine A.putf d6_reads_13 (fun h13 e13 f13 => ?_) (hc := c0) (hk := blt_ok rfl)
  first | (have c0 := (f13.2 _ (by omega)).trans c0) | (have c0 := e13)
  first | (have c2 := (f13.2 _ (by omega)).trans c2) | (have c2 := e13)
  first | (have c6 := (f13.2 _ (by omega)).trans c6) | (have c6 := e13)
  refine A.al1_0 d6_reads_16 ?_
  refine A.v0 d6_reads_17 (s6_blanks c0 c6 hT (by omega) (by have := hT.1; omega) (fun h17 e17 f17 => kN ?_)) (hc := c0)
  have c0 := e17
  have c2 := f17.get c2 (by omega)
  have c6 := f17.get c6 (by omega)
  exact loop 30 0 0 [] _ _ (by omega) (by omega) (by have := hT.1; omega) c0 c2 c6 ((((Fr2.rfl.trans (f2.two1 (by omega) (by omega))).trans (f8.two1 (by omega) (by omega))).trans (f13.two1 (by omega) (by omega))).trans (f17.two1 (by omega) (by omega))) rfl rfl rfl (fun j hj => absurd hj (Nat.not_lt_zero _)) (by omega)
set_option maxRecDepth 100000 in
set_option maxHeartbeats 4000000 in
theorem s6_fault {d : Nat} {h : AH} {R : RP} {q : Nat} {n rd fi co ah se ps fa fl ch : Int} {hx : Int64} {T : TX} {B0 : Int → Int} (c0 : h.2 q = some (mobj q n rd fi co ah se T.1 ps fa fl ch hx)) (c2 : h.2 (q + 2) = some (kA 0 348 B0)) (c6 : h.2 (q + 6) = some (kA 0 100 T.2)) (hT : txI T) (k : ∀ h' ps' rd' B', h'.2 q = some (mobj q n rd' fi co ah se T.1 ps' ((ffR T 29 0).1) fl ch hx) → h'.2 (q + 2) = some (kA 0 348 B') → ((ffR T 29 0).1 = -11 → rd' = ((ffR T 29 0).2.length : Nat) ∧ rowsAre B' (ffR T 29 0).2) → Fr2 h h' q 1 (q + 2) 1 → R (some (vI (ffR T 29 0).1)) h') : AM m6_fault (d + 6) h [vR q] R := by
  refine AM.of (L := [some (vR q)]) ok_6_fault (by decide) (fun G => Nat.le_of_ble_eq_true rfl) rfl ?_
  refine A.al1_0 d6_fault_0 ?_
  refine A.v0 d6_fault_1 (s6_reads c0 c2 c6 hT (fun h1 ps1 rd1 A1 e1 g1 r1 f1 => kN ?_)) (hc := c0)
  have c0 := e1
  have c2 := g1
  refine A.al1_0 d6_fault_4 ?_
  refine A.getf d6_fault_5 ?_ (hc := c0)
  refine A.iret d6_fault_8 ?_
  exact k _ _ _ _ c0 c2 r1 f1
