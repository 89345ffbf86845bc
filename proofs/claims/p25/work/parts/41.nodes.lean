/-! ===== a list of nodes: in the class's rows, in the reference's row ===== -/
def nodeIs (S : SC) (v : Int) (nd : ND) : Prop := S.2.1 v = nd.1 ∧ S.2.2.1 v = (nd.2.1.length : Nat) ∧ (∀ i : Nat, i < nd.2.1.length → S.2.2.2.1 (v * 3 + i) = nd.2.1.getD i (-11)) ∧ S.2.2.2.2.1 v = (nd.2.2.length : Nat) ∧ (∀ o : Nat, o < nd.2.2.length → S.2.2.2.2.2 ((v * 4 + o) * 3 + 0) = (nd.2.2.getD o (0, 0, 0)).1 ∧ S.2.2.2.2.2 ((v * 4 + o) * 3 + 1) = (nd.2.2.getD o (0, 0, 0)).2.1 ∧ S.2.2.2.2.2 ((v * 4 + o) * 3 + 2) = (nd.2.2.getD o (0, 0, 0)).2.2)
def small (nd : ND) : Prop := nd.2.1.length ≤ 3 ∧ nd.2.2.length ≤ 4
def nodesAre (S : SC) (l : List ND) : Prop := S.1 = (l.length : Nat) ∧ ∀ j : Nat, j < l.length → nodeIs S j (l.getD j nd0) ∧ small (l.getD j nd0)
def partIs (S : SC) (l : List ND) (nd : ND) : Prop := S.1 = (l.length : Nat) + 1 ∧ (∀ j : Nat, j < l.length → nodeIs S j (l.getD j nd0) ∧ small (l.getD j nd0)) ∧ nodeIs S (l.length : Nat) nd
theorem getD_snoc {α : Type} (l : List α) (x z : α) (j : Nat) : (l ++ [x]).getD j z = if j < l.length then l.getD j z else if j = l.length then x else z := by
  by_cases c : j < l.length
  · rw [if_pos c]; simp [List.getD_eq_getElem?_getD, List.getElem?_append_left c]
  · rw [if_neg c]
    by_cases e : j = l.length
    · rw [if_pos e]; subst e; simp [List.getD_eq_getElem?_getD]
    · rw [if_neg e]
      have : (l ++ [x]).length ≤ j := by rw [List.length_append, List.length_singleton]; omega
      simp [List.getD_eq_getElem?_getD, List.getElem?_eq_none this]
theorem getD_lt {α : Type} {l : List α} {x z : α} {j : Nat} (h : j < l.length) : (l ++ [x]).getD j z = l.getD j z := by rw [getD_snoc, if_pos h]
theorem getD_at {α : Type} {l : List α} {x z : α} : (l ++ [x]).getD l.length z = x := by rw [getD_snoc, if_neg (Nat.lt_irrefl _), if_pos rfl]
theorem pt_node {S : SC} {l : List ND} {k : Int} (h : nodesAre S l) (hl : l.length < 29) : partIs (cAddNode S k) l (k, [], []) := by
  obtain ⟨h0, h1⟩ := h
  have e : cAddNode S k = _ := if_pos (by omega)
  rw [e]
  refine ⟨by show S.1 + 1 = _; omega, fun j hj => ?_, ?_⟩
  · obtain ⟨⟨a, b, c, d, f⟩, g⟩ := h1 j hj
    exact ⟨⟨(fs_off (by omega)).trans a, (fs_off (by omega)).trans b, c, (fs_off (by omega)).trans d, f⟩, g⟩
  · exact ⟨fs_at h0.symm, fs_at h0.symm, fun i hi => absurd hi (Nat.not_lt_zero _), fs_at h0.symm, fun o ho => absurd ho (Nat.not_lt_zero _)⟩
theorem pt_num {S : SC} {l : List ND} {k v : Int} {ns : List Int} {os : List (Int × Int × Int)} (h : partIs S l (k, ns, os)) (hl : l.length < 29) (hn : ns.length < 3) : partIs (cAddNum S v) l (k, ns ++ [v], os) := by
  obtain ⟨h0, h1, a, b, c, d, f⟩ := h
  have hi : S.1 - 1 = (l.length : Nat) := by omega
  have b' : S.2.2.1 (S.1 - 1) = (ns.length : Nat) := by rw [hi]; exact b
  have e : cAddNum S v = _ := if_pos ⟨by omega, by rw [b']; omega⟩
  rw [e, b']
  refine ⟨h0, fun j hj => ?_, a, ?_, fun i hlt => ?_, d, f⟩
  · obtain ⟨⟨a, b, c, d, f⟩, g⟩ := h1 j hj
    have g1 := g.1
    exact ⟨⟨a, (fs_off (by omega)).trans b, fun i hlt => (fs_off (by omega)).trans (c i hlt), d, f⟩, g⟩
  · refine (fs_at hi.symm).trans ?_
    show _ = (((ns ++ [v]).length : Nat) : Int)
    rw [List.length_append, List.length_singleton]; rfl
  · have hlt : i < ns.length + 1 := by have q := hlt; rwa [List.length_append, List.length_singleton] at q
    show fset _ _ _ _ = (ns ++ [v]).getD i (-11)
    by_cases q : i < ns.length
    · rw [getD_lt q]; exact (fs_off (by omega)).trans (c i q)
    · have q' : i = ns.length := by omega
      subst q'
      rw [getD_at]; exact fs_at (by omega)
theorem pt_opt {S : SC} {l : List ND} {k t w g : Int} {ns : List Int} {os : List (Int × Int × Int)} (h : partIs S l (k, ns, os)) (hl : l.length < 29) (hn : os.length < 4) : partIs (cAddOpt S t w g) l (k, ns, os ++ [(t, w, g)]) := by
  obtain ⟨h0, h1, a, b, c, d, f⟩ := h
  have hi : S.1 - 1 = (l.length : Nat) := by omega
  have d' : S.2.2.2.2.1 (S.1 - 1) = (os.length : Nat) := by rw [hi]; exact d
  have e : cAddOpt S t w g = _ := if_pos ⟨by omega, by rw [d']; omega⟩
  rw [e, d']
  refine ⟨h0, fun j hj => ?_, a, b, c, ?_, fun i hlt => ?_⟩
  · obtain ⟨⟨a, b, c, d, f⟩, g⟩ := h1 j hj
    have g1 := g.2
    refine ⟨⟨a, b, c, (fs_off (by omega)).trans d, fun o ho => ?_⟩, g⟩
    obtain ⟨f1, f2, f3⟩ := f o ho
    exact ⟨(fs_off (by omega)).trans ((fs_off (by omega)).trans ((fs_off (by omega)).trans f1)), (fs_off (by omega)).trans ((fs_off (by omega)).trans ((fs_off (by omega)).trans f2)), (fs_off (by omega)).trans ((fs_off (by omega)).trans ((fs_off (by omega)).trans f3))⟩
  · refine (fs_at hi.symm).trans ?_
    show _ = (((os ++ [(t, w, g)]).length : Nat) : Int)
    rw [List.length_append, List.length_singleton]; rfl
  · have hlt : i < os.length + 1 := by have q := hlt; rwa [List.length_append, List.length_singleton] at q
    show fset _ _ _ _ = ((os ++ [(t, w, g)]).getD i (0, 0, 0)).1 ∧ fset _ _ _ _ = ((os ++ [(t, w, g)]).getD i (0, 0, 0)).2.1 ∧ fset _ _ _ _ = ((os ++ [(t, w, g)]).getD i (0, 0, 0)).2.2
    by_cases q : i < os.length
    · rw [getD_lt q]
      obtain ⟨f1, f2, f3⟩ := f i q
      exact ⟨(fs_off (by omega)).trans ((fs_off (by omega)).trans ((fs_off (by omega)).trans f1)), (fs_off (by omega)).trans ((fs_off (by omega)).trans ((fs_off (by omega)).trans f2)), (fs_off (by omega)).trans ((fs_off (by omega)).trans ((fs_off (by omega)).trans f3))⟩
    · have q' : i = os.length := by omega
      subst q'
      rw [getD_at]
      exact ⟨(fs_off (by omega)).trans ((fs_off (by omega)).trans (fs_at (by omega))), (fs_off (by omega)).trans (fs_at (by omega)), fs_at (by omega)⟩
theorem pt_nums {l : List ND} {k : Int} {os : List (Int × Int × Int)} (hl : l.length < 29) : ∀ (ms : List Int) {S : SC} {ns : List Int}, partIs S l (k, ns, os) → ns.length + ms.length ≤ 3 → partIs (ms.foldl cAddNum S) l (k, ns ++ ms, os) := by
  intro ms
  induction ms with
  | nil => intro S ns h _; rw [List.append_nil]; exact h
  | cons m ms ih =>
    intro S ns h hn
    have hn : ns.length + (ms.length + 1) ≤ 3 := hn
    rw [List.append_cons]
    exact ih (pt_num h hl (by omega)) (by rw [List.length_append, List.length_singleton]; omega)
theorem pt_os {l : List ND} {k : Int} {ns : List Int} (hl : l.length < 29) : ∀ (ms : List (Int × Int × Int)) {S : SC} {os : List (Int × Int × Int)}, partIs S l (k, ns, os) → os.length + ms.length ≤ 4 → partIs (addOs S ms) l (k, ns, os ++ ms) := by
  intro ms
  induction ms with
  | nil => intro S os h _; rw [List.append_nil]; exact h
  | cons m ms ih =>
    intro S os h hn
    have hn : os.length + (ms.length + 1) ≤ 4 := hn
    rw [List.append_cons]
    exact ih (pt_opt h hl (by omega)) (by rw [List.length_append, List.length_singleton]; omega)
theorem nodes_snoc {S : SC} {l : List ND} {nd : ND} (h : nodesAre S l) (hl : l.length < 29) (hs : small nd) : nodesAre (addNd S nd.1 nd.2.1 nd.2.2) (l ++ [nd]) := by
  have h1 := pt_os hl nd.2.2 (pt_nums hl nd.2.1 (pt_node (k := nd.1) h hl) (by have := hs.1; simpa using this)) (by have := hs.2; simpa using this)
  rw [List.nil_append, List.nil_append] at h1
  obtain ⟨a, b, c⟩ := h1
  refine ⟨by rw [List.length_append, List.length_singleton]; exact a, fun j hj => ?_⟩
  rw [List.length_append, List.length_singleton] at hj
  by_cases q : j < l.length
  · rw [getD_lt q]; exact b j q
  · have q' : j = l.length := by omega
    subst q'
    rw [getD_at]; exact ⟨c, hs⟩
theorem nodes_all : ∀ (m : List ND) {S : SC} {l : List ND}, nodesAre S l → l.length + m.length ≤ 29 → (∀ nd, nd ∈ m → small nd) → nodesAre (addAll S m) (l ++ m) := by
  intro m
  induction m with
  | nil => intro S l h _ _; rw [List.append_nil]; exact h
  | cons nd m ih =>
    intro S l h hl hs
    have hl : l.length + (m.length + 1) ≤ 29 := hl
    rw [List.append_cons]
    exact ih (nodes_snoc h (by omega) (hs nd (List.mem_cons_self ..))) (by rw [List.length_append, List.length_singleton]; omega) (fun x hx => hs x (List.mem_cons_of_mem _ hx))
/-- what the grammar lets a node be -/
def osFit (os : List (Int × Int × Int)) : Prop := os.length ≤ 4 ∧ ∀ o : Nat, o < os.length → (0 ≤ (os.getD o (0, 0, 0)).1 ∧ (os.getD o (0, 0, 0)).1 ≤ 29) ∧ (((os.getD o (0, 0, 0)).2.1 = 0 ∧ (os.getD o (0, 0, 0)).2.2 = -11) ∨ (((os.getD o (0, 0, 0)).2.1 = 1 ∨ (os.getD o (0, 0, 0)).2.1 = 2) ∧ 0 ≤ (os.getD o (0, 0, 0)).2.2 ∧ (os.getD o (0, 0, 0)).2.2 ≤ 5))
def ndFit (nd : ND) : Prop :=
  (∃ a b, nd = (0, [a, b], []) ∧ (0 ≤ a ∧ a ≤ 5) ∧ 0 ≤ b ∧ b ≤ 99) ∨ (∃ a b c, nd = (1, [a, b, c], []) ∧ (0 ≤ a ∧ a ≤ 5) ∧ (0 ≤ b ∧ b ≤ 2) ∧ 0 ≤ c ∧ c ≤ 4) ∨ (∃ a, nd = (2, [a], []) ∧ 0 ≤ a ∧ a ≤ 5) ∨ (∃ a b, nd = (3, [a, b], []) ∧ (0 ≤ a ∧ a ≤ 5) ∧ 0 ≤ b ∧ b ≤ 1)
  ∨ (∃ a, nd = (4, [a], []) ∧ 0 ≤ a ∧ a ≤ 29) ∨ (∃ a b, nd = (5, [a, b], []) ∧ (0 ≤ a ∧ a ≤ 5) ∧ 0 ≤ b ∧ b ≤ 29) ∨ (∃ os, nd = (6, [], os) ∧ osFit os) ∨ (∃ a, nd = (7, [a], []) ∧ 0 ≤ a ∧ a ≤ 9)
theorem ndFit_small {nd : ND} (h : ndFit nd) : small nd := by
  rcases h with ⟨a, b, rfl, _⟩ | ⟨a, b, c, rfl, _⟩ | ⟨a, rfl, _⟩ | ⟨a, b, rfl, _⟩ | ⟨a, rfl, _⟩ | ⟨a, b, rfl, _⟩ | ⟨os, rfl, h, _⟩ | ⟨a, rfl, _⟩ <;> first | exact ⟨Nat.zero_le _, h⟩ | exact ⟨by decide, by decide⟩ | exact ⟨Nat.le_of_ble_eq_true rfl, Nat.le_of_ble_eq_true rfl⟩
theorem nmV_rng {T : TX} {m p : Int} (h : nmOk T m p) : 0 ≤ nmV T p ∧ nmV T p ≤ m := by
  obtain ⟨⟨h1, h2⟩, -⟩ := h
  refine ⟨?_, h2⟩
  unfold isd at h1
  by_cases u : isd T (p + 1)
  · rw [show nmV T p = _ from pif_t u]; unfold isd at u; omega
  · rw [show nmV T p = _ from pif_f u]; omega
theorem osR_fit {T : TX} : ∀ (n : Nat) (a : Int), n ≤ 4 → osFit (osR T n a).2.2 := by
  intro n
  induction n with
  | zero => intro a _; exact ⟨Nat.zero_le _, fun o ho => absurd ho (Nat.not_lt_zero _)⟩
  | succ n ih =>
    intro a hn
    refine ⟨Nat.le_trans (osR_len _ _) hn, ?_⟩
    by_cases u : opOk T (sk T a)
    · have hv := nmV_rng u.1
      have ho : (0 ≤ (opV T (sk T a)).1 ∧ (opV T (sk T a)).1 ≤ 29) ∧ (((opV T (sk T a)).2.1 = 0 ∧ (opV T (sk T a)).2.2 = -11) ∨ (((opV T (sk T a)).2.1 = 1 ∨ (opV T (sk T a)).2.1 = 2) ∧ 0 ≤ (opV T (sk T a)).2.2 ∧ (opV T (sk T a)).2.2 ≤ 5)) := by
        by_cases w : opL T (sk T a)
        · rw [show opV T (sk T a) = _ from pif_t w]
          have hd := (u.2 w).1
          refine ⟨hv, Or.inr ⟨?_, ?_⟩⟩
          · show (if _ then (1 : Int) else 2) = 1 ∨ (if _ then (1 : Int) else 2) = 2
            split <;> omega
          · show 0 ≤ tc T (opD T (sk T a)) - 48 ∧ tc T (opD T (sk T a)) - 48 ≤ 5
            omega
        · rw [show opV T (sk T a) = _ from pif_f w]
          exact ⟨hv, Or.inl ⟨rfl, rfl⟩⟩
      by_cases v : tc T (sk T (opAt T (sk T a))) = 44
      · rw [show osR T (n + 1) a = _ from (pif_t u).trans (pif_t v)]
        intro o ho2
        cases o with
        | zero => exact ho
        | succ o => exact (ih _ (by omega)).2 o (Nat.lt_of_succ_lt_succ ho2)
      · rw [show osR T (n + 1) a = _ from (pif_t u).trans (pif_f v)]
        intro o ho2
        cases o with
        | zero => exact ho
        | succ o => exact absurd (Nat.lt_of_succ_lt_succ ho2) (Nat.not_lt_zero _)
    · rw [show osR T (n + 1) a = _ from pif_f u]
      exact fun o ho => absurd ho (Nat.not_lt_zero _)
theorem nd_fit {T : TX} {p : Int} (h : ndOk T p) : ndFit (kIdx (tc T p), ndN T p, ndO T p) := by
  have hk := kIdx_rng (tc T p)
  rcases (by omega : kIdx (tc T p) = -1 ∨ kIdx (tc T p) = 0 ∨ kIdx (tc T p) = 1 ∨ kIdx (tc T p) = 2 ∨ kIdx (tc T p) = 3 ∨ kIdx (tc T p) = 4 ∨ kIdx (tc T p) = 5 ∨ kIdx (tc T p) = 6 ∨ kIdx (tc T p) = 7) with k | k | k | k | k | k | k | k | k
  · exact absurd h (by rw [(nd_no k).1]; exact fun z => z)
  · obtain ⟨e1, -, e3, e4⟩ := nd_k0 k
    rw [e1] at h; rw [k, e3, e4]
    have h1 := h.1; have h2 := nmV_rng h.2; unfold vcOk at h1
    exact Or.inl ⟨_, _, rfl, by omega, h2⟩
  · obtain ⟨e1, -, e3, e4⟩ := nd_k1 k
    rw [e1] at h; rw [k, e3, e4]
    have h1 := h.1; have h2 := h.2.1.1; have h3 := h.2.2.1; unfold vcOk at h1
    exact Or.inr (Or.inl ⟨_, _, _, rfl, by omega, by omega, by omega⟩)
  · obtain ⟨e1, -, e3, e4⟩ := nd_k2 k
    rw [e1] at h; rw [k, e3, e4]
    unfold vcOk at h
    exact Or.inr (Or.inr (Or.inl ⟨_, rfl, by omega⟩))
  · obtain ⟨e1, -, e3, e4⟩ := nd_k3 k
    rw [e1] at h; rw [k, e3, e4]
    have h1 := h.1.1
    exact Or.inr (Or.inr (Or.inr (Or.inl ⟨_, _, rfl, by omega, by split <;> omega⟩)))
  · obtain ⟨e1, -, e3, e4⟩ := nd_k4 k
    rw [e1] at h; rw [k, e3, e4]
    exact Or.inr (Or.inr (Or.inr (Or.inr (Or.inl ⟨_, rfl, nmV_rng h⟩))))
  · obtain ⟨e1, -, e3, e4⟩ := nd_k5 k
    rw [e1] at h; rw [k, e3, e4]
    have h1 := h.1.1
    exact Or.inr (Or.inr (Or.inr (Or.inr (Or.inr (Or.inl ⟨_, _, rfl, by omega, nmV_rng h.2⟩)))))
  · obtain ⟨e1, -, e3, e4⟩ := nd_k6 k
    rw [k, e3, e4]
    exact Or.inr (Or.inr (Or.inr (Or.inr (Or.inr (Or.inr (Or.inl ⟨_, rfl, osR_fit 4 _ (Nat.le_refl _)⟩))))))
  · obtain ⟨e1, -, e3, e4⟩ := nd_k7 k
    rw [e1] at h; rw [k, e3, e4]
    have h1 := h.1
    exact Or.inr (Or.inr (Or.inr (Or.inr (Or.inr (Or.inr (Or.inr ⟨_, rfl, by omega⟩))))))
theorem ffR_fit {T : TX} : ∀ (n : Nat) (a : Int), (ffR T n a).2.length ≤ n ∧ ∀ nd, nd ∈ (ffR T n a).2 → ndFit nd := by
  intro n
  induction n with
  | zero => intro a; exact ⟨Nat.le_refl _, fun nd h => absurd h (List.not_mem_nil)⟩
  | succ n ih =>
    intro a
    have nil : ∀ x : Int, ((x, []) : Int × List ND).2.length ≤ n + 1 ∧ ∀ nd, nd ∈ ((x, []) : Int × List ND).2 → ndFit nd := fun x => ⟨Nat.zero_le _, fun nd h => absurd h (List.not_mem_nil)⟩
    by_cases t : tc T (sk T a) = -1
    · rw [show ffR T (n + 1) a = _ from pif_t t]; exact nil _
    · by_cases u : ndOk T (sk T a)
      · by_cases v : tc T (sk T (ndAt T (sk T a))) = 59
        · rw [show ffR T (n + 1) a = _ from (pif_f t).trans ((pif_t u).trans (pif_t v))]
          obtain ⟨i1, i2⟩ := ih (sk T (ndAt T (sk T a)) + 1)
          refine ⟨Nat.succ_le_succ i1, fun nd h => ?_⟩
          rcases List.mem_cons.1 h with e | e
          · rw [e]; exact nd_fit u
          · exact i2 nd e
        · rw [show ffR T (n + 1) a = _ from (pif_f t).trans ((pif_t u).trans (pif_f v))]; exact nil _
      · rw [show ffR T (n + 1) a = _ from (pif_f t).trans (pif_f u)]; exact nil _
