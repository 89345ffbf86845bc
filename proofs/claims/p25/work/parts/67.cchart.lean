/-! ===== the class's chart against the chart as functions ===== -/
/-- what the class keeps of a situation that was reached behind a choice (or the beginning) by an option -/
def atS (X : CH) (Cc Lc Lo : FN) (s pa op : Int) : Prop := Cc s = cl X pa ∧ Lc s = (if pa = -11 then -1 else X.2.2.1 pa) ∧ (pa ≠ -11 → Lo s = op)
def cC (X : CH) (re wc : Int) (Cc Lc Lo Wa Es : FN) : Prop := wc = X.2.1 ∧ re = cntN X.1 1984 ∧
  (∀ s : Int, 0 ≤ s → s < 1984 → (X.1 s = 0 ∧ Cc s = -1) ∨ (X.1 s = 1 ∧ 0 ≤ Cc s ∧ Cc s ≤ 1984)) ∧
  (∀ k : Int, 0 ≤ k → k < X.2.1 → Wa k = X.2.2.1 k ∧ atS X Cc Lc Lo (X.2.2.1 k) (X.2.2.2.1 k) (X.2.2.2.2.1 k)) ∧
  (∀ i : Int, 0 ≤ i → i < 12 → (X.2.2.2.2.2.2.1 (3 + edI i) = 0 ∧ Es i = -1) ∨ (X.2.2.2.2.2.2.1 (3 + edI i) = 1 ∧ (0 ≤ Es i ∧ Es i < 1984) ∧ X.1 (Es i) = 1 ∧ atS X Cc Lc Lo (Es i) (X.2.2.2.2.2.2.2.1 (3 + edI i)) (X.2.2.2.2.2.2.2.2 (3 + edI i))))
theorem edI_rng {i : Int} (h0 : 0 ≤ i) (h1 : i < 12) : (0 ≤ 3 + edI i ∧ 3 + edI i < 13) ∧ edI i ≠ -1 ∧ isE (edI i) := by
  unfold edI isE
  (repeat' split) <;> omega
def eIx (v : Int) : Int := if v = -3 then 0 else if v = -2 then 1 else if 0 ≤ v ∧ v ≤ 9 then v + 2 else -1
theorem eIx_ed {i : Int} (h0 : 0 ≤ i) (h1 : i < 12) : eIx (edI i) = i := by
  unfold edI eIx
  (repeat' split) <;> omega
theorem ed_eIx {v : Int} (h : isE v) : edI (eIx v) = v ∧ 0 ≤ eIx v ∧ eIx v < 12 := by
  unfold isE at h
  unfold edI eIx
  (repeat' split) <;> omega
theorem eIx_no {v : Int} (h : ¬ isE v) : eIx v = -1 := by
  unfold isE at h
  unfold eIx
  (repeat' split) <;> omega
theorem atS_off {X : CH} {Cc Lc Lo : FN} {s pa op t a b c : Int} (h : atS X Cc Lc Lo s pa op) (e : s ≠ t) : atS X (fset Cc t a) (fset Lc t b) (fset Lo t c) s pa op := by
  obtain ⟨h1, h2, h3⟩ := h
  exact ⟨(fs_off e).trans h1, (fs_off e).trans h2, fun z => (fs_off e).trans (h3 z)⟩
theorem atS_on {X : CH} {Cc Lc Lo : FN} {s pa op a b c : Int} (h1 : a = cl X pa) (h2 : b = if pa = -11 then -1 else X.2.2.1 pa) (h3 : pa ≠ -11 → c = op) : atS X (fset Cc s a) (fset Lc s b) (fset Lo s c) s pa op :=
  ⟨(fs_at rfl).trans h1, (fs_at rfl).trans h2, fun z => (fs_at rfl).trans (h3 z)⟩
theorem cC_mark {S : SC} {X : CH} {re wc s a b c : Int} {Cc Lc Lo Wa Es : FN} (hX : chI S X) (h : cC X re wc Cc Lc Lo Wa Es) (s0 : 0 ≤ s) (s1 : s < 1984) (hs : X.1 s = 0) (a0 : 0 ≤ a) (a1 : a ≤ 1984) : cC (fset X.1 s 1, X.2) (re + 1) wc (fset Cc s a) (fset Lc s b) (fset Lo s c) Wa Es := by
  obtain ⟨h1, h2, h3, h4, h5⟩ := h
  refine ⟨h1, ?_, fun t t0 t1 => ?_, fun k k0 k1 => ?_, fun i i0 i1 => ?_⟩
  · show re + 1 = cntN (fset X.1 s 1) 1984
    rw [cntN_set s0 hs 1984 s1, h2]
  · show (fset X.1 s 1 t = 0 ∧ fset Cc s a t = -1) ∨ (fset X.1 s 1 t = 1 ∧ 0 ≤ fset Cc s a t ∧ fset Cc s a t ≤ 1984)
    by_cases e : t = s
    · rw [fs_at e, fs_at e]; exact Or.inr ⟨rfl, a0, a1⟩
    · rw [fs_off e, fs_off e]; exact h3 t t0 t1
  · obtain ⟨g1, g2⟩ := h4 k k0 k1
    obtain ⟨-, q, -⟩ := hX.2.2.1 k k0 k1
    exact ⟨g1, atS_off (X := X) g2 (fun z => by rw [z, hs] at q; omega)⟩
  · rcases h5 i i0 i1 with g | ⟨g1, g2, g3, g4⟩
    · exact Or.inl g
    · exact Or.inr ⟨g1, g2, seen_mono g3, atS_off (X := X) g4 (fun z => by rw [z, hs] at g3; omega)⟩
theorem cl_push {S : SC} {X : CH} {nd fl pa op k : Int} (hk : cSK S nd = 1) (h : k = -11 ∨ (0 ≤ k ∧ k < X.2.1)) : cl (mk S X nd fl pa op) k = cl X k := by
  rw [mk1 hk]
  show (if k = -11 then 0 else fset _ X.2.1 _ k + 1) = if k = -11 then 0 else _
  rcases h with z | z
  · rw [if_pos z, if_pos z]
  · rw [fs_off (by omega)]
theorem atS_push {S : SC} {X : CH} {nd fl pa op s k o : Int} {Cc Lc Lo : FN} (hk : cSK S nd = 1) (h : atS X Cc Lc Lo s k o) (hr : k = -11 ∨ (0 ≤ k ∧ k < X.2.1)) : atS (mk S X nd fl pa op) Cc Lc Lo s k o := by
  obtain ⟨h1, h2, h3⟩ := h
  refine ⟨by rw [cl_push hk hr]; exact h1, ?_, h3⟩
  rw [h2, mk1 hk]
  show (if k = -11 then -1 else X.2.2.1 k) = if k = -11 then -1 else fset _ _ _ k
  rcases hr with z | z
  · rw [if_pos z, if_pos z]
  · rw [fs_off (by omega)]
theorem cC_push {S : SC} {X : CH} {nd fl pa op re wc : Int} {Cc Lc Lo Wa Es : FN} (hX : chI S X) (h : cC (fset X.1 (sit nd fl) 1, X.2) re wc Cc Lc Lo Wa Es) (hk : cSK S nd = 1) (ha : atS X Cc Lc Lo (sit nd fl) pa op) (hp : pa = -11 ∨ (0 ≤ pa ∧ pa < X.2.1)) : cC (mk S X nd fl pa op) re (wc + 1) Cc Lc Lo (fset Wa wc (sit nd fl)) Es := by
  obtain ⟨h1, h2, h3, h4, h5⟩ := h
  have h1 : wc = X.2.1 := h1
  have hn := hX.1.1
  refine ⟨by rw [mk1 hk, h1], by rw [mk_R]; exact h2, fun t t0 t1 => by rw [mk_R]; exact h3 t t0 t1, fun k k0 k1 => ?_, fun i i0 i1 => ?_⟩
  · have k1 : k < X.2.1 + 1 := by rw [mk1 hk] at k1; exact k1
    by_cases e : k = X.2.1
    · have e1 : (mk S X nd fl pa op).2.2.1 k = sit nd fl := by rw [mk1 hk]; exact fs_at e
      have e2 : (mk S X nd fl pa op).2.2.2.1 k = pa := by rw [mk1 hk]; exact fs_at e
      have e3 : (mk S X nd fl pa op).2.2.2.2.1 k = op := by rw [mk1 hk]; exact fs_at e
      rw [e1, e2, e3]
      exact ⟨fs_at (e.trans h1.symm), atS_push hk ha hp⟩
    · obtain ⟨g1, g2⟩ := h4 k k0 (by show k < X.2.1; omega)
      have e1 : (mk S X nd fl pa op).2.2.1 k = X.2.2.1 k := by rw [mk1 hk]; exact fs_off e
      have e2 : (mk S X nd fl pa op).2.2.2.1 k = X.2.2.2.1 k := by rw [mk1 hk]; exact fs_off e
      have e3 : (mk S X nd fl pa op).2.2.2.2.1 k = X.2.2.2.2.1 k := by rw [mk1 hk]; exact fs_off e
      obtain ⟨-, -, -, q4, -⟩ := hX.2.2.1 k k0 (by omega)
      rw [e1, e2, e3]
      exact ⟨(fs_off (by omega)).trans g1, atS_push hk g2 (q4.elim Or.inl (fun z => Or.inr ⟨z.1, by omega⟩))⟩
  · have e4 : (mk S X nd fl pa op).2.2.2.2.2.2 = X.2.2.2.2.2.2 := by rw [mk1 hk]
    obtain ⟨r1, -, -⟩ := edI_rng i0 i1
    obtain ⟨-, d2⟩ := hX.2.2.2 (3 + edI i) r1.1 r1.2
    rw [e4]
    rcases h5 i i0 i1 with g | ⟨g1, g2, g3, g4⟩
    · exact Or.inl g
    · exact Or.inr ⟨g1, g2, by rw [mk_R]; exact g3, atS_push hk g4 (d2 g1)⟩
theorem cC_end {S : SC} {X : CH} {nd fl pa op re wc i : Int} {Cc Lc Lo Wa Es : FN} (h : cC (fset X.1 (sit nd fl) 1, X.2) re wc Cc Lc Lo Wa Es) (hk : cSK S nd = 2) (hz : X.2.2.2.2.2.2.1 (3 + cSN S nd) = 0) (hi : edI i = cSN S nd) (s0 : 0 ≤ sit nd fl ∧ sit nd fl < 1984) (i0 : 0 ≤ i) (i1 : i < 12) (ha : atS X Cc Lc Lo (sit nd fl) pa op) : cC (mk S X nd fl pa op) re wc Cc Lc Lo Wa (fset Es i (sit nd fl)) := by
  obtain ⟨h1, h2, h3, h4, h5⟩ := h
  refine ⟨by rw [mk2 hk hz]; exact h1, by rw [mk_R]; exact h2, fun t t0 t1 => by rw [mk_R]; exact h3 t t0 t1, fun k k0 k1 => ?_, fun j j0 j1 => ?_⟩
  · rw [mk2 hk hz] at k1 ⊢
    exact h4 k k0 k1
  · rw [mk2 hk hz]
    show (fset _ (3 + cSN S nd) 1 (3 + edI j) = 0 ∧ _) ∨ (fset _ (3 + cSN S nd) 1 (3 + edI j) = 1 ∧ (0 ≤ fset Es i _ j ∧ fset Es i _ j < 1984) ∧ fset X.1 _ 1 (fset Es i _ j) = 1 ∧ atS X Cc Lc Lo (fset Es i _ j) (fset _ (3 + cSN S nd) pa (3 + edI j)) (fset _ (3 + cSN S nd) op (3 + edI j)))
    by_cases e : j = i
    · subst e
      rw [fs_at (by rw [hi]), fs_at (f := Es) rfl, fs_at (f := X.2.2.2.2.2.2.2.1) (by rw [hi]), fs_at (f := X.2.2.2.2.2.2.2.2) (by rw [hi])]
      exact Or.inr ⟨rfl, s0, fs_at rfl, ha⟩
    · have ne : 3 + edI j ≠ 3 + cSN S nd := fun z => e (by rw [← eIx_ed j0 j1, ← eIx_ed i0 i1, hi]; congr 1; omega)
      rw [fs_off ne, fs_off (f := Es) e, fs_off (f := X.2.2.2.2.2.2.2.1) ne, fs_off (f := X.2.2.2.2.2.2.2.2) ne]
      exact h5 j j0 j1
theorem cC_0 {S : SC} {Cc Lc Lo Wa Es : FN} (h : ∀ s : Int, 0 ≤ s → s < 1984 → Cc s = -1) (g : ∀ i : Int, 0 ≤ i → i < 12 → Es i = -1) : cC (z0, 0, z0, z0, z0, z0, z0, z0, z0) 0 0 Cc Lc Lo Wa Es :=
  ⟨rfl, (cntN_z0 1984).symm, fun s s0 s1 => Or.inl ⟨rfl, h s s0 s1⟩, fun k k0 k1 => by
    have k1 : k < 0 := k1
    omega, fun i i0 i1 => Or.inl ⟨rfl, g i i0 i1⟩⟩
theorem cntN_ed {f : FN} (h : f 2 = 0) : ∀ n : Nat, cntN f (n + 3) = cntN (fun i => f (3 + edI i)) (n + 2) := by
  intro n
  induction n with
  | zero =>
    show (if f (2 : Nat) = 0 then (if f (1 : Nat) = 0 then (if f (0 : Nat) = 0 then (0 : Int) else 0 + 1) else (if f (0 : Nat) = 0 then 0 else 0 + 1) + 1) else _) = (if f (3 + edI (1 : Nat)) = 0 then (if f (3 + edI (0 : Nat)) = 0 then (0 : Int) else 0 + 1) else (if f (3 + edI (0 : Nat)) = 0 then 0 else 0 + 1) + 1)
    rw [show 3 + edI ((1 : Nat) : Int) = ((1 : Nat) : Int) by decide, show 3 + edI ((0 : Nat) : Int) = ((0 : Nat) : Int) by decide]
    exact if_pos h
  | succ n ih =>
    show (if f ((n + 3 : Nat) : Int) = 0 then cntN f (n + 3) else cntN f (n + 3) + 1) = (if f (3 + edI ((n + 2 : Nat) : Int)) = 0 then cntN (fun i => f (3 + edI i)) (n + 2) else cntN (fun i => f (3 + edI i)) (n + 2) + 1)
    rw [ih, show 3 + edI ((n + 2 : Nat) : Int) = ((n + 3 : Nat) : Int) by unfold edI; rw [if_neg (by omega), if_neg (by omega)]; omega]
