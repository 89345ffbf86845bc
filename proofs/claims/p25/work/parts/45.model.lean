/-! ===== the reference: locks, moments ===== -/
/-- a frame of the reference's cells by their places -/
def Fp (h h' : AH) (q : Nat) (l : List Nat) : Prop := h'.1 = h.1 ∧ ∀ x, (∀ k, k ∈ l → x ≠ q + k) → h'.2 x = h.2 x
theorem Fp.rfl {h : AH} {q : Nat} {l : List Nat} : Fp h h q l := ⟨Eq.refl _, fun _ _ => Eq.refl _⟩
theorem Fp.trans {h h1 h2 : AH} {q : Nat} {l : List Nat} (f : Fp h h1 q l) (g : Fp h1 h2 q l) : Fp h h2 q l := ⟨g.1.trans f.1, fun x hx => (g.2 x hx).trans (f.2 x hx)⟩
theorem Fp.get {h h' : AH} {q j : Nat} {l : List Nat} {c : AC} (f : Fp h h' q l) (e : h.2 (q + j) = some c) (hj : l.contains j = false := by decide) : h'.2 (q + j) = some c :=
  (f.2 _ (fun k hk z => by have : k = j := by omega
                           subst this
                           rw [List.contains_iff_mem.2 hk] at hj
                           exact Bool.noConfusion hj)).trans e
theorem Fp.get0 {h h' : AH} {q : Nat} {l : List Nat} {c : AC} (f : Fp h h' q l) (e : h.2 q = some c) (hj : l.contains 0 = false := by decide) : h'.2 q = some c := Fp.get (j := 0) f e hj
theorem Fp.wide {h h' : AH} {q : Nat} {l m : List Nat} (f : Fp h h' q l) (s : (l.all fun k => m.contains k) = true := by decide) : Fp h h' q m := ⟨f.1, fun x hx => f.2 x (fun k hk => hx k (List.contains_iff_mem.1 (List.all_eq_true.1 s k hk)))⟩
theorem Fp.of {h h' : AH} {q j : Nat} {l : List Nat} (f : Fr h h' (q + j) 1) (s : l.contains j = true := by decide) : Fp h h' q l := ⟨f.1, fun x hx => f.2 x (by have := hx j (List.contains_iff_mem.1 s); omega)⟩
theorem Fp.of0 {h h' : AH} {q : Nat} {l : List Nat} (f : Fr h h' q 1) (s : l.contains 0 = true := by decide) : Fp h h' q l := Fp.of (j := 0) f s
theorem Fp.ofs {h h' : AH} {q : Nat} {l : List Nat} (f : Fr2 h h' q 1 (q + 7) 2) (s0 : l.contains 0 = true := by decide) (s7 : l.contains 7 = true := by decide) (s8 : l.contains 8 = true := by decide) : Fp h h' q l := ⟨f.1, fun x hx => by
  have a := hx 0 (List.contains_iff_mem.1 s0)
  have b := hx 7 (List.contains_iff_mem.1 s7)
  have c := hx 8 (List.contains_iff_mem.1 s8)
  exact f.2 x (by omega) (by omega)⟩
theorem Fp.of2 {h h' : AH} {q i j : Nat} {l : List Nat} (f : Fr2 h h' (q + i) 1 (q + j) 1) (s0 : l.contains i = true := by decide) (s7 : l.contains j = true := by decide) : Fp h h' q l := ⟨f.1, fun x hx => by
  have a := hx i (List.contains_iff_mem.1 s0)
  have b := hx j (List.contains_iff_mem.1 s7)
  exact f.2 x (by omega) (by omega)⟩
theorem Fp.fr {h h' : AH} {q : Nat} {l : List Nat} (f : Fp h h' q l) (s : (l.all fun k => k < 16) = true := by decide) : Fr h h' q 16 := ⟨f.1, fun x hx => f.2 x (fun k hk z => by have := List.all_eq_true.1 s k hk; have : k < 16 := of_decide_eq_true this; omega)⟩
/-- a row of the reference holds a moment -/
def rowM (Mo : Int → Int) (p : Int) (m : MO) : Prop := Mo p = m.1 ∧ Mo (p + 1) = m.2.1 ∧ ∀ k : Int, 0 ≤ k → k < 3 → Mo (p + 2 + k) = m.2.2.1 k ∧ Mo (p + 5 + k) = m.2.2.2 k
theorem rowM_congr {Mo Mo' : Int → Int} {p : Int} {m : MO} (h : rowM Mo p m) (e : ∀ j, p ≤ j → j < p + 8 → Mo' j = Mo j) : rowM Mo' p m :=
  ⟨(e _ (by omega) (by omega)).trans h.1, (e _ (by omega) (by omega)).trans h.2.1, fun k h0 h1 => ⟨(e _ (by omega) (by omega)).trans (h.2.2 k h0 h1).1, (e _ (by omega) (by omega)).trans (h.2.2 k h0 h1).2⟩⟩
def moOk (S : SC) (m : MO) : Prop := (0 ≤ m.1 ∧ m.1 ≤ 30) ∧ (0 ≤ m.2.1 ∧ m.2.1 ≤ 63) ∧ cShown S m.1 ∧ ∀ k : Int, 0 ≤ k → k < 3 → m.2.2.1 k = -11 → m.2.2.2 k = -11
theorem scr_ok {S : SC} {m : MO} {fl : Int} {V F : Int → Int} (h : scrR m fl V F) (h0 : 0 ≤ m.1) (h1 : m.1 ≤ 30) (hs : cShown S m.1) : moOk S m := ⟨⟨h0, h1⟩, by rw [h.1]; exact h.2.1, hs, fun k k0 k1 e => by
  obtain ⟨a, b⟩ := h.2.2 k k0 k1
  rw [b, if_pos (by rw [← a]; exact e)]⟩
