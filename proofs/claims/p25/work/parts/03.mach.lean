/-! ===== THE ABSTRACT MACHINE: values, cells, heaps; what a frame of it says of the machine ===== -/
def tG : List Cond := lw_tbl.filter goodWord
theorem tG_of {w : Cond} (h : w ∈ lw_tbl) (g : goodWord w = true) : w ∈ tG := List.mem_filter.mpr ⟨h, g⟩
theorem tG_t {w : Cond} (h : w ∈ tables_1) (g : goodWord w = true) : w ∈ tG := tG_of (List.mem_append_right _ h) g
theorem tG_good {w : Cond} (h : w ∈ tG) : (w.onTables && w.keeps) = true ∨ ∃ ty, w = .arrayClass ty := good_of_word (List.mem_filter.mp h).2
/-- a value: an int, a reference (or null), a long, the constant of the letters (true) or the script (false) -/
abbrev AV : Type := Int ⊕ (Option Nat ⊕ (Int64 ⊕ Bool))
abbrev vI (z : Int) : AV := Sum.inl z
abbrev vQ (r : Option Nat) : AV := Sum.inr (Sum.inl r)
abbrev vR (a : Nat) : AV := Sum.inr (Sum.inl (some a))
abbrev vN : AV := Sum.inr (Sum.inl none)
abbrev vL (x : Int64) : AV := Sum.inr (Sum.inr (Sum.inl x))
abbrev vS : AV := Sum.inr (Sum.inr (Sum.inr true))
abbrev vX : AV := Sum.inr (Sum.inr (Sum.inr false))
/-- a cell: an object (its class's place, its fields); an array of ints, bytes, booleans (0, 1, 2); an array of references -/
abbrev AC : Type := (Nat × List AV) ⊕ ((Nat × Nat × (Int → Int)) ⊕ (Nat × (Int → Option Nat)))
abbrev kO (ci : Nat) (fs : List AV) : AC := Sum.inl (ci, fs)
abbrev kA (ty n : Nat) (f : Int → Int) : AC := Sum.inr (Sum.inl (ty, n, f))
abbrev kQ (n : Nat) (g : Int → Option Nat) : AC := Sum.inr (Sum.inr (n, g))
/-- a heap: its size, the script's length and ints; its cells -/
abbrev AH : Type := (Nat × Nat × (Int → Int)) × (Nat → Option AC)
def hput (h : AH) (a : Nat) (c : AC) : AH := (h.1, fun q => if q = a then some c else h.2 q)
def Fr (h h' : AH) (a n : Nat) : Prop := h'.1 = h.1 ∧ ∀ q, ¬ (a ≤ q ∧ q < a + n) → h'.2 q = h.2 q
def fset (f : Int → Int) (i v : Int) : Int → Int := fun j => if j = i then v else f j
def gset (f : Int → Option Nat) (i : Int) (v : Option Nat) : Int → Option Nat := fun j => if j = i then v else f j
/-- what is the same all through: the classes; the four array classes; where the world begins; the letters, their bytes, the script -/
abbrev GD : Type := va_G × (ClassId × ClassId × ClassId × ClassId) × (Nat × Nat × Nat × Nat)
def gB (G : GD) : Nat := G.2.2.1
def gS (G : GD) : Nat := G.2.2.2.1
def gV (G : GD) : Nat := G.2.2.2.2.1
def gX (G : GD) : Nat := G.2.2.2.2.2
def gA (G : GD) : Nat → Prop := fun q => gB G ≤ q
def gC (G : GD) (ty : Nat) : ClassId := match ty with
  | 0 => G.2.1.1
  | 1 => G.2.1.2.1
  | _ => G.2.1.2.2.1
def gQ (G : GD) : ClassId := G.2.1.2.2.2
def tyF (ty : Nat) : FieldType := match ty with
  | 0 => .int
  | 1 => .byte
  | _ => .boolean
def gT (G : GD) : List (ClassId × FieldType) := [(gC G 0, .int), (gC G 1, .byte), (gC G 2, .boolean), (gQ G, .object RX1)]
def cv (G : GD) (v : AV) : Value := match v with
  | .inl z => .int (Int32.ofInt z)
  | .inr (.inl r) => va_rf r
  | .inr (.inr (.inl x)) => .long x
  | .inr (.inr (.inr b)) => .ref (if b = true then gS G else gX G)
def isL (v : AV) : Bool := match v with
  | .inr (.inr (.inl _)) => true
  | _ => false
def vin (ty : Nat) (z : Int) : Prop := match ty with
  | 0 => -2147483648 ≤ z ∧ z ≤ 2147483647
  | 1 => -128 ≤ z ∧ z ≤ 127
  | _ => 0 ≤ z ∧ z ≤ 1
def vok (v : AV) : Prop := match v with
  | .inl z => -2147483648 ≤ z ∧ z ≤ 2147483647
  | _ => True
def enc (G : GD) (c : AC) : va_E := match c with
  | .inl (ci, fs) => .inr (ci, fs.map (cv G))
  | .inr (.inl (ty, n, f)) => .inl (gC G ty, n, .inl (fun j => Int32.ofInt (f j)))
  | .inr (.inr (n, g)) => .inl (gQ G, n, .inr (.inr (.inr (.inr (fun j => g j)))))
def cok (c : AC) : Prop := match c with
  | .inl (_, fs) => ∀ v ∈ fs, vok v
  | .inr (.inl (ty, n, f)) => n ≤ 2147483647 ∧ ∀ i : Nat, i < n → vin ty (f i)
  | .inr (.inr (n, _)) => n ≤ 2147483647
def klB : List Int32 := [115, 112, 104, 102, 106, 116, 99, 101]
/-- the heap is as the abstract one says -/
def HR (G : GD) (h : AH) (U : State) (H : Heap) : Prop :=
  (H.size = h.1.1 ∧ gB G ≤ H.size) ∧ (∀ (a : Nat) (c : AC), h.2 a = some c → va_at G.1 vwCl (a, enc G c) H ∧ cok c ∧ gB G ≤ a) ∧
  (va_X (gX G) h.1.2.1 (fun j => Int32.ofInt (h.1.2.2 j)) U H ∧ gX G < gB G ∧ h.1.2.1 ≤ 2147483647 ∧ ∀ j : Nat, j < h.1.2.1 → vin 0 (h.1.2.2 j)) ∧
  (vk_S 1 [8] [klB] (fun _ => gS G) (fun _ => gV G) (gA G) U H ∧ va_Z "java/lang/String" "COMPACT_STRINGS" "Z" (.int 1) (gA G) U H)
def nestW : List Cond := [.methodLinkNest RX5 11 yX4_init RX5, .methodLinkNest RX4 17 yX3_init RX5, .methodLinkNest RX5 18 yX3_init RX5, .methodLinkNest RX2 27 yX1_init RX5, .methodLinkNest RX5 32 yX0_init RX5, .methodLinkNest RX0 29 yX1_init RX5, .methodLinkNest RX0 101 yX5_endIndex RX5]
/-- the tables are as the world needs them -/
def GK (G : GD) (U : State) : Prop := va_K G.1 vwCl (gT G) U ∧ (∀ w ∈ nestW, va_Nw w U) ∧ vk_R RX4 46 "sphfjtce" (gS G) U ∧ va_AO RX1 U
theorem HR.moved {G : GD} {h : AH} {u U : State} {H : Heap} (hvm : u.vm.Alike U.vm) (a : HR G h u H) : HR G h U H :=
  ⟨a.1, a.2.1, ⟨va_X.moved hvm a.2.2.1.1, a.2.2.1.2⟩, vk_S.moved hvm a.2.2.2.1, va_Z.moved hvm a.2.2.2.2⟩
theorem GK.warm {G : GD} {s U : State} (hW : s.WarmedH U.vm) (h : GK G s) : GK G U := by
  refine ⟨va_K.moved hW.alike h.1, fun w hw => ?_, vk_R.warm hW h.2.2.1, va_AO.moved hW.alike h.2.2.2⟩
  have h1 := h.2.1 w hw
  simp only [nestW, List.mem_cons, List.not_mem_nil, or_false] at hw
  rcases hw with rfl | rfl | rfl | rfl | rfl | rfl | rfl <;> exact va_Nw.warmM hW h1
theorem GK.same {G : GD} {s U : State} (hv : U.vm = s.vm) (h : GK G s) : GK G U := by
  have ha : s.vm.Alike U.vm := by rw [hv]; exact Vm.Alike.refl _
  refine ⟨va_K.moved ha h.1, fun w hw => ?_, vk_R.same hv h.2.2.1, va_AO.moved ha h.2.2.2⟩
  have h1 := h.2.1 w hw
  simp only [nestW, List.mem_cons, List.not_mem_nil, or_false] at hw
  rcases hw with rfl | rfl | rfl | rfl | rfl | rfl | rfl <;> exact va_Nw.same rfl hv.symm h1
/-- behind a store in one cell of the world -/
theorem HR.store {G : GD} {h : AH} {U : State} {H H1 : Heap} {a : Nat} {c c' : AC} (hH : HR G h U H) (hc : h.2 a = some c) (z : H1.size = H.size) (oq : ∀ q : Nat, q ≠ a → H1[q]? = H[q]?) (he : va_at G.1 vwCl (a, enc G c') H1) (hk : cok c') : HR G (hput h a c') U H1 := by
  obtain ⟨h1, h2, ⟨h3, h4⟩, h5, h6⟩ := hH
  have hb : gB G ≤ a := (h2 a c hc).2.2
  have hq : ∀ q : Nat, q < H.size → ¬ gA G q → H1[q]? = H[q]? := fun q _ hn => oq q (fun e => hn (by rw [e]; exact hb))
  refine ⟨⟨by rw [z]; exact h1.1, by rw [z]; exact h1.2⟩, fun b d hd => ?_, ⟨va_X.kept h3 (oq _ (by have := h4.1; omega)), h4⟩, vk_S.kept h5 hq, va_Z.kept h6 hq⟩
  by_cases e : b = a
  · subst e
    have hd' : some c' = some d := by simpa [hput] using hd
    cases hd'
    exact ⟨he, hk, hb⟩
  · have hd' : h.2 b = some d := by simpa [hput, e] using hd
    obtain ⟨g1, g2, g3⟩ := h2 b d hd'
    exact ⟨g1.kept (oq b e), g2, g3⟩
/-- behind a new cell -/
theorem HR.push {G : GD} {h : AH} {U : State} {H H1 : Heap} {c' : AC} (hH : HR G h U H) (z : H1.size = H.size + 1) (oq : ∀ q : Nat, q < H.size → H1[q]? = H[q]?) (he : va_at G.1 vwCl (H.size, enc G c') H1) (hk : cok c') : HR G ((h.1.1 + 1, h.1.2), fun q => if q = h.1.1 then some c' else h.2 q) U H1 := by
  obtain ⟨h1, h2, ⟨h3, h4⟩, h5, h6⟩ := hH
  have hq : ∀ q : Nat, q < H.size → ¬ gA G q → H1[q]? = H[q]? := fun q hl _ => oq q hl
  refine ⟨⟨by rw [z, h1.1], by omega⟩, fun b d hd => ?_, ⟨va_X.kept h3 (oq _ (by have := h4.1; omega)), h4⟩, vk_S.kept h5 hq, va_Z.kept h6 hq⟩
  by_cases e : b = h.1.1
  · subst e
    have hd' : some c' = some d := by simpa using hd
    cases hd'
    rw [← h1.1]
    exact ⟨he, hk, h1.2⟩
  · have hd' : h.2 b = some d := by simpa [e] using hd
    obtain ⟨g1, g2, g3⟩ := h2 b d hd'
    exact ⟨g1.kept (oq b g1.lt), g2, g3⟩
/-! the locals -/
def aLs (G : GD) : Nat → List (Option AV) → List (Nat × Value)
  | _, [] => []
  | i, none :: L => aLs G (i + 1) L
  | i, some v :: L => (i, cv G v) :: aLs G (i + 1) L
theorem aLs_in {G : GD} : ∀ (L : List (Option AV)) (i j : Nat) (w : Value), (j, w) ∈ aLs G i L ↔ ∃ v : AV, i ≤ j ∧ L[j - i]? = some (some v) ∧ w = cv G v := by
  intro L
  induction L with
  | nil => intro i j w; simp [aLs]
  | cons x L ih =>
    intro i j w
    have hcons : ∀ v : AV, (i + 1 ≤ j ∧ L[j - (i + 1)]? = some (some v)) ↔ (i + 1 ≤ j ∧ (x :: L)[j - i]? = some (some v)) := by
      intro v
      constructor
      · rintro ⟨h1, h2⟩
        refine ⟨h1, ?_⟩
        rw [show j - i = (j - (i + 1)) + 1 by omega, List.getElem?_cons_succ]
        exact h2
      · rintro ⟨h1, h2⟩
        refine ⟨h1, ?_⟩
        rw [show j - i = (j - (i + 1)) + 1 by omega, List.getElem?_cons_succ] at h2
        exact h2
    cases x with
    | none =>
      show (j, w) ∈ aLs G (i + 1) L ↔ _
      rw [ih]
      constructor
      · rintro ⟨v, h1, h2, h3⟩
        exact ⟨v, by omega, ((hcons v).mp ⟨h1, h2⟩).2, h3⟩
      · rintro ⟨v, h1, h2, h3⟩
        have hne : j ≠ i := by
          intro e
          subst e
          simp at h2
        obtain ⟨q1, q2⟩ := (hcons v).mpr ⟨by omega, h2⟩
        exact ⟨v, q1, q2, h3⟩
    | some y =>
      show (j, w) ∈ (i, cv G y) :: aLs G (i + 1) L ↔ _
      rw [List.mem_cons, ih]
      constructor
      · rintro (e | ⟨v, h1, h2, h3⟩)
        · cases e
          exact ⟨y, Nat.le_refl _, by simp, rfl⟩
        · exact ⟨v, by omega, ((hcons v).mp ⟨h1, h2⟩).2, h3⟩
      · rintro ⟨v, h1, h2, h3⟩
        by_cases e : j = i
        · subst e
          left
          have : y = v := by simpa using h2
          rw [this, h3]
        · right
          obtain ⟨q1, q2⟩ := (hcons v).mpr ⟨by omega, h2⟩
          exact ⟨v, q1, q2, h3⟩
def LR (G : GD) (L : List (Option AV)) (ls : Array Slot) (n : Nat) : Prop := lv_has ls n (aLs G 0 L) ∧ L.length = n ∧ ∀ (i : Nat) (v : AV), L[i]? = some (some v) → vok v
theorem LR.get {G : GD} {L : List (Option AV)} {ls : Array Slot} {n i : Nat} {v : AV} (h : LR G L ls n) (hi : L[i]? = some (some v)) : ls[i]? = some (.val (cv G v)) ∧ vok v :=
  ⟨h.1.2.2 (i, cv G v) ((aLs_in L 0 i _).mpr ⟨v, Nat.zero_le _, by simpa using hi, rfl⟩), h.2.2 i v hi⟩
def nlong (x : Option AV) : Option AV := match x with
  | some v => if isL v = true then none else some v
  | none => none
def lset : List (Option AV) → Nat → AV → List (Option AV)
  | [], _, _ => []
  | _ :: l, 0, v => some v :: l
  | x :: l, 1, v => nlong x :: lset l 0 v
  | x :: l, i + 2, v => x :: lset l (i + 1) v
def lset2 : List (Option AV) → Nat → AV → List (Option AV)
  | _ :: _ :: l, 0, v => some v :: none :: l
  | x :: l, 1, v => nlong x :: lset2 l 0 v
  | x :: l, i + 2, v => x :: lset2 l (i + 1) v
  | l, _, _ => l
theorem isL_cat (G : GD) (v : AV) : (cv G v).category = 2 ↔ isL v = true := by
  rcases v with z | (_ | a) | x | b <;> simp [cv, isL, va_rf, Value.category]
theorem lset_len : ∀ (L : List (Option AV)) (i : Nat) (v : AV), (lset L i v).length = L.length := by
  intro L
  induction L with
  | nil => intro i v; rfl
  | cons x l ih =>
    intro i v
    match i with
    | 0 => rfl
    | 1 => show (lset l 0 v).length + 1 = _; rw [ih]; rfl
    | i + 2 => show (lset l (i + 1) v).length + 1 = _; rw [ih]; rfl
theorem nlong_some {x : Option AV} {w : AV} (h : nlong x = some w) : x = some w ∧ isL w = false := by
  cases x with
  | none => cases h
  | some v =>
    simp only [nlong] at h
    by_cases e : isL v = true
    · rw [if_pos e] at h; cases h
    · rw [if_neg e] at h
      cases h
      exact ⟨rfl, by simpa using e⟩
theorem lset_get : ∀ (L : List (Option AV)) (i j : Nat) (v w : AV), (lset L i v)[j]? = some (some w) → (j = i ∧ w = v) ∨ (j ≠ i ∧ L[j]? = some (some w) ∧ ¬ (j + 1 = i ∧ isL w = true)) := by
  intro L
  induction L with
  | nil => intro i j v w h; simp [lset] at h
  | cons x l ih =>
    intro i j v w h
    match i, j with
    | 0, 0 =>
      left
      simp [lset] at h
      exact ⟨rfl, h.symm⟩
    | 0, j + 1 =>
      right
      refine ⟨by omega, by simpa [lset] using h, by omega⟩
    | 1, 0 =>
      right
      have h2 : nlong x = some w := by simpa [lset] using h
      obtain ⟨h3, h4⟩ := nlong_some h2
      refine ⟨by omega, by simp [h3], fun q => by rw [h4] at q; exact absurd q.2 (by decide)⟩
    | 1, j + 1 =>
      have h2 : (lset l 0 v)[j]? = some (some w) := by simpa [lset] using h
      rcases ih 0 j v w h2 with ⟨q1, q2⟩ | ⟨q1, q2, q3⟩
      · left; exact ⟨by omega, q2⟩
      · right; exact ⟨by omega, by simpa using q2, by omega⟩
    | i + 2, 0 =>
      right
      refine ⟨by omega, by simpa [lset] using h, by omega⟩
    | i + 2, j + 1 =>
      have h2 : (lset l (i + 1) v)[j]? = some (some w) := by simpa [lset] using h
      rcases ih (i + 1) j v w h2 with ⟨q1, q2⟩ | ⟨q1, q2, q3⟩
      · left; exact ⟨by omega, q2⟩
      · right; exact ⟨by omega, by simpa using q2, fun q => q3 ⟨by omega, q.2⟩⟩
theorem LR.set {G : GD} {L : List (Option AV)} {ls ls' : Array Slot} {n i : Nat} {v : AV} (h : LR G L ls n) (hv : vok v)
    (h' : lv_has ls' n ((i, cv G v) :: (aLs G 0 L).filter (fun q => !(q.1 == i) && !(q.1 + 1 == i && q.2.category == 2)))) : LR G (lset L i v) ls' n := by
  refine ⟨⟨h'.1, h'.2.1, fun q hq => ?_⟩, by rw [lset_len]; exact h.2.1, fun j w hj => ?_⟩
  · obtain ⟨j, x⟩ := q
    obtain ⟨w, -, h2, rfl⟩ := (aLs_in _ 0 j x).mp hq
    rw [Nat.sub_zero] at h2
    rcases lset_get L i j v w h2 with ⟨rfl, rfl⟩ | ⟨q1, q2, q3⟩
    · exact h'.2.2 _ List.mem_cons_self
    · refine h'.2.2 _ (List.mem_cons_of_mem _ (List.mem_filter.mpr ⟨(aLs_in L 0 j _).mpr ⟨w, Nat.zero_le _, by simpa using q2, rfl⟩, ?_⟩))
      simp only [Bool.and_eq_true, Bool.not_eq_true', beq_eq_false_iff_ne, ne_eq, Bool.and_eq_false_iff]
      refine ⟨q1, ?_⟩
      by_cases e : j + 1 = i
      · right
        intro z
        exact q3 ⟨e, (isL_cat G w).mp z⟩
      · left; exact e
  · rcases lset_get L i j v w hj with ⟨rfl, rfl⟩ | ⟨q1, q2, q3⟩
    · exact hv
    · exact h.2.2 j w q2
