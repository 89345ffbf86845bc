/-! ===== typed texts: letters, numbers, nodes ===== -/
/-- a text that begins with another -/
def xt (T T' : TX) : Prop := T.1 ≤ T'.1 ∧ ∀ j : Int, 0 ≤ j → j < T.1 → T'.2 j = T.2 j
theorem xt_rfl {T : TX} : xt T T := ⟨Int.le_refl _, fun _ _ _ => rfl⟩
theorem xt_trans {A B C : TX} (f : xt A B) (g : xt B C) : xt A C := ⟨Int.le_trans f.1 g.1, fun j h0 h1 => (g.2 j h0 (Int.lt_of_lt_of_le h1 f.1)).trans (f.2 j h0 h1)⟩
theorem xt_tc {T T' : TX} (f : xt T T') {p : Int} (h0 : 0 ≤ p) (h1 : p < T.1) : tc T' p = tc T p := by
  have a : tc T' p = T'.2 p := if_pos ⟨h0, by have := f.1; omega⟩
  have b : tc T p = T.2 p := if_pos ⟨h0, h1⟩
  rw [a, b]
  exact f.2 p h0 h1
/-- these letters stand from a place on -/
def lts (T : TX) : Int → List Int → Prop
  | _, [] => True
  | b, c :: l => tc T b = c ∧ lts T (b + 1) l
theorem lts_app {T : TX} : ∀ (l : List Int) (b : Int) (m : List Int), lts T b (l ++ m) ↔ lts T b l ∧ lts T (b + (l.length : Nat)) m := by
  intro l
  induction l with
  | nil => intro b m; show lts T b m ↔ True ∧ lts T (b + ((0 : Nat) : Int)) m; rw [show b + ((0 : Nat) : Int) = b by omega]; exact ⟨fun h => ⟨trivial, h⟩, fun h => h.2⟩
  | cons c l ih =>
    intro b m
    show (tc T b = c ∧ lts T (b + 1) (l ++ m)) ↔ (tc T b = c ∧ lts T (b + 1) l) ∧ lts T (b + ((l.length + 1 : Nat) : Int)) m
    rw [ih, show b + 1 + (l.length : Int) = b + ((l.length + 1 : Nat) : Int) by omega]
    exact ⟨fun h => ⟨⟨h.1, h.2.1⟩, h.2.2⟩, fun h => ⟨h.1.1, h.1.2, h.2⟩⟩
theorem lts_xt {T T' : TX} (f : xt T T') : ∀ (l : List Int) (b : Int), 0 ≤ b → b + (l.length : Nat) ≤ T.1 → lts T b l → lts T' b l := by
  intro l
  induction l with
  | nil => intro b _ _ _; trivial
  | cons c l ih =>
    intro b h0 h1 h
    have h1 : b + ((l.length + 1 : Nat) : Int) ≤ T.1 := h1
    exact ⟨(xt_tc f h0 (by omega)).trans h.1, ih (b + 1) (by omega) (by omega) h.2⟩
/-- T1 is T with these letters behind it -/
def spl (T T1 : TX) (l : List Int) (n : Int) : Prop := xt T T1 ∧ T1.1 = T.1 + n ∧ n = (l.length : Nat) ∧ lts T1 T.1 l
theorem spl_0 (T : TX) : spl T T [] 0 := ⟨xt_rfl, (Int.add_zero _).symm, rfl, trivial⟩
theorem spl_ty {T T1 : TX} {l : List Int} {n c : Int} (hT : txI T) (h : spl T T1 l n) (c0 : 0 ≤ c) (c1 : c ≤ 127) (h100 : T1.1 < 100) : spl T (tyT T1 c) (l ++ [c]) (n + 1) ∧ tyR T1 c = T1.1 + 1 := by
  obtain ⟨f, e, hn, hl⟩ := h
  have h0 := hT.1
  have e2 : tyT T1 c = (T1.1 + 1, fset T1.2 T1.1 c) := pif_t ⟨⟨c0, c1⟩, h100⟩
  refine ⟨?_, (if_pos ⟨c0, c1⟩).trans (if_pos h100)⟩
  rw [e2]
  have g : xt T1 (T1.1 + 1, fset T1.2 T1.1 c) := ⟨by show T1.1 ≤ T1.1 + 1; omega, fun j j0 j1 => fs_off (by omega)⟩
  refine ⟨xt_trans f g, by show T1.1 + 1 = T.1 + (n + 1); omega, by rw [List.length_append, List.length_singleton]; omega, ?_⟩
  rw [lts_app]
  refine ⟨lts_xt g l _ h0 (by omega) hl, ?_, trivial⟩
  have z : T.1 + (l.length : Int) = T1.1 := by omega
  rw [z]
  have a : tc (T1.1 + 1, fset T1.2 T1.1 c) T1.1 = fset T1.2 T1.1 c T1.1 := if_pos ⟨by omega, by show T1.1 < T1.1 + 1; omega⟩
  rw [a]
  exact fs_at rfl
/-- a number's letters -/
def dg (v : Int) : List Int := if v < 10 then [48 + v] else [48 + v / 10, 48 + v % 10]
theorem dg_1 {v : Int} (h : v < 10) : dg v = [48 + v] := if_pos h
theorem dg_2 {v : Int} (h : ¬ v < 10) : dg v = [48 + v / 10, 48 + v % 10] := if_neg h
theorem dg_len (v : Int) : (dg v).length = 1 ∨ (dg v).length = 2 := by
  by_cases h : v < 10
  · rw [dg_1 h]; exact Or.inl rfl
  · rw [dg_2 h]; exact Or.inr rfl
theorem num {T : TX} {p v m : Int} (h : lts T p (dg v)) (v0 : 0 ≤ v) (v1 : v ≤ 99) (vm : v ≤ m) (he : ¬ isd T (p + ((dg v).length : Nat))) : nmOk T m p ∧ nmAt T m p = p + ((dg v).length : Nat) ∧ nmV T p = v ∧ tc T p ≠ 32 := by
  by_cases c : v < 10
  · rw [dg_1 c] at h he ⊢
    have h0 : tc T p = 48 + v := h.1
    have he : ¬ isd T (p + 1) := he
    have hd : isd T p := by unfold isd; omega
    have hV : nmV T p = v := (pif_f he).trans (by omega)
    have hE : nmE T p = p + 1 := pif_f he
    have hy : isd T p ∧ nmV T p ≤ m := ⟨hd, by omega⟩
    exact ⟨⟨hy, by rw [hE]; exact he⟩, (pif_t hy).trans hE, hV, by omega⟩
  · rw [dg_2 c] at h he ⊢
    have h0 : tc T p = 48 + v / 10 := h.1
    have h1 : tc T (p + 1) = 48 + v % 10 := h.2.1
    have he : ¬ isd T (p + 2) := he
    have hd : isd T p := by unfold isd; omega
    have hd1 : isd T (p + 1) := by unfold isd; omega
    have hV : nmV T p = v := (pif_t hd1).trans (by omega)
    have hE : nmE T p = p + 2 := pif_t hd1
    have hy : isd T p ∧ nmV T p ≤ m := ⟨hd, by omega⟩
    exact ⟨⟨hy, by rw [hE]; exact he⟩, (pif_t hy).trans hE, hV, by omega⟩
theorem dgi {T : TX} {p d m : Int} (h : tc T p = 48 + d) (d0 : 0 ≤ d) (dm : d ≤ m) (he : ¬ isd T (p + 1)) : dgOk T m p ∧ dgAt T m p = p + 1 := ⟨⟨by omega, he⟩, if_pos (by omega)⟩
theorem sk_1 {T : TX} {p : Int} (h : tc T p = 32) (h2 : tc T (p + 1) ≠ 32) : sk T p = p + 1 := by
  show skN T 101 p = _
  rw [show skN T 101 p = skN T 100 (p + 1) from if_pos h]
  exact skN_stop h2
/-- what stands behind a node -/
def tl (T : TX) (p : Int) : Prop := tc T p = -1 ∨ tc T p = 59
theorem tl_nd {T : TX} {p : Int} (h : tl T p) : ¬ isd T p := fun z => by
  have := z.1
  have := z.2
  rcases h with h | h <;> omega
theorem c_nd {T : TX} {p c : Int} (h : tc T p = c) (hc : c < 48 ∨ 57 < c) : ¬ isd T p := fun z => by
  have := z.1
  have := z.2
  omega
/-- these letters are read as that node -/
def spells (l : List Int) (nd : ND) : Prop := ∀ (T : TX) (b : Int), lts T b l → tl T (b + (l.length : Nat)) → ndOk T b ∧ ndAt T b = b + (l.length : Nat) ∧ kIdx (tc T b) = nd.1 ∧ ndN T b = nd.2.1 ∧ ndO T b = nd.2.2 ∧ kIdx (tc T b) ≠ -1
theorem spells_0 {v n : Int} (v0 : 0 ≤ v) (v1 : v ≤ 5) (n0 : 0 ≤ n) (n1 : n ≤ 99) : spells (115 :: (97 + v) :: dg n) (0, [v, n], []) := by
  intro T b h ht
  obtain ⟨h0, h1, h2⟩ := h
  have z : ((115 :: (97 + v) :: dg n).length) = (dg n).length + 2 := rfl
  rw [z] at ht ⊢
  have hk : kIdx (tc T b) = 0 := by rw [h0]; rfl
  obtain ⟨e1, e2, e3, e4⟩ := nd_k0 hk
  have s1 : sk T (b + 1) = b + 1 := sk_id (by omega)
  obtain ⟨a0, a1, a2, a3⟩ := num (m := 99) h2 n0 n1 n1 (by rw [show b + 1 + 1 + ((dg n).length : Int) = b + (((dg n).length + 2 : Nat) : Int) by omega]; exact tl_nd ht)
  have s2 : sk T (b + 1 + 1) = b + 1 + 1 := sk_id a3
  have vc : vcOk T (b + 1) := by unfold vcOk; omega
  rw [s1, s2] at e1 e2 e3
  refine ⟨by rw [e1]; exact ⟨vc, a0⟩, by rw [e2, pif_t vc, a1]; omega, hk, ?_, e4, by rw [hk]; decide⟩
  rw [e3, h1, a2, show 97 + v - 97 = v by omega]
theorem spells_1 {v p f : Int} (v0 : 0 ≤ v) (v1 : v ≤ 5) (p0 : 0 ≤ p) (p1 : p ≤ 2) (f0 : 0 ≤ f) (f1 : f ≤ 4) : spells [112, 97 + v, 48 + p, 32, 48 + f] (1, [v, p, f], []) := by
  intro T b h ht
  obtain ⟨h0, h1, h2, h3, h4, -⟩ := h
  have z : ([112, 97 + v, 48 + p, 32, 48 + f].length) = 5 := rfl
  rw [z] at ht ⊢
  have hk : kIdx (tc T b) = 1 := by rw [h0]; rfl
  obtain ⟨e1, e2, e3, e4⟩ := nd_k1 hk
  have s1 : sk T (b + 1) = b + 1 := sk_id (by omega)
  have s2 : sk T (b + 1 + 1) = b + 1 + 1 := sk_id (by omega)
  have vc : vcOk T (b + 1) := by unfold vcOk; omega
  obtain ⟨g1, g2⟩ := dgi (m := 2) h2 p0 p1 (c_nd h3 (by decide))
  have s3 : sk T (b + 1 + 1 + 1) = b + 1 + 1 + 1 + 1 := sk_1 h3 (by omega)
  obtain ⟨k1, k2⟩ := dgi (m := 4) h4 f0 f1 (by rw [show b + 1 + 1 + 1 + 1 + 1 = b + ((5 : Nat) : Int) by omega]; exact tl_nd ht)
  rw [s1, s2, g2, s3] at e1 e2 e3
  refine ⟨by rw [e1]; exact ⟨vc, g1, k1⟩, by rw [e2, pif_t vc, pif_t g1, k2]; omega, hk, ?_, e4, by rw [hk]; decide⟩
  rw [e3, h1, h2, h4, show 97 + v - 97 = v by omega, show 48 + p - 48 = p by omega, show 48 + f - 48 = f by omega]
/-- a portrait whose face is wanting -/
theorem wants_1 {v p : Int} (v0 : 0 ≤ v) (v1 : v ≤ 5) (p0 : 0 ≤ p) (p1 : p ≤ 2) {T : TX} {b : Int} (h : lts T b [112, 97 + v, 48 + p]) (ht : tc T (b + 3) = -1) : ¬ ndOk T b ∧ ndAt T b = b + 3 ∧ kIdx (tc T b) ≠ -1 := by
  obtain ⟨h0, h1, h2, -⟩ := h
  have hk : kIdx (tc T b) = 1 := by rw [h0]; rfl
  obtain ⟨e1, e2, e3, e4⟩ := nd_k1 hk
  have s1 : sk T (b + 1) = b + 1 := sk_id (by omega)
  have s2 : sk T (b + 1 + 1) = b + 1 + 1 := sk_id (by omega)
  have vc : vcOk T (b + 1) := by unfold vcOk; omega
  have ht : tc T (b + 1 + 1 + 1) = -1 := by rw [show b + 1 + 1 + 1 = b + 3 by omega]; exact ht
  obtain ⟨g1, g2⟩ := dgi (m := 2) h2 p0 p1 (c_nd ht (by decide))
  have s3 : sk T (b + 1 + 1 + 1) = b + 1 + 1 + 1 := sk_id (by omega)
  rw [s1, s2, g2, s3] at e1 e2
  refine ⟨fun z => ?_, ?_, by rw [hk]; decide⟩
  · rw [e1] at z
    have := z.2.2.1.1
    omega
  · rw [e2, pif_t vc, pif_t g1, show dgAt T 4 (b + 1 + 1 + 1) = b + 1 + 1 + 1 from if_neg (by omega)]
    omega
theorem spells_2 {v : Int} (v0 : 0 ≤ v) (v1 : v ≤ 5) : spells [104, 97 + v] (2, [v], []) := by
  intro T b h ht
  obtain ⟨h0, h1, -⟩ := h
  have hk : kIdx (tc T b) = 2 := by rw [h0]; rfl
  obtain ⟨e1, e2, e3, e4⟩ := nd_k2 hk
  have s1 : sk T (b + 1) = b + 1 := sk_id (by omega)
  have vc : vcOk T (b + 1) := by unfold vcOk; omega
  rw [s1] at e1 e2 e3
  refine ⟨by rw [e1]; exact vc, by rw [e2, pif_t vc]; show b + 1 + 1 = b + 2; omega, hk, ?_, e4, by rw [hk]; decide⟩
  rw [e3, h1, show 97 + v - 97 = v by omega]
theorem spells_3 {f s c : Int} (f0 : 0 ≤ f) (f1 : f ≤ 5) (hs : (c = 43 ∧ s = 1) ∨ (c = 45 ∧ s = 0)) : spells [102, 48 + f, c] (3, [f, s], []) := by
  intro T b h ht
  obtain ⟨h0, h1, h2, -⟩ := h
  have hk : kIdx (tc T b) = 3 := by rw [h0]; rfl
  obtain ⟨e1, e2, e3, e4⟩ := nd_k3 hk
  have s1 : sk T (b + 1) = b + 1 := sk_id (by omega)
  have s2 : sk T (b + 1 + 1) = b + 1 + 1 := sk_id (by omega)
  obtain ⟨g1, g2⟩ := dgi (m := 5) h1 f0 f1 (c_nd h2 (by omega))
  have pm : pmOk T (b + 1 + 1) := by unfold pmOk; omega
  rw [s1, g2, s2] at e1 e2 e3
  refine ⟨by rw [e1]; exact ⟨g1, pm⟩, by rw [e2, pif_t g1, pif_t pm]; show b + 1 + 1 + 1 = b + 3; omega, hk, ?_, e4, by rw [hk]; decide⟩
  rw [e3, h1, h2, show 48 + f - 48 = f by omega]
  rcases hs with ⟨rfl, rfl⟩ | ⟨rfl, rfl⟩ <;> rfl
theorem spells_4 {n : Int} (n0 : 0 ≤ n) (n1 : n ≤ 29) : spells (106 :: dg n) (4, [n], []) := by
  intro T b h ht
  obtain ⟨h0, h2⟩ := h
  have z : ((106 :: dg n).length) = (dg n).length + 1 := rfl
  rw [z] at ht ⊢
  have hk : kIdx (tc T b) = 4 := by rw [h0]; rfl
  obtain ⟨e1, e2, e3, e4⟩ := nd_k4 hk
  obtain ⟨a0, a1, a2, a3⟩ := num (m := 29) h2 n0 (by omega) n1 (by rw [show b + 1 + ((dg n).length : Int) = b + (((dg n).length + 1 : Nat) : Int) by omega]; exact tl_nd ht)
  have s1 : sk T (b + 1) = b + 1 := sk_id a3
  rw [s1] at e1 e2 e3
  refine ⟨by rw [e1]; exact a0, by rw [e2, a1]; omega, hk, ?_, e4, by rw [hk]; decide⟩
  rw [e3, a2]
theorem spells_5 {f n : Int} (f0 : 0 ≤ f) (f1 : f ≤ 5) (n0 : 0 ≤ n) (n1 : n ≤ 29) : spells (116 :: (48 + f) :: 32 :: dg n) (5, [f, n], []) := by
  intro T b h ht
  obtain ⟨h0, h1, h2, h3⟩ := h
  have z : ((116 :: (48 + f) :: 32 :: dg n).length) = (dg n).length + 3 := rfl
  rw [z] at ht ⊢
  have hk : kIdx (tc T b) = 5 := by rw [h0]; rfl
  obtain ⟨e1, e2, e3, e4⟩ := nd_k5 hk
  obtain ⟨a0, a1, a2, a3⟩ := num (m := 29) h3 n0 (by omega) n1 (by rw [show b + 1 + 1 + 1 + ((dg n).length : Int) = b + (((dg n).length + 3 : Nat) : Int) by omega]; exact tl_nd ht)
  have s1 : sk T (b + 1) = b + 1 := sk_id (by omega)
  obtain ⟨g1, g2⟩ := dgi (m := 5) h1 f0 f1 (c_nd h2 (by decide))
  have s2 : sk T (b + 1 + 1) = b + 1 + 1 + 1 := sk_1 h2 a3
  rw [s1, g2, s2] at e1 e2 e3
  refine ⟨by rw [e1]; exact ⟨g1, a0⟩, by rw [e2, pif_t g1, a1]; omega, hk, ?_, e4, by rw [hk]; decide⟩
  rw [e3, h1, a2, show 48 + f - 48 = f by omega]
theorem spells_7 {n : Int} (n0 : 0 ≤ n) (n1 : n ≤ 9) : spells [101, 48 + n] (7, [n], []) := by
  intro T b h ht
  obtain ⟨h0, h1, -⟩ := h
  have hk : kIdx (tc T b) = 7 := by rw [h0]; rfl
  obtain ⟨e1, e2, e3, e4⟩ := nd_k7 hk
  have s1 : sk T (b + 1) = b + 1 := sk_id (by omega)
  obtain ⟨g1, g2⟩ := dgi (m := 9) h1 n0 n1 (by rw [show b + 1 + 1 = b + ((2 : Nat) : Int) by omega]; exact tl_nd ht)
  rw [s1] at e1 e2 e3
  refine ⟨by rw [e1]; exact g1, by rw [e2, g2]; show b + 1 + 1 = b + 2; omega, hk, ?_, e4, by rw [hk]; decide⟩
  rw [e3, h1, show 48 + n - 48 = n by omega]
/-! options: a goal, a lock (0: none; odd: if the flag is set; even: if it isn't) -/
def og (o : Int × Int) : List Int := dg o.1 ++ (if o.2 = 0 then [] else [if o.2 % 2 = 1 then 63 else 33, 48 + (o.2 - 1) / 2])
def ogV (o : Int × Int) : Int × Int × Int := (o.1, if o.2 = 0 then 0 else if o.2 % 2 = 1 then 1 else 2, if o.2 = 0 then -11 else (o.2 - 1) / 2)
def ogOk (o : Int × Int) : Prop := (0 ≤ o.1 ∧ o.1 ≤ 29) ∧ 0 ≤ o.2 ∧ o.2 ≤ 6
theorem og_one {T : TX} {a c : Int} {o : Int × Int} (ho : ogOk o) (h : lts T a (og o)) (hc : tc T (a + ((og o).length : Nat)) = c) (c0 : c < 48 ∨ 57 < c) (c1 : c ≠ 32) (c2 : c ≠ 63) (c3 : c ≠ 33) : sk T a = a ∧ opOk T a ∧ opAt T a = a + ((og o).length : Nat) ∧ opV T a = ogV o := by
  obtain ⟨g, k⟩ := o
  obtain ⟨⟨g0, g1⟩, k0, k1⟩ := ho
  have g0 : 0 ≤ g := g0
  have g1 : g ≤ 29 := g1
  have k0 : 0 ≤ k := k0
  have k1 : k ≤ 6 := k1
  by_cases hk : k = 0
  · subst hk
    have e : og (g, 0) = dg g := (show og (g, 0) = dg g ++ [] from rfl).trans (List.append_nil _)
    rw [e] at h hc ⊢
    obtain ⟨a0, a1, a2, a3⟩ := num (m := 29) h g0 (by omega) g1 (c_nd hc c0)
    have q : opQ T a = a + ((dg g).length : Nat) := by show sk T (nmAt T 29 a) = _; rw [a1]; exact sk_id (by rw [hc]; exact c1)
    have nl : ¬ opL T a := by unfold opL; rw [q, hc]; omega
    exact ⟨sk_id a3, ⟨a0, fun y => absurd y nl⟩, (pif_t a0).trans ((pif_f nl).trans q), (pif_f nl).trans (by rw [a2]; rfl)⟩
  · have e : og (g, k) = dg g ++ [if k % 2 = 1 then 63 else 33, 48 + (k - 1) / 2] := by
      show dg g ++ (if k = 0 then [] else _) = _
      rw [if_neg hk]
    rw [e] at h hc ⊢
    rw [lts_app] at h
    obtain ⟨h, h1, h2, -⟩ := h
    rw [List.length_append, show ([if k % 2 = 1 then 63 else 33, 48 + (k - 1) / 2] : List Int).length = 2 from rfl] at hc ⊢
    have s0 : (if k % 2 = 1 then (63 : Int) else 33) = 63 ∨ (if k % 2 = 1 then (63 : Int) else 33) = 33 := by split <;> omega
    obtain ⟨a0, a1, a2, a3⟩ := num (m := 29) h g0 (by omega) g1 (c_nd h1 (by omega))
    have q : opQ T a = a + ((dg g).length : Nat) := by show sk T (nmAt T 29 a) = _; rw [a1]; exact sk_id (by rw [h1]; omega)
    have yl : opL T a := by unfold opL; rw [q, h1]; omega
    have dd : opD T a = a + ((dg g).length : Nat) + 1 := by show sk T (opQ T a + 1) = _; rw [q]; exact sk_id (by omega)
    obtain ⟨r1, r2⟩ := dgi (m := 5) h2 (by omega) (by omega) (by rw [show a + ((dg g).length : Int) + 1 + 1 = a + (((dg g).length + 2 : Nat) : Int) by omega]; exact c_nd hc c0)
    refine ⟨sk_id a3, ⟨a0, fun _ => by rw [dd]; exact r1⟩, (pif_t a0).trans ((pif_t yl).trans ?_), (pif_t yl).trans ?_⟩
    · rw [dd, r2]; omega
    · rw [a2, q, h1, dd, h2, show 48 + (k - 1) / 2 - 48 = (k - 1) / 2 by omega]
      show _ = (g, if k = 0 then 0 else if k % 2 = 1 then 1 else 2, if k = 0 then -11 else (k - 1) / 2)
      rw [if_neg hk, if_neg hk]
      by_cases y : k % 2 = 1
      · rw [if_pos y, if_pos y]; rfl
      · rw [if_neg y, if_neg y]; rfl
def opT : List (Int × Int) → List Int
  | [] => []
  | o :: os => 44 :: (og o ++ opT os)
theorem opT_s : ∀ (os : List (Int × Int)) (o : Int × Int), opT (os ++ [o]) = opT os ++ (44 :: og o) := by
  intro os
  induction os with
  | nil => intro o; show 44 :: (og o ++ []) = _; rw [List.append_nil]; rfl
  | cons p os ih => intro o; show 44 :: (og p ++ opT (os ++ [o])) = 44 :: (og p ++ opT os) ++ _; rw [ih]; simp
theorem osR_is {T : TX} : ∀ (os : List (Int × Int)) (o : Int × Int) (k : Nat) (a : Int), (∀ p, p ∈ o :: os → ogOk p) → os.length < k → lts T a (og o ++ opT os) → tl T (a + ((og o ++ opT os).length : Nat)) → (osR T k a).1 ∧ (osR T k a).2.1 = a + ((og o ++ opT os).length : Nat) ∧ (osR T k a).2.2 = (o :: os).map ogV := by
  intro os
  induction os with
  | nil =>
    intro o k a hO hk h ht
    obtain ⟨j, rfl⟩ : ∃ j, k = j + 1 := ⟨k - 1, by have : 0 < k := hk; omega⟩
    rw [show og o ++ opT [] = og o from List.append_nil _] at h ht ⊢
    have hx : ∃ c : Int, tc T (a + ((og o).length : Nat)) = c ∧ (c < 48 ∨ 57 < c) ∧ c ≠ 32 ∧ c ≠ 63 ∧ c ≠ 33 ∧ c ≠ 44 := by
      rcases ht with y | y
      · exact ⟨-1, y, by decide, by decide, by decide, by decide, by decide⟩
      · exact ⟨59, y, by decide, by decide, by decide, by decide, by decide⟩
    obtain ⟨c, hc, x0, x1, x2, x3, x4⟩ := hx
    obtain ⟨s, u, v, w⟩ := og_one (hO o List.mem_cons_self) h hc x0 x1 x2 x3
    have s2 : sk T (a + ((og o).length : Nat)) = a + ((og o).length : Nat) := sk_id (by rw [hc]; exact x1)
    have r : osR T (j + 1) a = (True, a + ((og o).length : Nat), [ogV o]) := by
      rw [show osR T (j + 1) a = _ from pif_t (by rw [s]; exact u), s, v, s2, pif_f (by rw [hc]; exact x4), w]
    rw [r]
    exact ⟨trivial, rfl, rfl⟩
  | cons p os ih =>
    intro o k a hO hk h ht
    have hk : os.length + 1 < k := hk
    obtain ⟨j, rfl⟩ : ∃ j, k = j + 1 := ⟨k - 1, by omega⟩
    rw [lts_app] at h
    obtain ⟨h1, h2⟩ := h
    have h2 : tc T (a + ((og o).length : Nat)) = 44 ∧ lts T (a + ((og o).length : Nat) + 1) (og p ++ opT os) := h2
    have ln : ((og o ++ opT (p :: os)).length : Int) = ((og o).length : Int) + 1 + ((og p ++ opT os).length : Nat) := by
      rw [List.length_append, show (opT (p :: os)).length = (og p ++ opT os).length + 1 from rfl]; omega
    rw [ln] at ht ⊢
    obtain ⟨s, u, v, w⟩ := og_one (hO o List.mem_cons_self) h1 h2.1 (by decide) (by decide) (by decide) (by decide)
    have s2 : sk T (a + ((og o).length : Nat)) = a + ((og o).length : Nat) := sk_id (by rw [h2.1]; decide)
    obtain ⟨z1, z2, z3⟩ := ih p j (a + ((og o).length : Nat) + 1) (fun q hq => hO q (List.mem_cons_of_mem _ hq)) (by omega) h2.2 (by rw [show a + ((og o).length : Int) + 1 + ((og p ++ opT os).length : Nat) = a + (((og o).length : Int) + 1 + ((og p ++ opT os).length : Nat)) by omega]; exact ht)
    have r : osR T (j + 1) a = ((osR T j (a + ((og o).length : Nat) + 1)).1, (osR T j (a + ((og o).length : Nat) + 1)).2.1, ogV o :: (osR T j (a + ((og o).length : Nat) + 1)).2.2) := by
      rw [show osR T (j + 1) a = _ from pif_t (by rw [s]; exact u), s, v, s2, pif_t h2.1, w]
    rw [r]
    exact ⟨z1, z2.trans (by omega), by show ogV o :: _ = _; rw [z3]; rfl⟩
theorem spells_6 {o : Int × Int} {os : List (Int × Int)} (hO : ∀ p, p ∈ o :: os → ogOk p) (hl : os.length < 4) : spells (99 :: (og o ++ opT os)) (6, [], (o :: os).map ogV) := by
  intro T b h ht
  obtain ⟨h0, h2⟩ := h
  have z : ((99 :: (og o ++ opT os)).length) = (og o ++ opT os).length + 1 := rfl
  rw [z] at ht ⊢
  have hk : kIdx (tc T b) = 6 := by rw [h0]; rfl
  obtain ⟨e1, e2, e3, e4⟩ := nd_k6 hk
  obtain ⟨z1, z2, z3⟩ := osR_is os o 4 (b + 1) hO hl h2 (by rw [show b + 1 + ((og o ++ opT os).length : Nat) = b + (((og o ++ opT os).length + 1 : Nat) : Int) by omega]; exact ht)
  exact ⟨by rw [e1]; exact z1, by rw [e2, z2]; omega, hk, e3, e4.trans z3, by rw [hk]; decide⟩
/-! a text whose nodes are these, as far as it is typed -/
def rdy (T : TX) (ns : List ND) : Prop := txI T ∧ ns.length ≤ 20 ∧ ∀ T' : TX, xt T T' → ffR T' 29 0 = ((ffR T' (29 - ns.length) T.1).1, ns ++ (ffR T' (29 - ns.length) T.1).2)
theorem rdy_0 {f : FN} : rdy (0, f) [] := ⟨⟨Int.le_refl 0, (by decide : (0 : Int) ≤ 100), fun i i0 i1 => by have : i < 0 := i1; omega⟩, Nat.zero_le _, fun T' _ => rfl⟩
theorem tc_z (T : TX) : tc T T.1 = -1 := if_neg (by omega)
theorem k_ne {c : Int} (h : kIdx c ≠ -1) : c ≠ 32 ∧ c ≠ -1 := ⟨fun z => h (by rw [z]; rfl), fun z => h (by rw [z]; rfl)⟩
theorem ff_step {T : TX} {k : Nat} {b e : Int} {nd : ND} (a1 : ndOk T b) (a2 : ndAt T b = e) (a3 : kIdx (tc T b) = nd.1) (a4 : ndN T b = nd.2.1) (a5 : ndO T b = nd.2.2) (a6 : kIdx (tc T b) ≠ -1) (he : tc T e = 59) : ffR T (k + 1) b = ((ffR T k (e + 1)).1, nd :: (ffR T k (e + 1)).2) := by
  obtain ⟨q1, q2⟩ := k_ne a6
  have s : sk T b = b := sk_id q1
  have s2 : sk T e = e := sk_id (by omega)
  rw [show ffR T (k + 1) b = _ from (pif_f (by rw [s]; exact q2)).trans ((pif_t (by rw [s]; exact a1)).trans (pif_t (by rw [s, a2, s2]; exact he))), s, a2, s2, a3, a4, a5]
theorem rdy_s {T T2 : TX} {ns : List ND} {l : List Int} {nd : ND} (h : rdy T ns) (hs : spells l nd) (hl : ns.length < 20) (hT : txI T2) (h2 : spl T T2 (l ++ [59]) ((l.length : Nat) + 1)) : rdy T2 (ns ++ [nd]) := by
  obtain ⟨h0, h1, h3⟩ := h
  obtain ⟨x0, x1, x2, x3⟩ := h2
  refine ⟨hT, by rw [List.length_append, List.length_singleton]; omega, fun T' f => ?_⟩
  have hb := h0.1
  have y := lts_xt f (l ++ [59]) T.1 hb (by rw [List.length_append, List.length_singleton]; omega) x3
  rw [lts_app] at y
  obtain ⟨y1, y2, -⟩ := y
  obtain ⟨a1, a2, a3, a4, a5, a6⟩ := hs T' T.1 y1 (Or.inr y2)
  obtain ⟨j, hj⟩ : ∃ j, 29 - ns.length = j + 1 := ⟨29 - ns.length - 1, by omega⟩
  rw [h3 T' (xt_trans x0 f), hj, ff_step a1 a2 a3 a4 a5 a6 y2, List.length_append, List.length_singleton, show 29 - (ns.length + 1) = j by omega, show T.1 + (l.length : Int) + 1 = T2.1 by omega]
  simp
theorem rdy_none {T : TX} {ns : List ND} (h : rdy T ns) : ffR T 29 0 = (-11, ns) := by
  obtain ⟨h0, h1, h3⟩ := h
  have e : tc T T.1 = -1 := tc_z T
  have s : sk T T.1 = T.1 := sk_id (by omega)
  obtain ⟨j, hj⟩ : ∃ j, 29 - ns.length = j + 1 := ⟨29 - ns.length - 1, by omega⟩
  rw [h3 T xt_rfl, hj, show ffR T (j + 1) T.1 = _ from pif_t (by rw [s]; exact e), List.append_nil]
theorem rdy_end {T T1 : TX} {ns : List ND} {l : List Int} {n : Int} {nd : ND} (h : rdy T ns) (hs : spells l nd) (h2 : spl T T1 l n) : (ffR T1 29 0).1 = T1.1 := by
  obtain ⟨h0, h1, h3⟩ := h
  obtain ⟨x0, x1, x2, x3⟩ := h2
  have e : T.1 + ((l.length : Nat) : Int) = T1.1 := by omega
  obtain ⟨a1, a2, a3, a4, a5, a6⟩ := hs T1 T.1 x3 (Or.inl (by rw [e]; exact tc_z T1))
  obtain ⟨j, hj⟩ : ∃ j, 29 - ns.length = j + 1 := ⟨29 - ns.length - 1, by omega⟩
  obtain ⟨q1, q2⟩ := k_ne a6
  have s : sk T1 T.1 = T.1 := sk_id q1
  have t : tc T1 T1.1 = -1 := tc_z T1
  have s2 : sk T1 T1.1 = T1.1 := sk_id (by omega)
  rw [h3 T1 x0, hj]
  show (ffR T1 (j + 1) T.1).1 = _
  rw [show ffR T1 (j + 1) T.1 = _ from (pif_f (by rw [s]; exact q2)).trans ((pif_t (by rw [s]; exact a1)).trans (pif_f (by rw [s, a2, e, s2]; omega))), s, a2, e, s2]
theorem rdy_want {T T1 : TX} {ns : List ND} {v p n : Int} (h : rdy T ns) (v0 : 0 ≤ v) (v1 : v ≤ 5) (p0 : 0 ≤ p) (p1 : p ≤ 2) (h2 : spl T T1 [112, 97 + v, 48 + p] n) : (ffR T1 29 0).1 = T1.1 := by
  obtain ⟨h0, h1, h3⟩ := h
  obtain ⟨x0, x1, x2, x3⟩ := h2
  have x2 : n = 3 := x2
  have e : T.1 + 3 = T1.1 := by omega
  obtain ⟨a1, a2, a6⟩ := wants_1 v0 v1 p0 p1 x3 (by rw [e]; exact tc_z T1)
  obtain ⟨j, hj⟩ : ∃ j, 29 - ns.length = j + 1 := ⟨29 - ns.length - 1, by omega⟩
  obtain ⟨q1, q2⟩ := k_ne a6
  have s : sk T1 T.1 = T.1 := sk_id q1
  rw [h3 T1 x0, hj]
  show (ffR T1 (j + 1) T.1).1 = _
  rw [show ffR T1 (j + 1) T.1 = _ from (pif_f (by rw [s]; exact q2)).trans (pif_f (by rw [s]; exact a1)), s, a2, e]
/-! a node in the law's row -/
def pIs (fp : FN) (j : Int) (nd : ND) : Prop := fp (4 * j) = nd.1 ∧ (nd.1 ≠ 6 → fp (4 * j + 1) = nd.2.1.getD 0 (-11) ∧ fp (4 * j + 2) = nd.2.1.getD 1 (-11) ∧ fp (4 * j + 3) = nd.2.1.getD 2 (-11)) ∧ (nd.1 = 6 → fp (4 * j + 1) = (nd.2.2.length : Nat) ∧ ∀ o : Nat, o < nd.2.2.length → bAnd (bShr (fp (4 * j + 2)) (5 * o)) 31 = (nd.2.2.getD o (0, 0, 0)).1 ∧ bAnd (bShr (fp (4 * j + 3)) (4 * o)) 15 = lkc (nd.2.2.getD o (0, 0, 0)).2)
theorem pIs.cp {fp fp' : FN} {j : Int} {nd : ND} (h : pIs fp j nd) (e : ∀ x : Int, 4 * j ≤ x → x < 4 * j + 4 → fp' x = fp x) : pIs fp' j nd := by
  unfold pIs
  rw [e (4 * j) (by omega) (by omega), e (4 * j + 1) (by omega) (by omega), e (4 * j + 2) (by omega) (by omega), e (4 * j + 3) (by omega) (by omega)]
  exact h
def pAll (fp : FN) (ns : List ND) : Prop := ∀ j : Nat, j < ns.length → pIs fp j (ns.getD j nd0)
theorem pAll_s {fp fp' : FN} {ns : List ND} {nd : ND} (h : pAll fp ns) (e : ∀ x : Int, 0 ≤ x → x < 4 * ns.length → fp' x = fp x) (hn : pIs fp' (ns.length : Nat) nd) : pAll fp' (ns ++ [nd]) := fun j hj => by
  rw [List.length_append, List.length_singleton] at hj
  by_cases q : j < ns.length
  · rw [getD_lt q]
    exact (h j q).cp (fun x x0 x1 => e x (by omega) (by omega))
  · have q' : j = ns.length := by omega
    subst q'
    rw [getD_at]
    exact hn
/-- the law's rows against the class's script, behind the reading -/
theorem pRel_of {T : TX} {ns : List ND} {fp : FN} {Sd : SC} (h : rdy T ns) (hn : ns.length ≤ 12) (ha : pAll fp ns) (h60 : fp 60 = (ns.length : Nat)) : ∃ B : FN, rScr B (rdS Sd T) ∧ pRel fp (rdS Sd T) := by
  have e := rdy_none h
  have e2 : (ffR T 29 0).2 = ns := by rw [e]
  have fit := ffR_fit (T := T) 29 0
  rw [e2] at fit
  obtain ⟨B, hR⟩ := rows_ex ns (fun nd hd => (ndFit_small (fit.2 nd hd)).2)
  have hB : rScr B (rdS Sd T) := rScr_text (T := T) (S := Sd) (by rw [e2]; exact hR)
  have hl : (rdS Sd T).1 = (ns.length : Nat) := (addAll_n (T := T) (S := Sd)).trans (by rw [e2])
  refine ⟨B, hB, h60.trans hl.symm, by rw [hl]; omega, fun v v0 v1 => ?_⟩
  rw [hl] at v1
  obtain ⟨j, rfl⟩ : ∃ j : Nat, v = (j : Nat) := ⟨v.toNat, by omega⟩
  have hj : j < ns.length := by omega
  have g := hB.2 j v0 (by rw [hl]; exact v1)
  obtain ⟨r0, r1⟩ := hR j hj
  obtain ⟨a0, a1, a2⟩ := ha j hj
  obtain ⟨b0, b1, b2⟩ := r0
  generalize ns.getD j nd0 = nd at *
  have k : cKind (rdS Sd T) j = nd.1 := g.kd.symm.trans b0
  refine ⟨a0.trans k.symm, fun z => ?_, fun z => ?_⟩
  · rw [k] at z
    obtain ⟨u1, u2, u3⟩ := a1 z
    obtain ⟨w1, w2, w3⟩ := b1 z
    exact ⟨u1.trans (w1.symm.trans g.n0), u2.trans (w2.symm.trans g.n1), u3.trans (w3.symm.trans g.n2)⟩
  · obtain ⟨c1, c2, c3⟩ := g.r6 z
    rw [k] at z
    obtain ⟨u1, u2⟩ := a2 z
    obtain ⟨w1, w2, w3, w4⟩ := b2 z
    have co : cOpts (rdS Sd T) j = (nd.2.2.length : Nat) := c1.trans (g.n0.symm.trans w1)
    refine ⟨u1.trans co.symm, fun o o0 o1 => ?_⟩
    obtain ⟨d1, d2, -⟩ := c3 o o0 o1
    rw [co] at o1
    obtain ⟨i, rfl⟩ : ∃ i : Nat, o = (i : Nat) := ⟨o.toNat, by omega⟩
    have hi : i < nd.2.2.length := by omega
    obtain ⟨x1, x2⟩ := u2 i hi
    obtain ⟨y1, y2⟩ := w4 i hi
    exact ⟨x1.trans (y1.symm.trans d1), x2.trans (y2.symm.trans d2)⟩
