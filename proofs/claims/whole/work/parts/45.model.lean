/-! ===== the reference: locks, moments ===== -/
/-- a frame of the reference's cells by their places -/
def Fp (h h' : AH) (q : Nat) (l : List Nat) : Prop := h'.1 = h.1 ∧ ∀ x, (∀ k, k ∈ l → x ≠ q + k) → h'.2 x = h.2 x
theorem Fp.rfl {h : AH} {q : Nat} {l : List Nat} : Fp h h q l := ⟨Eq.refl _, fun _ _ => Eq.refl _⟩
theorem Fp.trans {h h1 h2 : AH} {q : Nat} {l : List Nat} (f : Fp h h1 q l) (g : Fp h1 h2 q l) : Fp h h2 q l := ⟨g.1.trans f.1, fun x hx => (g.2 x hx).trans (f.2 x hx)⟩
theorem Fp.get {h h' : AH} {q j : Nat} {l : List Nat} {c : AC} (f : Fp h h' q l) (e : h.2 (q + j) = some c) (hj : l.contains j = false := by decide) : h'.2 (q + j) = some c :=
  (f.2 _ (fun k hk z => by have : k = j := by omega
                           subst this
                           rw [List.contains_iff_mem.2 hk] at hj
                           exact Bool.noConfusion hj)).trans e
theorem Fp.get0 {h h' : AH} {q : Nat} {l : List Nat} {c : AC} (f : Fp h h' q l) (e : h.2 q = some c) (hj : l.contains 0 = false := by decide) : h'.2 q = some c := Fp.get (j := 0) f e hj
theorem Fp.wide {h h' : AH} {q : Nat} {l m : List Nat} (f : Fp h h' q l) (s : (l.all fun k => m.contains k) = true := by decide) : Fp h h' q m := ⟨f.1, fun x hx => f.2 x (fun k hk => hx k (List.contains_iff_mem.1 (List.all_eq_true.1 s k hk)))⟩
theorem Fp.of {h h' : AH} {q j : Nat} {l : List Nat} (f : Fr h h' (q + j) 1) (s : l.contains j = true := by decide) : Fp h h' q l := ⟨f.1, fun x hx => f.2 x (by have := hx j (List.contains_iff_mem.1 s); omega)⟩
theorem Fp.of0 {h h' : AH} {q : Nat} {l : List Nat} (f : Fr h h' q 1) (s : l.contains 0 = true := by decide) : Fp h h' q l := Fp.of (j := 0) f s
theorem Fp.ofs {h h' : AH} {q : Nat} {l : List Nat} (f : Fr2 h h' q 1 (q + 7) 2) (s0 : l.contains 0 = true := by decide) (s7 : l.contains 7 = true := by decide) (s8 : l.contains 8 = true := by decide) : Fp h h' q l := ⟨f.1, fun x hx => by
  have a := hx 0 (List.contains_iff_mem.1 s0)
  have b := hx 7 (List.contains_iff_mem.1 s7)
  have c := hx 8 (List.contains_iff_mem.1 s8)
  exact f.2 x (by omega) (by omega)⟩
theorem Fp.of2 {h h' : AH} {q i j : Nat} {l : List Nat} (f : Fr2 h h' (q + i) 1 (q + j) 1) (s0 : l.contains i = true := by decide) (s7 : l.contains j = true := by decide) : Fp h h' q l := ⟨f.1, fun x hx => by
  have a := hx i (List.contains_iff_mem.1 s0)
  have b := hx j (List.contains_iff_mem.1 s7)
  exact f.2 x (by omega) (by omega)⟩
theorem Fp.fr {h h' : AH} {q : Nat} {l : List Nat} (f : Fp h h' q l) (s : (l.all fun k => k < 16) = true := by decide) : Fr h h' q 16 := ⟨f.1, fun x hx => f.2 x (fun k hk z => by have := List.all_eq_true.1 s k hk; have : k < 16 := of_decide_eq_true this; omega)⟩
/-- a row of the reference holds a moment -/
def rowM (Mo : Int → Int) (p : Int) (m : MO) : Prop := Mo p = m.1 ∧ Mo (p + 1) = m.2.1 ∧ ∀ k : Int, 0 ≤ k → k < 3 → Mo (p + 2 + k) = m.2.2.1 k ∧ Mo (p + 5 + k) = m.2.2.2 k
theorem rowM_congr {Mo Mo' : Int → Int} {p : Int} {m : MO} (h : rowM Mo p m) (e : ∀ j, p ≤ j → j < p + 8 → Mo' j = Mo j) : rowM Mo' p m :=
  ⟨(e _ (by omega) (by omega)).trans h.1, (e _ (by omega) (by omega)).trans h.2.1, fun k h0 h1 => ⟨(e _ (by omega) (by omega)).trans (h.2.2 k h0 h1).1, (e _ (by omega) (by omega)).trans (h.2.2 k h0 h1).2⟩⟩
def moOk (S : SC) (m : MO) : Prop := (0 ≤ m.1 ∧ m.1 ≤ 30) ∧ (0 ≤ m.2.1 ∧ m.2.1 ≤ 63) ∧ cShown S m.1 ∧ ∀ k : Int, 0 ≤ k → k < 3 → m.2.2.1 k = -11 → m.2.2.2 k = -11
theorem scr_ok {S : SC} {m : MO} {fl : Int} {V F : Int → Int} (h : scrR m fl V F) (h0 : 0 ≤ m.1) (h1 : m.1 ≤ 30) (hs : cShown S m.1) : moOk S m := ⟨⟨h0, h1⟩, by rw [h.1]; exact h.2.1, hs, fun k k0 k1 e => by
  obtain ⟨a, b⟩ := h.2.2 k k0 k1
  rw [b, if_pos (by rw [← a]; exact e)]⟩
set_option maxRecDepth 100000 in
set_option maxHeartbeats 4000000 in
theorem s6_isLocked {d : Nat} {h : AH} {R : RP} {v o fl0 : Int} {q : Nat} {rd fi co ah se tl ps fa fl ch : Int} {hx : Int64} {S : SC} {B : Int → Int} (w0 : h.2 q = some (mobj q S.1 rd fi co ah se tl ps fa fl ch hx)) (w1 : h.2 (q + 1) = some (kA 0 348 B)) (hB : rScr B S) (h0 : 0 ≤ v) (h1 : v < S.1) (hk : cKind S v = 6) (o0 : 0 ≤ o) (o1 : o < cOpts S v) (k : R (some (vI (bi (¬ cOpen S v o fl0)))) h) : AM m6_isLocked (d + 1) h [vR q, vI v, vI o, vI fl0] R := by
  refine AM.of (L := [some (vR q), some (vI v), some (vI o), some (vI fl0), none, none]) ok_6_isLocked (by decide) (fun G => Nat.le_of_ble_eq_true rfl) rfl ?_
  have hB1 := hB.1
  have g := hB.2 v h0 h1
  obtain ⟨ga, gb, gc⟩ := g.r6 hk
  obtain ⟨r1, r2, r3, r4⟩ := gc o o0 o1
  have hL : B (12 * v + (4 + 2 * o + 1)) = lkc (cPart S v o 1, cPart S v o 2) := by rw [show 12 * v + (4 + 2 * o + 1) = 12 * v + 4 + 2 * o + 1 by omega]; exact r2
  have hl : (cPart S v o 1 = 0 ∧ B (12 * v + (4 + 2 * o + 1)) = 0) ∨ ((cPart S v o 1 = 1 ∨ cPart S v o 1 = 2) ∧ B (12 * v + (4 + 2 * o + 1)) = cPart S v o 1 + 2 * cPart S v o 2 ∧ 0 ≤ cPart S v o 2 ∧ cPart S v o 2 ≤ 5) := by
    rw [hL]; unfold lkc
    rcases r4 with z | z
    · exact Or.inl ⟨z.1, if_pos z.1⟩
    · exact Or.inr ⟨z.1, if_neg (by show ¬ cPart S v o 1 = 0; omega), z.2⟩
  have hX : B (12 * v + (4 + 2 * o + 1)) ≠ 0 → (fon fl0 (cPart S v o 2) ↔ bAnd (bShr fl0 ((B (12 * v + (4 + 2 * o + 1)) - 1) / 2)) 1 = 1) := fun z => by
    rw [show (B (12 * v + (4 + 2 * o + 1)) - 1) / 2 = cPart S v o 2 by omega]; exact Iff.rfl
  refine A.al6_0 d6_isLocked_0 ?_
  refine A.il6_1 d6_isLocked_1 ?_
  refine A.iconst d6_isLocked_2 ?_
  refine A.iconst d6_isLocked_3 ?_
  refine A.il6_2 d6_isLocked_4 ?_
  refine A.imul d6_isLocked_5 ?_
  refine A.iadd d6_isLocked_6 ?_
  refine A.iconst d6_isLocked_7 ?_
  refine A.iadd d6_isLocked_8 ?_
  refine A.v2 d6_isLocked_9 (s6_of w0 w1 hB (by omega) (by omega) (by omega) (by omega) (kS ?_)) (hc := w0)
  refine A.is6_4 d6_isLocked_12 ?_
  refine A.il6_4 d6_isLocked_14 ?_
  refine A.if_ne d6_isLocked_16 (fun c16 => ?_) (fun c16 => ?_)
  · refine A.il6_3 d6_isLocked_21 ?_
    refine A.il6_4 d6_isLocked_22 ?_
    refine A.iconst d6_isLocked_24 ?_
    refine A.isub d6_isLocked_25 ?_
    refine A.iconst d6_isLocked_26 ?_
    refine A.idiv d6_isLocked_27 ?_
    refine A.ishr d6_isLocked_28 ?_
    refine A.iconst d6_isLocked_29 ?_
    refine A.iand d6_isLocked_30 ?_
    refine A.iconst d6_isLocked_31 ?_
    refine A.ic_ne d6_isLocked_32 (fun c32 => ?_) (fun c32 => ?_)
    · refine A.iconst d6_isLocked_39 ?_
      refine A.is6_5 d6_isLocked_40 ?_
      refine A.il6_4 d6_isLocked_42 ?_
      refine A.iconst d6_isLocked_44 ?_
      refine A.irem d6_isLocked_45 ?_
      refine A.iconst d6_isLocked_46 ?_
      refine A.ic_ne d6_isLocked_47 (fun c47 => ?_) (fun c47 => ?_)
      · refine A.il6_5 d6_isLocked_63 ?_
        refine A.zret d6_isLocked_65 ?_
        first
          | (exfalso; omega)
          | exact rF k (fun z => z ⟨o0, o1, Or.inr ⟨fun _ => by omega, fun _ => (hX c16).2 c32⟩⟩)
          | exact rF k (fun z => z ⟨o0, o1, Or.inr ⟨fun y => absurd ((hX c16).1 y) c32, fun y => by omega⟩⟩)
          | exact rT k (fun z => z.2.2.elim (fun y => by omega) (fun y => by have := y.1 ((hX c16).2 c32); omega))
          | exact rT k (fun z => z.2.2.elim (fun y => by omega) (fun y => c32 ((hX c16).1 (y.2 (by omega)))))
      · refine A.il6_5 d6_isLocked_50 ?_
        refine A.if_ne d6_isLocked_52 (fun c52 => ?_) (fun c52 => ?_)
        · refine A.iconst d6_isLocked_59 ?_
          refine A.goto d6_isLocked_60 ?_
          refine A.zret d6_isLocked_65 ?_
          first
            | (exfalso; omega)
            | exact rF k (fun z => z ⟨o0, o1, Or.inr ⟨fun _ => by omega, fun _ => (hX c16).2 c32⟩⟩)
            | exact rF k (fun z => z ⟨o0, o1, Or.inr ⟨fun y => absurd ((hX c16).1 y) c32, fun y => by omega⟩⟩)
            | exact rT k (fun z => z.2.2.elim (fun y => by omega) (fun y => by have := y.1 ((hX c16).2 c32); omega))
            | exact rT k (fun z => z.2.2.elim (fun y => by omega) (fun y => c32 ((hX c16).1 (y.2 (by omega)))))
        · refine A.iconst d6_isLocked_55 ?_
          refine A.goto d6_isLocked_56 ?_
          refine A.zret d6_isLocked_65 ?_
          first
            | (exfalso; omega)
            | exact rF k (fun z => z ⟨o0, o1, Or.inr ⟨fun _ => by omega, fun _ => (hX c16).2 c32⟩⟩)
            | exact rF k (fun z => z ⟨o0, o1, Or.inr ⟨fun y => absurd ((hX c16).1 y) c32, fun y => by omega⟩⟩)
            | exact rT k (fun z => z.2.2.elim (fun y => by omega) (fun y => by have := y.1 ((hX c16).2 c32); omega))
            | exact rT k (fun z => z.2.2.elim (fun y => by omega) (fun y => c32 ((hX c16).1 (y.2 (by omega)))))
    · refine A.iconst d6_isLocked_35 ?_
      refine A.goto d6_isLocked_36 ?_
      refine A.is6_5 d6_isLocked_40 ?_
      refine A.il6_4 d6_isLocked_42 ?_
      refine A.iconst d6_isLocked_44 ?_
      refine A.irem d6_isLocked_45 ?_
      refine A.iconst d6_isLocked_46 ?_
      refine A.ic_ne d6_isLocked_47 (fun c47 => ?_) (fun c47 => ?_)
      · refine A.il6_5 d6_isLocked_63 ?_
        refine A.zret d6_isLocked_65 ?_
        first
          | (exfalso; omega)
          | exact rF k (fun z => z ⟨o0, o1, Or.inr ⟨fun _ => by omega, fun _ => (hX c16).2 c32⟩⟩)
          | exact rF k (fun z => z ⟨o0, o1, Or.inr ⟨fun y => absurd ((hX c16).1 y) c32, fun y => by omega⟩⟩)
          | exact rT k (fun z => z.2.2.elim (fun y => by omega) (fun y => by have := y.1 ((hX c16).2 c32); omega))
          | exact rT k (fun z => z.2.2.elim (fun y => by omega) (fun y => c32 ((hX c16).1 (y.2 (by omega)))))
      · refine A.il6_5 d6_isLocked_50 ?_
        refine A.if_ne d6_isLocked_52 (fun c52 => ?_) (fun c52 => ?_)
        · refine A.iconst d6_isLocked_59 ?_
          refine A.goto d6_isLocked_60 ?_
          refine A.zret d6_isLocked_65 ?_
          first
            | (exfalso; omega)
            | exact rF k (fun z => z ⟨o0, o1, Or.inr ⟨fun _ => by omega, fun _ => (hX c16).2 c32⟩⟩)
            | exact rF k (fun z => z ⟨o0, o1, Or.inr ⟨fun y => absurd ((hX c16).1 y) c32, fun y => by omega⟩⟩)
            | exact rT k (fun z => z.2.2.elim (fun y => by omega) (fun y => by have := y.1 ((hX c16).2 c32); omega))
            | exact rT k (fun z => z.2.2.elim (fun y => by omega) (fun y => c32 ((hX c16).1 (y.2 (by omega)))))
        · refine A.iconst d6_isLocked_55 ?_
          refine A.goto d6_isLocked_56 ?_
          refine A.zret d6_isLocked_65 ?_
          first
            | (exfalso; omega)
            | exact rF k (fun z => z ⟨o0, o1, Or.inr ⟨fun _ => by omega, fun _ => (hX c16).2 c32⟩⟩)
            | exact rF k (fun z => z ⟨o0, o1, Or.inr ⟨fun y => absurd ((hX c16).1 y) c32, fun y => by omega⟩⟩)
            | exact rT k (fun z => z.2.2.elim (fun y => by omega) (fun y => by have := y.1 ((hX c16).2 c32); omega))
            | exact rT k (fun z => z.2.2.elim (fun y => by omega) (fun y => c32 ((hX c16).1 (y.2 (by omega)))))
  · refine A.iconst d6_isLocked_19 ?_
    refine A.zret d6_isLocked_20 ?_
    exact rF k (fun z => z ⟨o0, o1, Or.inl (by omega)⟩)
set_option maxRecDepth 100000 in
set_option maxHeartbeats 4000000 in
theorem s6_placeOf {d : Nat} {h : AH} {R : RP} {k0 : Int} {q : Nat} {rd fi co ah se tl ps fa fl ch : Int} {hx : Int64} {S : SC} {B : Int → Int} (w0 : h.2 q = some (mobj q S.1 rd fi co ah se tl ps fa fl ch hx)) (hf0 : 0 ≤ fi) (hf1 : fi < 20) (k0a : 0 ≤ k0) (k0b : k0 < 20) (k : R (some (vI (8 * ((fi + k0) % 20)))) h) : AM m6_placeOf (d) h [vR q, vI k0] R := by
  refine AM.of (L := [some (vR q), some (vI k0)]) ok_6_placeOf (by decide) (fun G => Nat.le_of_ble_eq_true rfl) rfl ?_
  refine A.bipush d6_placeOf_0 ?_
  refine A.al2_0 d6_placeOf_2 ?_
  refine A.getf d6_placeOf_3 ?_ (hc := w0)
  refine A.il2_1 d6_placeOf_6 ?_
  refine A.iadd d6_placeOf_7 ?_
  refine A.bipush d6_placeOf_8 ?_
  refine A.irem d6_placeOf_10 ?_
  refine A.imul d6_placeOf_11 ?_
  refine A.iret d6_placeOf_12 ?_
  exact k
set_option maxRecDepth 100000 in
set_option maxHeartbeats 4000000 in
theorem s6_present {d : Nat} {h : AH} {R : RP} {w : Int} {q : Nat} {rd fi co ah se tl ps fa fl ch : Int} {hx : Int64} {S : SC} {B : Int → Int} (w0 : h.2 q = some (mobj q S.1 rd fi co ah se tl ps fa fl ch hx)) {Mo : Int → Int} (w3 : h.2 (q + 3) = some (kA 0 160 Mo)) (hf0 : 0 ≤ fi) (hf1 : fi < 20) (hc0 : 1 ≤ co) (hc1 : co ≤ 20) (a0 : 0 ≤ w) (a1 : w ≤ 7) (k : R (some (vI (Mo (8 * ((fi + (co - 1)) % 20) + w)))) h) : AM m6_present (d + 1) h [vR q, vI w] R := by
  refine AM.of (L := [some (vR q), some (vI w)]) ok_6_present (by decide) (fun G => Nat.le_of_ble_eq_true rfl) rfl ?_
  refine A.al2_0 d6_present_0 ?_
  refine A.getf d6_present_1 ?_ (hc := w0)
  refine A.al2_0 d6_present_4 ?_
  refine A.al2_0 d6_present_5 ?_
  refine A.getf d6_present_6 ?_ (hc := w0)
  refine A.iconst d6_present_9 ?_
  refine A.isub d6_present_10 ?_
  refine A.v1 d6_present_11 (s6_placeOf (B := fun _ => 0) w0 hf0 hf1 (by omega) (by omega) (kS ?_)) (hc := w0)
  refine A.il2_1 d6_present_14 ?_
  refine A.iadd d6_present_15 ?_
  refine A.iald d6_present_16 ?_ (hc := w3)
  refine A.iret d6_present_17 ?_
  exact k
set_option maxRecDepth 100000 in
set_option maxHeartbeats 4000000 in
theorem s6_puts {d : Nat} {h : AH} {R : RP} {q : Nat} {rd fi co ah se tl ps fa fl ch : Int} {hx : Int64} {S : SC} {B : Int → Int} (w0 : h.2 q = some (mobj q S.1 rd fi co ah se tl ps fa fl ch hx)) {Mo : Int → Int} (w3 : h.2 (q + 3) = some (kA 0 160 Mo)) {m : MO} {V F : Int → Int} (w7 : h.2 (q + 7) = some (kA 0 3 V)) (w8 : h.2 (q + 8) = some (kA 0 3 F)) (hs : scrR m fl V F) (hn0 : 0 ≤ m.1) (hn1 : m.1 ≤ 30) (hf0 : 0 ≤ fi) (hf1 : fi < 20) (hc0 : 1 ≤ co) (hc1 : co ≤ 20) (k : ∀ h' Mo', h'.2 q = some (mobj q S.1 rd fi co ah (bOr se (bShl 1 m.1)) tl ps fa fl ch hx) → h'.2 (q + 3) = some (kA 0 160 Mo') → rowM Mo' (8 * ((fi + (co - 1)) % 20)) m → (∀ j, ¬ (8 * ((fi + (co - 1)) % 20) ≤ j ∧ j < 8 * ((fi + (co - 1)) % 20) + 8) → Mo' j = Mo j) → Fp h h' q [0, 3] → R none h') : AM m6_puts (d + 1) h [vR q, vI m.1] R := by
  refine AM.of (L := [some (vR q), some (vI m.1), none, none]) ok_6_puts (by decide) (fun G => Nat.le_of_ble_eq_true rfl) rfl ?_
  obtain ⟨p, hp⟩ : ∃ p, p = 8 * ((fi + (co - 1)) % 20) := ⟨_, rfl⟩
  have hpr : 0 ≤ p ∧ p ≤ 152 := by omega
  have loop : ∀ (nf : Nat) (i : Nat) (Mo1 : Int → Int) (h1 : AH) (hi : i ≤ 3) (w0 : h1.2 q = some (mobj q S.1 rd fi co ah se tl ps fa fl ch hx)) (w3 : h1.2 (q + 3) = some (kA 0 160 Mo1)) (w7 : h1.2 (q + 7) = some (kA 0 3 V)) (w8 : h1.2 (q + 8) = some (kA 0 3 F)) (hF : Fp h h1 q [0, 3]) (y0 : Mo1 p = m.1) (y1 : Mo1 (p + 1) = fl) (y2 : ∀ j : Int, 0 ≤ j → j < i → Mo1 (p + 2 + j) = V j ∧ Mo1 (p + 5 + j) = if V j = -11 then -11 else F j) (y3 : ∀ j, ¬ (p ≤ j ∧ j < p + 8) → Mo1 j = Mo j) (hn : 3 - i < nf), AW m6_puts (d + 1) (mC m6_puts, mS m6_puts) 32 [some (vR q), some (vI m.1), some (vI p), some (vI i)] [] h1 R := by
    intro nf
    induction nf with
    | zero => intro i  Mo1  h1  hi w0 w3 w7 w8 hF y0 y1 y2 y3 hn; omega
    | succ nf ih =>
      intro i  Mo1  h1  hi w0 w3 w7 w8 hF y0 y1 y2 y3 hn
      refine A.il4_3 d6_puts_32 ?_
      refine A.iconst d6_puts_33 ?_
      refine A.ic_ge d6_puts_34 (fun c34 => ?_) (fun c34 => ?_)
      · refine A.al4_0 d6_puts_91 ?_
        refine A.dup d6_puts_92 ?_
        refine A.getf d6_puts_93 ?_ (hc := w0)
        refine A.iconst d6_puts_96 ?_
        refine A.il4_1 d6_puts_97 ?_
        refine A.ishl d6_puts_98 ?_
        refine A.ior d6_puts_99 ?_
        refine A.putf d6_puts_100 (fun h100 e100 f100 => ?_) (hc := w0) (hk := blt_ok rfl)
        first | (have w0 := (f100.2 _ (by omega)).trans w0) | (have w0 := e100)
        first | (have w3 := (f100.2 _ (by omega)).trans w3) | (have w3 := e100)
        first | (have w7 := (f100.2 _ (by omega)).trans w7) | (have w7 := e100)
        first | (have w8 := (f100.2 _ (by omega)).trans w8) | (have w8 := e100)
        refine A.vret d6_puts_103 ?_
        refine k _ _ w0 w3 ?_ (fun j hj => y3 j (by omega)) (hF.trans (Fp.of0 f100))
        rw [← hp]
        exact ⟨y0, y1.trans hs.1.symm, fun j j0 j1 => ⟨(y2 j j0 (by omega)).1.trans (hs.2.2 j j0 j1).1.symm, (y2 j j0 (by omega)).2.trans (hs.2.2 j j0 j1).2.symm⟩⟩
      · refine A.al4_0 d6_puts_37 ?_
        refine A.getf d6_puts_38 ?_ (hc := w0)
        refine A.il4_2 d6_puts_41 ?_
        refine A.iconst d6_puts_42 ?_
        refine A.iadd d6_puts_43 ?_
        refine A.il4_3 d6_puts_44 ?_
        refine A.iadd d6_puts_45 ?_
        refine A.al4_0 d6_puts_46 ?_
        refine A.getf d6_puts_47 ?_ (hc := w0)
        refine A.il4_3 d6_puts_50 ?_
        refine A.iald d6_puts_51 ?_ (hc := w7)
        refine A.iast d6_puts_52 (fun h52 e52 f52 => ?_) (hc := w3)
        first | (have w0 := (f52.2 _ (by omega)).trans w0) | (have w0 := e52)
        first | (have w3 := (f52.2 _ (by omega)).trans w3) | (have w3 := e52)
        first | (have w7 := (f52.2 _ (by omega)).trans w7) | (have w7 := e52)
        first | (have w8 := (f52.2 _ (by omega)).trans w8) | (have w8 := e52)
        refine A.al4_0 d6_puts_53 ?_
        refine A.getf d6_puts_54 ?_ (hc := w0)
        refine A.il4_2 d6_puts_57 ?_
        refine A.iconst d6_puts_58 ?_
        refine A.iadd d6_puts_59 ?_
        refine A.il4_3 d6_puts_60 ?_
        refine A.iadd d6_puts_61 ?_
        refine A.al4_0 d6_puts_62 ?_
        refine A.getf d6_puts_63 ?_ (hc := w0)
        refine A.il4_3 d6_puts_66 ?_
        refine A.iald d6_puts_67 ?_ (hc := w7)
        refine A.bipush d6_puts_68 ?_
        refine A.ic_ne d6_puts_70 (fun c70 => ?_) (fun c70 => ?_)
        · refine A.al4_0 d6_puts_78 ?_
          refine A.getf d6_puts_79 ?_ (hc := w0)
          refine A.il4_3 d6_puts_82 ?_
          refine A.iald d6_puts_83 ?_ (hc := w8)
          refine A.iast d6_puts_84 (fun h84 e84 f84 => ?_) (hc := w3)
          first | (have w0 := (f84.2 _ (by omega)).trans w0) | (have w0 := e84)
          first | (have w3 := (f84.2 _ (by omega)).trans w3) | (have w3 := e84)
          first | (have w7 := (f84.2 _ (by omega)).trans w7) | (have w7 := e84)
          first | (have w8 := (f84.2 _ (by omega)).trans w8) | (have w8 := e84)
          refine A.ii4_3 d6_puts_85 ?_
          refine A.goto d6_puts_88 ?_
          refine ih (i + 1) _ _ (by omega) w0 w3 w7 w8 ((hF.trans (Fp.of f52)).trans (Fp.of f84)) ((fs_off (by omega)).trans ((fs_off (by omega)).trans y0)) ((fs_off (by omega)).trans ((fs_off (by omega)).trans y1)) (fun j j0 j1 => ?_) (fun j hj => (fs_off (by omega)).trans ((fs_off (by omega)).trans (y3 j hj))) (by omega)
          by_cases e : j = i
          · subst e
            refine ⟨(fs_off (by omega)).trans (fs_at rfl), (fs_at rfl).trans ?_⟩
            first | rw [if_pos (by omega)] | rw [if_neg (by omega)]
          · exact ⟨(fs_off (by omega)).trans ((fs_off (by omega)).trans (y2 j j0 (by omega)).1), (fs_off (by omega)).trans ((fs_off (by omega)).trans (y2 j j0 (by omega)).2)⟩
        · refine A.bipush d6_puts_73 ?_
          refine A.goto d6_puts_75 ?_
          refine A.iast d6_puts_84 (fun h84 e84 f84 => ?_) (hc := w3)
          first | (have w0 := (f84.2 _ (by omega)).trans w0) | (have w0 := e84)
          first | (have w3 := (f84.2 _ (by omega)).trans w3) | (have w3 := e84)
          first | (have w7 := (f84.2 _ (by omega)).trans w7) | (have w7 := e84)
          first | (have w8 := (f84.2 _ (by omega)).trans w8) | (have w8 := e84)
          refine A.ii4_3 d6_puts_85 ?_
          refine A.goto d6_puts_88 ?_
          refine ih (i + 1) _ _ (by omega) w0 w3 w7 w8 ((hF.trans (Fp.of f52)).trans (Fp.of f84)) ((fs_off (by omega)).trans ((fs_off (by omega)).trans y0)) ((fs_off (by omega)).trans ((fs_off (by omega)).trans y1)) (fun j j0 j1 => ?_) (fun j hj => (fs_off (by omega)).trans ((fs_off (by omega)).trans (y3 j hj))) (by omega)
          by_cases e : j = i
          · subst e
            refine ⟨(fs_off (by omega)).trans (fs_at rfl), (fs_at rfl).trans ?_⟩
            first | rw [if_pos (by omega)] | rw [if_neg (by omega)]
          · exact ⟨(fs_off (by omega)).trans ((fs_off (by omega)).trans (y2 j j0 (by omega)).1), (fs_off (by omega)).trans ((fs_off (by omega)).trans (y2 j j0 (by omega)).2)⟩
  refine A.al4_0 d6_puts_0 ?_
  refine A.al4_0 d6_puts_1 ?_
  refine A.getf d6_puts_2 ?_ (hc := w0)
  refine A.iconst d6_puts_5 ?_
  refine A.isub d6_puts_6 ?_
  refine A.v1 d6_puts_7 (s6_placeOf (B := fun _ => 0) w0 hf0 hf1 (by omega) (by omega) (kS ?_)) (hc := w0)
  rw [← hp]
  refine A.is4_2 d6_puts_10 ?_
  refine A.al4_0 d6_puts_11 ?_
  refine A.getf d6_puts_12 ?_ (hc := w0)
  refine A.il4_2 d6_puts_15 ?_
  refine A.il4_1 d6_puts_16 ?_
  refine A.iast d6_puts_17 (fun h17 e17 f17 => ?_) (hc := w3)
  first | (have w0 := (f17.2 _ (by omega)).trans w0) | (have w0 := e17)
  first | (have w3 := (f17.2 _ (by omega)).trans w3) | (have w3 := e17)
  first | (have w7 := (f17.2 _ (by omega)).trans w7) | (have w7 := e17)
  first | (have w8 := (f17.2 _ (by omega)).trans w8) | (have w8 := e17)
  refine A.al4_0 d6_puts_18 ?_
  refine A.getf d6_puts_19 ?_ (hc := w0)
  refine A.il4_2 d6_puts_22 ?_
  refine A.iconst d6_puts_23 ?_
  refine A.iadd d6_puts_24 ?_
  refine A.al4_0 d6_puts_25 ?_
  refine A.getf d6_puts_26 ?_ (hc := w0)
  refine A.iast d6_puts_29 (fun h29 e29 f29 => ?_) (hc := w3)
  first | (have w0 := (f29.2 _ (by omega)).trans w0) | (have w0 := e29)
  first | (have w3 := (f29.2 _ (by omega)).trans w3) | (have w3 := e29)
  first | (have w7 := (f29.2 _ (by omega)).trans w7) | (have w7 := e29)
  first | (have w8 := (f29.2 _ (by omega)).trans w8) | (have w8 := e29)
  refine A.iconst d6_puts_30 ?_
  refine A.is4_3 d6_puts_31 ?_
  exact loop 4 0 _ _ (by omega) w0 w3 w7 w8 ((Fp.rfl.trans (Fp.of f17)).trans (Fp.of f29)) ((fs_off (by omega)).trans (fs_at rfl)) (fs_at rfl) (fun j j0 j1 => by omega) (fun j hj => (fs_off (by omega)).trans (fs_off (by omega))) (by omega)
set_option maxRecDepth 100000 in
set_option maxHeartbeats 4000000 in
theorem s6_takes {d : Nat} {h : AH} {R : RP} {q : Nat} {rd fi co ah se tl ps fa fl ch : Int} {hx : Int64} {S : SC} {B : Int → Int} (w0 : h.2 q = some (mobj q S.1 rd fi co ah se tl ps fa fl ch hx)) {Mo : Int → Int} (w3 : h.2 (q + 3) = some (kA 0 160 Mo)) {m : MO} {V F : Int → Int} (w7 : h.2 (q + 7) = some (kA 0 3 V)) (w8 : h.2 (q + 8) = some (kA 0 3 F)) (hf0 : 0 ≤ fi) (hf1 : fi < 20) (hc0 : 1 ≤ co) (hc1 : co ≤ 20) (hr : rowM Mo (8 * ((fi + (co - 1)) % 20)) m) (hm : moOk S m) (k : ∀ h' V' F', h'.2 q = some (mobj q S.1 rd fi co ah se tl ps fa m.2.1 ch hx) → h'.2 (q + 7) = some (kA 0 3 V') → h'.2 (q + 8) = some (kA 0 3 F') → scrR m m.2.1 V' F' → Fr2 h h' q 1 (q + 7) 2 → R none h') : AM m6_takes (d + 2) h [vR q] R := by
  refine AM.of (L := [some (vR q), none]) ok_6_takes (by decide) (fun G => Nat.le_of_ble_eq_true rfl) rfl ?_
  have loop : ∀ (nf : Nat) (i : Nat) (V1 F1 : Int → Int) (h1 : AH) (hi : i ≤ 3) (w0 : h1.2 q = some (mobj q S.1 rd fi co ah se tl ps fa m.2.1 ch hx)) (w3 : h1.2 (q + 3) = some (kA 0 160 Mo)) (w7 : h1.2 (q + 7) = some (kA 0 3 V1)) (w8 : h1.2 (q + 8) = some (kA 0 3 F1)) (hF : Fr2 h h1 q 1 (q + 7) 2) (y : ∀ j : Int, 0 ≤ j → j < i → V1 j = m.2.2.1 j ∧ F1 j = m.2.2.2 j) (hn : 3 - i < nf), AW m6_takes (d + 2) (mC m6_takes, mS m6_takes) 11 [some (vR q), some (vI i)] [] h1 R := by
    intro nf
    induction nf with
    | zero => intro i  V1 F1  h1  hi w0 w3 w7 w8 hF y hn; omega
    | succ nf ih =>
      intro i  V1 F1  h1  hi w0 w3 w7 w8 hF y hn
      refine A.il2_1 d6_takes_11 ?_
      refine A.iconst d6_takes_12 ?_
      refine A.ic_ge d6_takes_13 (fun c13 => ?_) (fun c13 => ?_)
      · refine A.vret d6_takes_48 ?_
        refine k _ _ _ w0 w7 w8 ⟨rfl, hm.2.1, fun j j0 j1 => ?_⟩ hF
        obtain ⟨a, b⟩ := y j j0 (by omega)
        refine ⟨a.symm, ?_⟩
        by_cases e : V1 j = -11
        · rw [if_pos e]; exact hm.2.2.2 j j0 j1 (by rw [← a]; exact e)
        · rw [if_neg e]; exact b.symm
      · refine A.al2_0 d6_takes_16 ?_
        refine A.getf d6_takes_17 ?_ (hc := w0)
        refine A.il2_1 d6_takes_20 ?_
        refine A.al2_0 d6_takes_21 ?_
        refine A.iconst d6_takes_22 ?_
        refine A.il2_1 d6_takes_23 ?_
        refine A.iadd d6_takes_24 ?_
        refine A.v1 d6_takes_25 (s6_present (B := fun _ => 0) w0 w3 hf0 hf1 hc0 hc1 (by omega) (by omega) (kS ?_)) (hc := w0)
        refine A.iast d6_takes_28 (fun h28 e28 f28 => ?_) (hc := w7)
        first | (have w0 := (f28.2 _ (by omega)).trans w0) | (have w0 := e28)
        first | (have w3 := (f28.2 _ (by omega)).trans w3) | (have w3 := e28)
        first | (have w7 := (f28.2 _ (by omega)).trans w7) | (have w7 := e28)
        first | (have w8 := (f28.2 _ (by omega)).trans w8) | (have w8 := e28)
        refine A.al2_0 d6_takes_29 ?_
        refine A.getf d6_takes_30 ?_ (hc := w0)
        refine A.il2_1 d6_takes_33 ?_
        refine A.al2_0 d6_takes_34 ?_
        refine A.iconst d6_takes_35 ?_
        refine A.il2_1 d6_takes_36 ?_
        refine A.iadd d6_takes_37 ?_
        refine A.v1 d6_takes_38 (s6_present (B := fun _ => 0) w0 w3 hf0 hf1 hc0 hc1 (by omega) (by omega) (kS ?_)) (hc := w0)
        refine A.iast d6_takes_41 (fun h41 e41 f41 => ?_) (hc := w8)
        first | (have w0 := (f41.2 _ (by omega)).trans w0) | (have w0 := e41)
        first | (have w3 := (f41.2 _ (by omega)).trans w3) | (have w3 := e41)
        first | (have w7 := (f41.2 _ (by omega)).trans w7) | (have w7 := e41)
        first | (have w8 := (f41.2 _ (by omega)).trans w8) | (have w8 := e41)
        refine A.ii2_1 d6_takes_42 ?_
        refine A.goto d6_takes_45 ?_
        refine ih (i + 1) _ _ _ (by omega) w0 w3 w7 w8 ((hF.trans (f28.two2 (by omega) (by omega))).trans (f41.two2 (by omega) (by omega))) (fun j j0 j1 => ?_) (by omega)
        obtain ⟨ra, rb⟩ := hr.2.2 i (by omega) (by omega)
        by_cases e : j = i
        · subst e
          exact ⟨(fs_at rfl).trans (by rw [← ra]; congr 1; omega), (fs_at rfl).trans (by rw [← rb]; congr 1; omega)⟩
        · exact ⟨(fs_off e).trans (y j j0 (by omega)).1, (fs_off e).trans (y j j0 (by omega)).2⟩
  refine A.al2_0 d6_takes_0 ?_
  refine A.al2_0 d6_takes_1 ?_
  refine A.iconst d6_takes_2 ?_
  refine A.v1 d6_takes_3 (s6_present (B := fun _ => 0) w0 w3 hf0 hf1 hc0 hc1 (by omega) (by omega) (kS ?_)) (hc := w0)
  refine A.putf d6_takes_6 (fun h6 e6 f6 => ?_) (hc := w0) (hk := blt_ok rfl)
  first | (have w0 := (f6.2 _ (by omega)).trans w0) | (have w0 := e6)
  first | (have w3 := (f6.2 _ (by omega)).trans w3) | (have w3 := e6)
  first | (have w7 := (f6.2 _ (by omega)).trans w7) | (have w7 := e6)
  first | (have w8 := (f6.2 _ (by omega)).trans w8) | (have w8 := e6)
  refine A.iconst d6_takes_9 ?_
  refine A.is2_1 d6_takes_10 ?_
  rw [hr.2.1] at w0
  exact loop 4 0 _ _ _ (by omega) w0 w3 w7 w8 (f6.two1 (by omega) (by omega)) (fun j j0 j1 => by omega) (by omega)
