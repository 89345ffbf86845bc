/-! ===== constructors ===== -/
/-- behind a constructor: n new cells; what lies below the object is as it was -/
def Gr (h h' : AH) (a n : Nat) : Prop := h'.1 = (h.1.1 + n, h.1.2) ∧ ∀ q, q < a → h'.2 q = h.2 q
theorem Gr.rfl {h : AH} {a : Nat} : Gr h h a 0 := ⟨Eq.refl _, fun _ _ => Eq.refl _⟩
theorem Gr.new {h h1 h2 : AH} {a k b : Nat} (g : Gr h h1 a k) (hb : h1.1.1 = b) (z : h2.1 = (h1.1.1 + 1, h1.1.2)) (o : ∀ q, q ≠ b → h2.2 q = h1.2 q) (ha : a ≤ b) : Gr h h2 a (k + 1) :=
  ⟨by rw [z, g.1]; rfl, fun q hq => (o q (by omega)).trans (g.2 q hq)⟩
theorem Gr.fr {h h1 h2 : AH} {a k b n : Nat} (g : Gr h h1 a k) (f : Fr h1 h2 b n) (ha : a ≤ b) : Gr h h2 a k := ⟨f.1.trans g.1, fun q hq => (f.2 q (by omega)).trans (g.2 q hq)⟩
theorem Gr.then {h h1 h2 : AH} {a k b n : Nat} (g : Gr h h1 a k) (f : Gr h1 h2 b n) (ha : a ≤ b) : Gr h h2 a (k + n) := ⟨by rw [f.1, g.1]; show (h.1.1 + k + n, _) = (h.1.1 + (k + n), _); rw [Nat.add_assoc], fun q hq => (f.2 q (by omega)).trans (g.2 q hq)⟩
theorem Gr.get {h h' : AH} {b n q : Nat} {c : AC} (g : Gr h h' b n) (hq : h.2 q = some c) (hd : q < b) : h'.2 q = some c := (g.2 q hd).trans hq
theorem Gr.sz {h h1 : AH} {a k : Nat} (g : Gr h h1 a k) : h1.1.1 = h.1.1 + k := by rw [g.1]
theorem moAt.gr {h h' : AH} {a b n : Nat} {m : MO} (s : moAt h a m) (g : Gr h h' b n) (hd : a + 3 ≤ b) : moAt h' a m := ⟨g.get s.1 (by omega), g.get s.2.1 (by omega), g.get s.2.2 (by omega)⟩
theorem scAt.gr {h h' : AH} {a b n : Nat} {S : SC} (s : scAt h a S) (g : Gr h h' b n) (hd : a + 6 ≤ b) : scAt h' a S := by
  obtain ⟨s0, s1, s2, s3, s4, s5⟩ := s
  exact ⟨g.get s0 (by omega), g.get s1 (by omega), g.get s2 (by omega), g.get s3 (by omega), g.get s4 (by omega), g.get s5 (by omega)⟩
theorem txAt.gr {h h' : AH} {t s b k : Nat} {T : TX} {a n : Int} (x : txAt h t T s a n) (g : Gr h h' b k) (hd : t + 2 ≤ b) : txAt h' t T s a n := ⟨g.get x.1 (by omega), g.get x.2 (by omega)⟩
theorem plAt.gr {h h' : AH} {p b n : Nat} {P : PL} (s : plAt h p P) (f : Gr h h' b n) (hd : p + 74 ≤ b) : plAt h' p P := by
  obtain ⟨g, sg, p0, p1, p2, p3, p4, q1, q2, q3, q4⟩ := s
  exact ⟨g, sg, f.get p0 (by omega), f.get p1 (by omega), f.get p2 (by omega), f.get p3 (by omega), f.get p4 (by omega), q1, q2, ⟨fun i i0 i1 => by
    obtain ⟨w1, w2, w3⟩ := q3.1 i i0 i1
    exact ⟨w1, w2, w3.gr f (by omega)⟩, q3.2⟩, fun j j0 j1 => (q4 j j0 j1).gr f (by omega)⟩
abbrev SC0 : SC := (0, z0, z0, z0, z0, z0)
abbrev MO0 : MO := (0, 0, z0, z0)
set_option maxRecDepth 100000 in
set_option maxHeartbeats 4000000 in
theorem s1_init {d : Nat} {h : AH} {R : RP} {a : Nat} (ob : h.2 a = some (kO 1 [vI 0, vI 0, vN, vN])) (z : h.1.1 = a + 1) (k : ∀ h', moAt h' a MO0 → Gr h h' a 2 → R none h') : AM m1_init (d + 1) h [vR a] R := by
  refine AM.of (L := [some (vR a)]) ok_1_init (by decide) (fun G => Nat.le_of_ble_eq_true rfl) rfl ?_
  refine A.al1_0 d1_init_0 ?_
  refine A.oinit d1_init_1 ?_ (by omega) (Nat.le_of_ble_eq_true rfl)
  refine A.al1_0 d1_init_4 ?_
  refine A.iconst d1_init_5 ?_
  refine A.newa d1_init_6 (c := 1) (s' := 3) (N := 3) (fun h6 z6 e6 o6 => ?_)
  rw [z] at e6 o6 ⊢
  have ob := (o6 _ (by omega)).trans ob
  have g6 := Gr.new (Gr.rfl (h := h) (a := a)) z z6 o6 (by omega)
  have y6 : h6.1.1 = a + 2 := by rw [g6.1]; show h.1.1 + 1 = _; omega
  have a1 := e6
  refine A.putF d1_init_8 (fun h8 e8 f8 => ?_) (hc := ob) (hk := blt_ok rfl)
  have ob := e8
  have a1 := (f8.2 _ (by omega)).trans a1
  have g8 := Gr.fr (g6) f8 (by omega)
  have y8 : h8.1.1 = a + 2 := by rw [f8.1]; exact y6
  refine A.al1_0 d1_init_11 ?_
  refine A.iconst d1_init_12 ?_
  refine A.newa d1_init_13 (c := 0) (s' := 0) (N := 3) (fun h13 z13 e13 o13 => ?_)
  rw [y8] at e13 o13 ⊢
  have ob := (o13 _ (by omega)).trans ob
  have a1 := (o13 _ (by omega)).trans a1
  have g13 := Gr.new (g8) y8 z13 o13 (by omega)
  have y13 : h13.1.1 = a + 3 := by rw [g13.1]; show h.1.1 + 2 = _; omega
  have a2 := e13
  refine A.putF d1_init_15 (fun h15 e15 f15 => ?_) (hc := ob) (hk := blt_ok rfl)
  have ob := e15
  have a1 := (f15.2 _ (by omega)).trans a1
  have a2 := (f15.2 _ (by omega)).trans a2
  have g15 := Gr.fr (g13) f15 (by omega)
  have y15 : h15.1.1 = a + 3 := by rw [f15.1]; exact y13
  refine A.vret d1_init_18 ?_
  exact k _ ⟨ob, a1, a2⟩ g15
set_option maxRecDepth 100000 in
set_option maxHeartbeats 4000000 in
theorem s3_init {d : Nat} {h : AH} {R : RP} {a : Nat} (ob : h.2 a = some (kO 3 [vI 0, vN, vN, vN, vN, vN])) (z : h.1.1 = a + 1) (k : ∀ h', scAt h' a SC0 → Gr h h' a 5 → R none h') : AM m3_init (d + 1) h [vR a] R := by
  refine AM.of (L := [some (vR a)]) ok_3_init (by decide) (fun G => Nat.le_of_ble_eq_true rfl) rfl ?_
  refine A.al1_0 d3_init_0 ?_
  refine A.oinit d3_init_1 ?_ (by omega) (Nat.le_of_ble_eq_true rfl)
  refine A.al1_0 d3_init_4 ?_
  refine A.bipush d3_init_5 ?_
  refine A.newa d3_init_7 (c := 4) (s' := 493) (N := 29) (fun h7 z7 e7 o7 => ?_)
  rw [z] at e7 o7 ⊢
  have ob := (o7 _ (by omega)).trans ob
  have g7 := Gr.new (Gr.rfl (h := h) (a := a)) z z7 o7 (by omega)
  have y7 : h7.1.1 = a + 2 := by rw [g7.1]; show h.1.1 + 1 = _; omega
  have a1 := e7
  refine A.putF d3_init_9 (fun h9 e9 f9 => ?_) (hc := ob) (hk := blt_ok rfl)
  have ob := e9
  have a1 := (f9.2 _ (by omega)).trans a1
  have g9 := Gr.fr (g7) f9 (by omega)
  have y9 : h9.1.1 = a + 2 := by rw [f9.1]; exact y7
  refine A.al1_0 d3_init_12 ?_
  refine A.bipush d3_init_13 ?_
  refine A.newa d3_init_15 (c := 3) (s' := 464) (N := 29) (fun h15 z15 e15 o15 => ?_)
  rw [y9] at e15 o15 ⊢
  have ob := (o15 _ (by omega)).trans ob
  have a1 := (o15 _ (by omega)).trans a1
  have g15 := Gr.new (g9) y9 z15 o15 (by omega)
  have y15 : h15.1.1 = a + 3 := by rw [g15.1]; show h.1.1 + 2 = _; omega
  have a2 := e15
  refine A.putF d3_init_17 (fun h17 e17 f17 => ?_) (hc := ob) (hk := blt_ok rfl)
  have ob := e17
  have a1 := (f17.2 _ (by omega)).trans a1
  have a2 := (f17.2 _ (by omega)).trans a2
  have g17 := Gr.fr (g15) f17 (by omega)
  have y17 : h17.1.1 = a + 3 := by rw [f17.1]; exact y15
  refine A.al1_0 d3_init_20 ?_
  refine A.bipush d3_init_21 ?_
  refine A.newa d3_init_23 (c := 2) (s' := 377) (N := 87) (fun h23 z23 e23 o23 => ?_)
  rw [y17] at e23 o23 ⊢
  have ob := (o23 _ (by omega)).trans ob
  have a1 := (o23 _ (by omega)).trans a1
  have a2 := (o23 _ (by omega)).trans a2
  have g23 := Gr.new (g17) y17 z23 o23 (by omega)
  have y23 : h23.1.1 = a + 4 := by rw [g23.1]; show h.1.1 + 3 = _; omega
  have a3 := e23
  refine A.putF d3_init_25 (fun h25 e25 f25 => ?_) (hc := ob) (hk := blt_ok rfl)
  have ob := e25
  have a1 := (f25.2 _ (by omega)).trans a1
  have a2 := (f25.2 _ (by omega)).trans a2
  have a3 := (f25.2 _ (by omega)).trans a3
  have g25 := Gr.fr (g23) f25 (by omega)
  have y25 : h25.1.1 = a + 4 := by rw [f25.1]; exact y23
  refine A.al1_0 d3_init_28 ?_
  refine A.bipush d3_init_29 ?_
  refine A.newa d3_init_31 (c := 1) (s' := 348) (N := 29) (fun h31 z31 e31 o31 => ?_)
  rw [y25] at e31 o31 ⊢
  have ob := (o31 _ (by omega)).trans ob
  have a1 := (o31 _ (by omega)).trans a1
  have a2 := (o31 _ (by omega)).trans a2
  have a3 := (o31 _ (by omega)).trans a3
  have g31 := Gr.new (g25) y25 z31 o31 (by omega)
  have y31 : h31.1.1 = a + 5 := by rw [g31.1]; show h.1.1 + 4 = _; omega
  have a4 := e31
  refine A.putF d3_init_33 (fun h33 e33 f33 => ?_) (hc := ob) (hk := blt_ok rfl)
  have ob := e33
  have a1 := (f33.2 _ (by omega)).trans a1
  have a2 := (f33.2 _ (by omega)).trans a2
  have a3 := (f33.2 _ (by omega)).trans a3
  have a4 := (f33.2 _ (by omega)).trans a4
  have g33 := Gr.fr (g31) f33 (by omega)
  have y33 : h33.1.1 = a + 5 := by rw [f33.1]; exact y31
  refine A.al1_0 d3_init_36 ?_
  refine A.sipush d3_init_37 ?_
  refine A.newa d3_init_40 (c := 0) (s' := 0) (N := 348) (fun h40 z40 e40 o40 => ?_)
  rw [y33] at e40 o40 ⊢
  have ob := (o40 _ (by omega)).trans ob
  have a1 := (o40 _ (by omega)).trans a1
  have a2 := (o40 _ (by omega)).trans a2
  have a3 := (o40 _ (by omega)).trans a3
  have a4 := (o40 _ (by omega)).trans a4
  have g40 := Gr.new (g33) y33 z40 o40 (by omega)
  have y40 : h40.1.1 = a + 6 := by rw [g40.1]; show h.1.1 + 5 = _; omega
  have a5 := e40
  refine A.putF d3_init_42 (fun h42 e42 f42 => ?_) (hc := ob) (hk := blt_ok rfl)
  have ob := e42
  have a1 := (f42.2 _ (by omega)).trans a1
  have a2 := (f42.2 _ (by omega)).trans a2
  have a3 := (f42.2 _ (by omega)).trans a3
  have a4 := (f42.2 _ (by omega)).trans a4
  have a5 := (f42.2 _ (by omega)).trans a5
  have g42 := Gr.fr (g40) f42 (by omega)
  have y42 : h42.1.1 = a + 6 := by rw [f42.1]; exact y40
  refine A.vret d3_init_45 ?_
  exact k _ ⟨ob, a1, a2, a3, a4, a5⟩ g42
set_option maxRecDepth 100000 in
set_option maxHeartbeats 4000000 in
theorem s4_init {d : Nat} {h : AH} {R : RP} {a : Nat} (ob : h.2 a = some (kO 4 [vI 0, vN, vN, vI 0, vI 0])) (z : h.1.1 = a + 1) (k : ∀ h', txAt h' a (0, z0) (a + 2) 0 0 → scAt h' (a + 2) SC0 → Gr h h' a 7 → R none h') : AM m4_init (d + 2) h [vR a] R := by
  refine AM.of (L := [some (vR a)]) ok_4_init (by decide) (fun G => Nat.le_of_ble_eq_true rfl) rfl ?_
  refine A.al1_0 d4_init_0 ?_
  refine A.oinit d4_init_1 ?_ (by omega) (Nat.le_of_ble_eq_true rfl)
  refine A.al1_0 d4_init_4 ?_
  refine A.bipush d4_init_5 ?_
  refine A.newa d4_init_7 (c := 6) (s' := 528) (N := 100) (fun h7 z7 e7 o7 => ?_)
  rw [z] at e7 o7 ⊢
  have ob := (o7 _ (by omega)).trans ob
  have g7 := Gr.new (Gr.rfl (h := h) (a := a)) z z7 o7 (by omega)
  have y7 : h7.1.1 = a + 2 := by rw [g7.1]; show h.1.1 + 1 = _; omega
  have a1 := e7
  refine A.putF d4_init_9 (fun h9 e9 f9 => ?_) (hc := ob) (hk := blt_ok rfl)
  have ob := e9
  have a1 := (f9.2 _ (by omega)).trans a1
  have g9 := Gr.fr (g7) f9 (by omega)
  have y9 : h9.1.1 = a + 2 := by rw [f9.1]; exact y7
  refine A.al1_0 d4_init_12 ?_
  refine A.new d4_init_13 (c := 5) (s' := 522) (fun h13 z13 e13 o13 => ?_)
  rw [y9] at e13 o13 ⊢
  have ob := (o13 _ (by omega)).trans ob
  have a1 := (o13 _ (by omega)).trans a1
  have g13 := Gr.new (g9) y9 z13 o13 (by omega)
  have y13 : h13.1.1 = a + 3 := by rw [g13.1]; show h.1.1 + 2 = _; omega
  refine A.dup d4_init_16 ?_
  refine A.invI (d := d + 1) d4_init_17 (kb' := (0, 0)) (s3_init (a := a + 2) e13 y13 (fun h17 hs G17 => kN ?_)) ⟨rfl, rfl⟩ (by omega) (Nat.le_of_ble_eq_true rfl)
  have ob := G17.get ob (by omega)
  have a1 := G17.get a1 (by omega)
  have g17 := Gr.then (g13) G17 (by omega)
  have y17 : h17.1.1 = a + 8 := by rw [g17.sz]; omega
  refine A.putf d4_init_20 (fun h20 e20 f20 => ?_) (hc := ob) (hk := blt_ok rfl)
  have ob := e20
  have a1 := (f20.2 _ (by omega)).trans a1
  have hs := hs.fr f20 (by omega)
  have g20 := Gr.fr (g17) f20 (by omega)
  have y20 : h20.1.1 = a + 8 := by rw [f20.1]; exact y17
  refine A.vret d4_init_23 ?_
  exact k _ ⟨ob, a1⟩ hs g20
set_option maxRecDepth 100000 in
set_option maxHeartbeats 4000000 in
theorem s0_init {d : Nat} {h : AH} {R : RP} {a : Nat} (ob : h.2 a = some (kO 0 [vI 0, vN, vN, vN, vN, vI 0, vN, vN])) (z : h.1.1 = a + 1) (k : ∀ h', h'.2 a = some (cob a 0 0) → h'.2 (a + 1) = some (kA 0 1984 z0) → h'.2 (a + 2) = some (kA 0 1984 z0) → h'.2 (a + 3) = some (kA 0 1984 z0) → h'.2 (a + 4) = some (kA 0 1984 z0) → h'.2 (a + 5) = some (kA 0 12 z0) → moAt h' (a + 6) MO0 → Gr h h' a 8 → R none h') : AM m0_init (d + 2) h [vR a] R := by
  refine AM.of (L := [some (vR a)]) ok_0_init (by decide) (fun G => Nat.le_of_ble_eq_true rfl) rfl ?_
  refine A.al1_0 d0_init_0 ?_
  refine A.oinit d0_init_1 ?_ (by omega) (Nat.le_of_ble_eq_true rfl)
  refine A.al1_0 d0_init_4 ?_
  refine A.sipush d0_init_5 ?_
  refine A.newa d0_init_8 (c := 7) (s' := 5974) (N := 1984) (fun h8 z8 e8 o8 => ?_)
  rw [z] at e8 o8 ⊢
  have ob := (o8 _ (by omega)).trans ob
  have g8 := Gr.new (Gr.rfl (h := h) (a := a)) z z8 o8 (by omega)
  have y8 : h8.1.1 = a + 2 := by rw [g8.1]; show h.1.1 + 1 = _; omega
  have a1 := e8
  refine A.putF d0_init_10 (fun h10 e10 f10 => ?_) (hc := ob) (hk := blt_ok rfl)
  have ob := e10
  have a1 := (f10.2 _ (by omega)).trans a1
  have g10 := Gr.fr (g8) f10 (by omega)
  have y10 : h10.1.1 = a + 2 := by rw [f10.1]; exact y8
  refine A.al1_0 d0_init_13 ?_
  refine A.sipush d0_init_14 ?_
  refine A.newa d0_init_17 (c := 6) (s' := 3990) (N := 1984) (fun h17 z17 e17 o17 => ?_)
  rw [y10] at e17 o17 ⊢
  have ob := (o17 _ (by omega)).trans ob
  have a1 := (o17 _ (by omega)).trans a1
  have g17 := Gr.new (g10) y10 z17 o17 (by omega)
  have y17 : h17.1.1 = a + 3 := by rw [g17.1]; show h.1.1 + 2 = _; omega
  have a2 := e17
  refine A.putF d0_init_19 (fun h19 e19 f19 => ?_) (hc := ob) (hk := blt_ok rfl)
  have ob := e19
  have a1 := (f19.2 _ (by omega)).trans a1
  have a2 := (f19.2 _ (by omega)).trans a2
  have g19 := Gr.fr (g17) f19 (by omega)
  have y19 : h19.1.1 = a + 3 := by rw [f19.1]; exact y17
  refine A.al1_0 d0_init_22 ?_
  refine A.sipush d0_init_23 ?_
  refine A.newa d0_init_26 (c := 5) (s' := 2006) (N := 1984) (fun h26 z26 e26 o26 => ?_)
  rw [y19] at e26 o26 ⊢
  have ob := (o26 _ (by omega)).trans ob
  have a1 := (o26 _ (by omega)).trans a1
  have a2 := (o26 _ (by omega)).trans a2
  have g26 := Gr.new (g19) y19 z26 o26 (by omega)
  have y26 : h26.1.1 = a + 4 := by rw [g26.1]; show h.1.1 + 3 = _; omega
  have a3 := e26
  refine A.putF d0_init_28 (fun h28 e28 f28 => ?_) (hc := ob) (hk := blt_ok rfl)
  have ob := e28
  have a1 := (f28.2 _ (by omega)).trans a1
  have a2 := (f28.2 _ (by omega)).trans a2
  have a3 := (f28.2 _ (by omega)).trans a3
  have g28 := Gr.fr (g26) f28 (by omega)
  have y28 : h28.1.1 = a + 4 := by rw [f28.1]; exact y26
  refine A.al1_0 d0_init_31 ?_
  refine A.sipush d0_init_32 ?_
  refine A.newa d0_init_35 (c := 4) (s' := 22) (N := 1984) (fun h35 z35 e35 o35 => ?_)
  rw [y28] at e35 o35 ⊢
  have ob := (o35 _ (by omega)).trans ob
  have a1 := (o35 _ (by omega)).trans a1
  have a2 := (o35 _ (by omega)).trans a2
  have a3 := (o35 _ (by omega)).trans a3
  have g35 := Gr.new (g28) y28 z35 o35 (by omega)
  have y35 : h35.1.1 = a + 5 := by rw [g35.1]; show h.1.1 + 4 = _; omega
  have a4 := e35
  refine A.putF d0_init_37 (fun h37 e37 f37 => ?_) (hc := ob) (hk := blt_ok rfl)
  have ob := e37
  have a1 := (f37.2 _ (by omega)).trans a1
  have a2 := (f37.2 _ (by omega)).trans a2
  have a3 := (f37.2 _ (by omega)).trans a3
  have a4 := (f37.2 _ (by omega)).trans a4
  have g37 := Gr.fr (g35) f37 (by omega)
  have y37 : h37.1.1 = a + 5 := by rw [f37.1]; exact y35
  refine A.al1_0 d0_init_40 ?_
  refine A.bipush d0_init_41 ?_
  refine A.newa d0_init_43 (c := 3) (s' := 10) (N := 12) (fun h43 z43 e43 o43 => ?_)
  rw [y37] at e43 o43 ⊢
  have ob := (o43 _ (by omega)).trans ob
  have a1 := (o43 _ (by omega)).trans a1
  have a2 := (o43 _ (by omega)).trans a2
  have a3 := (o43 _ (by omega)).trans a3
  have a4 := (o43 _ (by omega)).trans a4
  have g43 := Gr.new (g37) y37 z43 o43 (by omega)
  have y43 : h43.1.1 = a + 6 := by rw [g43.1]; show h.1.1 + 5 = _; omega
  have a5 := e43
  refine A.putF d0_init_45 (fun h45 e45 f45 => ?_) (hc := ob) (hk := blt_ok rfl)
  have ob := e45
  have a1 := (f45.2 _ (by omega)).trans a1
  have a2 := (f45.2 _ (by omega)).trans a2
  have a3 := (f45.2 _ (by omega)).trans a3
  have a4 := (f45.2 _ (by omega)).trans a4
  have a5 := (f45.2 _ (by omega)).trans a5
  have g45 := Gr.fr (g43) f45 (by omega)
  have y45 : h45.1.1 = a + 6 := by rw [f45.1]; exact y43
  refine A.al1_0 d0_init_48 ?_
  refine A.new d0_init_49 (c := 2) (s' := 6) (fun h49 z49 e49 o49 => ?_)
  rw [y45] at e49 o49 ⊢
  have ob := (o49 _ (by omega)).trans ob
  have a1 := (o49 _ (by omega)).trans a1
  have a2 := (o49 _ (by omega)).trans a2
  have a3 := (o49 _ (by omega)).trans a3
  have a4 := (o49 _ (by omega)).trans a4
  have a5 := (o49 _ (by omega)).trans a5
  have g49 := Gr.new (g45) y45 z49 o49 (by omega)
  have y49 : h49.1.1 = a + 7 := by rw [g49.1]; show h.1.1 + 6 = _; omega
  refine A.dup d0_init_52 ?_
  refine A.invI (d := d + 1) d0_init_53 (kb' := (0, 0)) (s1_init (a := a + 6) e49 y49 (fun h53 hs G53 => kN ?_)) ⟨rfl, rfl⟩ (by omega) (Nat.le_of_ble_eq_true rfl)
  have ob := G53.get ob (by omega)
  have a1 := G53.get a1 (by omega)
  have a2 := G53.get a2 (by omega)
  have a3 := G53.get a3 (by omega)
  have a4 := G53.get a4 (by omega)
  have a5 := G53.get a5 (by omega)
  have g53 := Gr.then (g49) G53 (by omega)
  have y53 : h53.1.1 = a + 9 := by rw [g53.sz]; omega
  refine A.putF d0_init_56 (fun h56 e56 f56 => ?_) (hc := ob) (hk := blt_ok rfl)
  have ob := e56
  have a1 := (f56.2 _ (by omega)).trans a1
  have a2 := (f56.2 _ (by omega)).trans a2
  have a3 := (f56.2 _ (by omega)).trans a3
  have a4 := (f56.2 _ (by omega)).trans a4
  have a5 := (f56.2 _ (by omega)).trans a5
  have hs := hs.fr f56 (by omega)
  have g56 := Gr.fr (g53) f56 (by omega)
  have y56 : h56.1.1 = a + 9 := by rw [f56.1]; exact y53
  refine A.vret d0_init_59 ?_
  exact k _ ob a1 a2 a3 a4 a5 hs g56
