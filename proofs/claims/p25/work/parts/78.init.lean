/-! ===== constructors: the play, the whole class, the reference ===== -/
def PL0 (a : Nat) : PL := (0, 0, fun i => a + 5 + 3 * i.toNat, fun _ => MO0, z0, z0, fun _ => MO0)
set_option maxRecDepth 100000 in
set_option maxHeartbeats 4000000 in
theorem s2_init {d : Nat} {h : AH} {R : RP} {a : Nat} (ob : h.2 a = some (kO 2 [vN, vI 0, vI 0, vN, vN, vN])) (z : h.1.1 = a + 1) (k : ∀ h', plAt h' a (PL0 a) → Gr h h' a 73 → R none h') : AM m2_init (d + 2) h [vR a] R := by
  refine AM.of (L := [some (vR a), none]) ok_2_init (by decide) (fun G => Nat.le_of_ble_eq_true rfl) rfl ?_
  have loop2 : ∀ (nf : Nat) (i : Nat) (gg : Int → Option Nat) (g1 : Int → Option Nat) (h1 : AH) (hi : i ≤ 3) (ob : h1.2 a = some (kO 2 [vR (a + 1), vI 0, vI 0, vR (a + 2), vR (a + 3), vR (a + 4)])) (b1 : h1.2 (a + 1) = some (kQ 20 gg)) (b2 : h1.2 (a + 2) = some (kQ 3 g1)) (b3 : h1.2 (a + 3) = some (kA 2 3 z0)) (b4 : h1.2 (a + 4) = some (kA 2 31 z0)) (hgg : ∀ j : Int, 0 ≤ j → j < 20 → gg j = some (a + 5 + 3 * j.toNat)) (hmm : ∀ j : Int, 0 ≤ j → j < 20 → moAt h1 (a + 5 + 3 * j.toNat) MO0) (hg : ∀ j : Int, 0 ≤ j → j < i → g1 j = some (a + 65 + 3 * j.toNat)) (hm : ∀ j : Int, 0 ≤ j → j < i → moAt h1 (a + 65 + 3 * j.toNat) MO0) (G : Gr h h1 a (64 + 3 * i)) (hn : 3 - i < nf), AW m2_init (d + 2) (9 - 3 * i, 30 - 10 * i) 65 [some (vR a), some (vI i)] [] h1 R := by
    intro nf
    induction nf with
    | zero => intro i gg g1 h1 hi ob b1 b2 b3 b4 hgg hmm hg hm G hn; omega
    | succ nf ih =>
      intro i gg g1 h1 hi ob b1 b2 b3 b4 hgg hmm hg hm G hn
      have y1 : h1.1.1 = a + 65 + 3 * i := by rw [G.sz]; omega
      refine A.il2_1 d2_init_65 ?_
      refine A.iconst d2_init_66 ?_
      refine A.ic_ge d2_init_67 (fun c41 => ?_) (fun c41 => ?_)
      · have ei : i = 3 := by omega
        subst ei
        refine A.vret d2_init_89 ?_
        exact k _ ⟨gg, g1, ob, b1, b2, b3, b4, hgg, hg, ⟨fun j j0 j1 => ⟨by show a + 5 ≤ a + 5 + 3 * j.toNat; omega, by show a + 5 + 3 * j.toNat + 3 ≤ a + 65; omega, hmm j j0 j1⟩, fun j t j0 j1 t0 t1 e => by show a + 5 + 3 * j.toNat + 3 ≤ a + 5 + 3 * t.toNat ∨ a + 5 + 3 * t.toNat + 3 ≤ a + 5 + 3 * j.toNat; omega⟩, hm⟩ G
      · refine A.al2_0 d2_init_70 ?_
        refine A.getf d2_init_71 ?_ (hc := ob)
        refine A.il2_1 d2_init_74 ?_
        rw [show ((9 - 3 * i, 30 - 10 * i) : Nat × Nat) = ((9 - 3 * (i + 1) + 2) + 1, (30 - 10 * (i + 1) + 6) + 4) from Prod.ext (by show 9 - 3 * i = _; omega) (by show 30 - 10 * i = _; omega)]
        refine A.new d2_init_75 (c := 9 - 3 * (i + 1) + 2) (s' := 30 - 10 * (i + 1) + 6) (fun h49 z49 e49 o49 => ?_)
        rw [y1] at e49 o49 ⊢
        have G49 := Gr.new G y1 z49 o49 (by omega)
        have g49 : Gr h1 h49 (a + 65 + 3 * i) 1 := Gr.new (Gr.rfl (h := h1)) y1 z49 o49 (Nat.le_refl _)
        have y49 : h49.1.1 = a + 65 + 3 * i + 1 := by rw [g49.sz, y1]
        refine A.dup d2_init_78 ?_
        refine A.invI (d := d + 1) d2_init_79 (kb' := (9 - 3 * (i + 1), 30 - 10 * (i + 1))) (s1_init (a := a + 65 + 3 * i) e49 y49 (fun h53 hm53 G53 => kN ?_)) ⟨rfl, rfl⟩ (by omega) (Nat.le_of_ble_eq_true rfl)
        have G2 := g49.then G53 (Nat.le_refl _)
        have ob := G2.get ob (by omega)
        have b1 := G2.get b1 (by omega)
        have b2 := G2.get b2 (by omega)
        have b3 := G2.get b3 (by omega)
        have b4 := G2.get b4 (by omega)
        refine A.qast d2_init_82 hm53.1 (fun h56 e56 f56 => ?_) (hc := b2)
        refine A.ii2_1 d2_init_83 ?_
        refine A.goto d2_init_86 ?_
        have hg2 : ∀ j : Int, 0 ≤ j → j < ((i + 1 : Nat) : Int) → gset g1 i (some (a + 65 + 3 * i)) j = some (a + 65 + 3 * j.toNat) := fun j j0 j1 => by
          unfold gset
          by_cases e : j = i
          · rw [if_pos e, e]; rfl
          · rw [if_neg e]; exact hg j j0 (by omega)
        have hm2 : ∀ j : Int, 0 ≤ j → j < ((i + 1 : Nat) : Int) → moAt h56 (a + 65 + 3 * j.toNat) MO0 := fun j j0 j1 => by
          by_cases e : j = i
          · have e2 : j.toNat = i := by omega
            rw [e2]; exact hm53.fr f56 (by omega)
          · exact ((hm j j0 (by omega)).gr G2 (by omega)).fr f56 (by omega)
        have G3 : Gr h h56 a (64 + 3 * (i + 1)) := by
          have := (G49.then G53 (by omega)).fr f56 (by omega)
          rw [show 64 + 3 * i + 1 + 2 = 64 + 3 * (i + 1) by omega] at this
          exact this
        exact ih (i + 1) gg _ _ (by omega) (f56.get ob (by omega)) (f56.get b1 (by omega)) e56 (f56.get b3 (by omega)) (f56.get b4 (by omega)) hgg (fun j j0 j1 => ((hmm j j0 j1).gr G2 (by omega)).fr f56 (by omega)) hg2 hm2 G3 (by omega)
  have loop1 : ∀ (nf : Nat) (i : Nat) (g1 : Int → Option Nat) (h1 : AH) (hi : i ≤ 20) (ob : h1.2 a = some (kO 2 [vR (a + 1), vI 0, vI 0, vR (a + 2), vR (a + 3), vR (a + 4)])) (b1 : h1.2 (a + 1) = some (kQ 20 g1)) (b2 : h1.2 (a + 2) = some (kQ 3 (fun _ => none))) (b3 : h1.2 (a + 3) = some (kA 2 3 z0)) (b4 : h1.2 (a + 4) = some (kA 2 31 z0)) (hg : ∀ j : Int, 0 ≤ j → j < i → g1 j = some (a + 5 + 3 * j.toNat)) (hm : ∀ j : Int, 0 ≤ j → j < i → moAt h1 (a + 5 + 3 * j.toNat) MO0) (G : Gr h h1 a (4 + 3 * i)) (hn : 20 - i < nf), AW m2_init (d + 2) (69 - 3 * i, 230 - 10 * i) 38 [some (vR a), some (vI i)] [] h1 R := by
    intro nf
    induction nf with
    | zero => intro i g1 h1 hi ob b1 b2 b3 b4 hg hm G hn; omega
    | succ nf ih =>
      intro i g1 h1 hi ob b1 b2 b3 b4 hg hm G hn
      have y1 : h1.1.1 = a + 5 + 3 * i := by rw [G.sz]; omega
      refine A.il2_1 d2_init_38 ?_
      refine A.bipush d2_init_39 ?_
      refine A.ic_ge d2_init_41 (fun c41 => ?_) (fun c41 => ?_)
      · have ei : i = 20 := by omega
        subst ei
        refine A.iconst d2_init_63 ?_
        refine A.is2_1 d2_init_64 ?_
        exact loop2 4 0 g1 _ _ (by omega) ob b1 b2 b3 b4 hg hm (fun j j0 j1 => by omega) (fun j j0 j1 => by omega) G (by omega)
      · refine A.al2_0 d2_init_44 ?_
        refine A.getf d2_init_45 ?_ (hc := ob)
        refine A.il2_1 d2_init_48 ?_
        rw [show ((69 - 3 * i, 230 - 10 * i) : Nat × Nat) = ((69 - 3 * (i + 1) + 2) + 1, (230 - 10 * (i + 1) + 6) + 4) from Prod.ext (by show 69 - 3 * i = _; omega) (by show 230 - 10 * i = _; omega)]
        refine A.new d2_init_49 (c := 69 - 3 * (i + 1) + 2) (s' := 230 - 10 * (i + 1) + 6) (fun h49 z49 e49 o49 => ?_)
        rw [y1] at e49 o49 ⊢
        have G49 := Gr.new G y1 z49 o49 (by omega)
        have g49 : Gr h1 h49 (a + 5 + 3 * i) 1 := Gr.new (Gr.rfl (h := h1)) y1 z49 o49 (Nat.le_refl _)
        have y49 : h49.1.1 = a + 5 + 3 * i + 1 := by rw [g49.sz, y1]
        refine A.dup d2_init_52 ?_
        refine A.invI (d := d + 1) d2_init_53 (kb' := (69 - 3 * (i + 1), 230 - 10 * (i + 1))) (s1_init (a := a + 5 + 3 * i) e49 y49 (fun h53 hm53 G53 => kN ?_)) ⟨rfl, rfl⟩ (by omega) (Nat.le_of_ble_eq_true rfl)
        have G2 := g49.then G53 (Nat.le_refl _)
        have ob := G2.get ob (by omega)
        have b1 := G2.get b1 (by omega)
        have b2 := G2.get b2 (by omega)
        have b3 := G2.get b3 (by omega)
        have b4 := G2.get b4 (by omega)
        refine A.qast d2_init_56 hm53.1 (fun h56 e56 f56 => ?_) (hc := b1)
        refine A.ii2_1 d2_init_57 ?_
        refine A.goto d2_init_60 ?_
        have hg2 : ∀ j : Int, 0 ≤ j → j < ((i + 1 : Nat) : Int) → gset g1 i (some (a + 5 + 3 * i)) j = some (a + 5 + 3 * j.toNat) := fun j j0 j1 => by
          unfold gset
          by_cases e : j = i
          · rw [if_pos e, e]; rfl
          · rw [if_neg e]; exact hg j j0 (by omega)
        have hm2 : ∀ j : Int, 0 ≤ j → j < ((i + 1 : Nat) : Int) → moAt h56 (a + 5 + 3 * j.toNat) MO0 := fun j j0 j1 => by
          by_cases e : j = i
          · have e2 : j.toNat = i := by omega
            rw [e2]; exact hm53.fr f56 (by omega)
          · exact ((hm j j0 (by omega)).gr G2 (by omega)).fr f56 (by omega)
        have G3 : Gr h h56 a (4 + 3 * (i + 1)) := by
          have := (G49.then G53 (by omega)).fr f56 (by omega)
          rw [show 4 + 3 * i + 1 + 2 = 4 + 3 * (i + 1) by omega] at this
          exact this
        exact ih (i + 1) _ _ (by omega) (f56.get ob (by omega)) e56 (f56.get b2 (by omega)) (f56.get b3 (by omega)) (f56.get b4 (by omega)) hg2 hm2 G3 (by omega)
  refine A.al2_0 d2_init_0 ?_
  refine A.oinit d2_init_1 ?_ (by omega) (Nat.le_of_ble_eq_true rfl)
  refine A.al2_0 d2_init_4 ?_
  refine A.bipush d2_init_5 ?_
  refine A.newq d2_init_7 (c := 72) (s' := 267) (N := 20) (fun h7 z7 e7 o7 => ?_)
  rw [z] at e7 o7 ⊢
  have ob := (o7 _ (by omega)).trans ob
  have g7 := Gr.new (Gr.rfl (h := h) (a := a)) z z7 o7 (by omega)
  have y7 : h7.1.1 = a + 2 := by rw [g7.1]; show h.1.1 + 1 = _; omega
  have b1 := e7
  refine A.putF d2_init_10 (fun h10 e10 f10 => ?_) (hc := ob) (hk := blt_ok rfl)
  have ob := e10
  have b1 := (f10.2 _ (by omega)).trans b1
  have g10 := Gr.fr (g7) f10 (by omega)
  have y10 : h10.1.1 = a + 2 := by rw [f10.1]; exact y7
  refine A.al2_0 d2_init_13 ?_
  refine A.iconst d2_init_14 ?_
  refine A.newq d2_init_15 (c := 71) (s' := 264) (N := 3) (fun h15 z15 e15 o15 => ?_)
  rw [y10] at e15 o15 ⊢
  have ob := (o15 _ (by omega)).trans ob
  have b1 := (o15 _ (by omega)).trans b1
  have g15 := Gr.new (g10) y10 z15 o15 (by omega)
  have y15 : h15.1.1 = a + 3 := by rw [g15.1]; show h.1.1 + 2 = _; omega
  have b2 := e15
  refine A.putF d2_init_18 (fun h18 e18 f18 => ?_) (hc := ob) (hk := blt_ok rfl)
  have ob := e18
  have b1 := (f18.2 _ (by omega)).trans b1
  have b2 := (f18.2 _ (by omega)).trans b2
  have g18 := Gr.fr (g15) f18 (by omega)
  have y18 : h18.1.1 = a + 3 := by rw [f18.1]; exact y15
  refine A.al2_0 d2_init_21 ?_
  refine A.iconst d2_init_22 ?_
  refine A.newa d2_init_23 (c := 70) (s' := 261) (N := 3) (fun h23 z23 e23 o23 => ?_)
  rw [y18] at e23 o23 ⊢
  have ob := (o23 _ (by omega)).trans ob
  have b1 := (o23 _ (by omega)).trans b1
  have b2 := (o23 _ (by omega)).trans b2
  have g23 := Gr.new (g18) y18 z23 o23 (by omega)
  have y23 : h23.1.1 = a + 4 := by rw [g23.1]; show h.1.1 + 3 = _; omega
  have b3 := e23
  refine A.putF d2_init_25 (fun h25 e25 f25 => ?_) (hc := ob) (hk := blt_ok rfl)
  have ob := e25
  have b1 := (f25.2 _ (by omega)).trans b1
  have b2 := (f25.2 _ (by omega)).trans b2
  have b3 := (f25.2 _ (by omega)).trans b3
  have g25 := Gr.fr (g23) f25 (by omega)
  have y25 : h25.1.1 = a + 4 := by rw [f25.1]; exact y23
  refine A.al2_0 d2_init_28 ?_
  refine A.bipush d2_init_29 ?_
  refine A.newa d2_init_31 (c := 69) (s' := 230) (N := 31) (fun h31 z31 e31 o31 => ?_)
  rw [y25] at e31 o31 ⊢
  have ob := (o31 _ (by omega)).trans ob
  have b1 := (o31 _ (by omega)).trans b1
  have b2 := (o31 _ (by omega)).trans b2
  have b3 := (o31 _ (by omega)).trans b3
  have g31 := Gr.new (g25) y25 z31 o31 (by omega)
  have y31 : h31.1.1 = a + 5 := by rw [g31.1]; show h.1.1 + 4 = _; omega
  have b4 := e31
  refine A.putF d2_init_33 (fun h33 e33 f33 => ?_) (hc := ob) (hk := blt_ok rfl)
  have ob := e33
  have b1 := (f33.2 _ (by omega)).trans b1
  have b2 := (f33.2 _ (by omega)).trans b2
  have b3 := (f33.2 _ (by omega)).trans b3
  have b4 := (f33.2 _ (by omega)).trans b4
  have g33 := Gr.fr (g31) f33 (by omega)
  have y33 : h33.1.1 = a + 5 := by rw [f33.1]; exact y31
  refine A.iconst d2_init_36 ?_
  refine A.is2_1 d2_init_37 ?_
  exact loop1 21 0 _ _ (by omega) ob b1 b2 b3 b4 (fun j j0 j1 => by omega) (fun j j0 j1 => by omega) g33 (by omega)
theorem rScr_00 : rScr z0 SC0 := ⟨⟨Int.le_refl 0, (by decide : (0 : Int) ≤ 29)⟩, fun v v0 v1 => by have : v < 0 := v1; omega⟩
theorem scI_00 : scI SC0 := scI_0 SC0
set_option maxRecDepth 100000 in
set_option maxHeartbeats 4000000 in
theorem s5_init {d : Nat} {h : AH} {R : RP} {a : Nat} (ob : h.2 a = some (kO 5 [vN, vN, vN, vN])) (z : h.1.1 = a + 1) (k : ∀ h', pAt h' a SC0 (startP SC0 (PL0 (a + 15))) (0, z0) → Gr h h' a 97 → R none h') : AM m5_init (d + 6) h [vR a] R := by
  refine AM.of (L := [some (vR a)]) ok_5_init (by decide) (fun G => Nat.le_of_ble_eq_true rfl) rfl ?_
  refine A.al1_0 d5_init_0 ?_
  refine A.oinit d5_init_1 ?_ (by omega) (Nat.le_of_ble_eq_true rfl)
  refine A.al1_0 d5_init_4 ?_
  refine A.new d5_init_5 (c := 96) (s' := 9415) (fun h5 z5 e5 o5 => ?_)
  rw [z] at e5 o5 ⊢
  have ob := (o5 _ (by omega)).trans ob
  have g5 := Gr.new (Gr.rfl (h := h) (a := a)) z z5 o5 (by omega)
  have y5 : h5.1.1 = a + 2 := by rw [g5.1]; show h.1.1 + 1 = _; omega
  refine A.dup d5_init_8 ?_
  refine A.invI (d := d + 5) d5_init_9 (kb' := (89, 8787)) (s4_init (a := a + 1) e5 y5 (fun h9 ht hd G9 => kN ?_)) ⟨rfl, rfl⟩ (by omega) (Nat.le_of_ble_eq_true rfl)
  have ob := G9.get ob (by omega)
  have g9 := Gr.then (g5) G9 (by omega)
  have y9 : h9.1.1 = a + 9 := by rw [g9.sz]; omega
  refine A.putF d5_init_12 (fun h12 e12 f12 => ?_) (hc := ob) (hk := blt_ok rfl)
  have ob := e12
  have ht := ht.fr f12 (by omega)
  have hd := hd.fr f12 (by omega)
  have g12 := Gr.fr (g9) f12 (by omega)
  have y12 : h12.1.1 = a + 9 := by rw [f12.1]; exact y9
  refine A.al1_0 d5_init_15 ?_
  refine A.new d5_init_16 (c := 88) (s' := 8781) (fun h16 z16 e16 o16 => ?_)
  rw [y12] at e16 o16 ⊢
  have ob := (o16 _ (by omega)).trans ob
  have g16 := Gr.new (g12) y12 z16 o16 (by omega)
  have G16 := Gr.new Gr.rfl y12 z16 o16 (Nat.le_refl _)
  have ht := ht.gr G16 (by omega)
  have hd := hd.gr G16 (by omega)
  have y16 : h16.1.1 = a + 10 := by rw [g16.1]; show h.1.1 + 9 = _; omega
  refine A.dup d5_init_19 ?_
  refine A.invI (d := d + 5) d5_init_20 (kb' := (83, 8259)) (s3_init (a := a + 9) e16 y16 (fun h20 hs G20 => kN ?_)) ⟨rfl, rfl⟩ (by omega) (Nat.le_of_ble_eq_true rfl)
  have ob := G20.get ob (by omega)
  have ht := ht.gr G20 (by omega)
  have hd := hd.gr G20 (by omega)
  have g20 := Gr.then (g16) G20 (by omega)
  have y20 : h20.1.1 = a + 15 := by rw [g20.sz]; omega
  refine A.putf d5_init_23 (fun h23 e23 f23 => ?_) (hc := ob) (hk := blt_ok rfl)
  have ob := e23
  have ht := ht.fr f23 (by omega)
  have hd := hd.fr f23 (by omega)
  have hs := hs.fr f23 (by omega)
  have g23 := Gr.fr (g20) f23 (by omega)
  have y23 : h23.1.1 = a + 15 := by rw [f23.1]; exact y20
  refine A.al1_0 d5_init_26 ?_
  refine A.new d5_init_27 (c := 82) (s' := 8253) (fun h27 z27 e27 o27 => ?_)
  rw [y23] at e27 o27 ⊢
  have ob := (o27 _ (by omega)).trans ob
  have g27 := Gr.new (g23) y23 z27 o27 (by omega)
  have G27 := Gr.new Gr.rfl y23 z27 o27 (Nat.le_refl _)
  have ht := ht.gr G27 (by omega)
  have hd := hd.gr G27 (by omega)
  have hs := hs.gr G27 (by omega)
  have y27 : h27.1.1 = a + 16 := by rw [g27.1]; show h.1.1 + 15 = _; omega
  refine A.dup d5_init_30 ?_
  refine A.invI (d := d + 5) d5_init_31 (kb' := (9, 7966)) (s2_init (a := a + 15) e27 y27 (fun h31 hpl G31 => kN ?_)) ⟨rfl, rfl⟩ (by omega) (Nat.le_of_ble_eq_true rfl)
  have ob := G31.get ob (by omega)
  have ht := ht.gr G31 (by omega)
  have hd := hd.gr G31 (by omega)
  have hs := hs.gr G31 (by omega)
  have g31 := Gr.then (g27) G31 (by omega)
  have y31 : h31.1.1 = a + 89 := by rw [g31.sz]; omega
  refine A.putF d5_init_34 (fun h34 e34 f34 => ?_) (hc := ob) (hk := blt_ok rfl)
  have ob := e34
  have ht := ht.fr f34 (by omega)
  have hd := hd.fr f34 (by omega)
  have hs := hs.fr f34 (by omega)
  have hpl := hpl.fr f34 (by omega)
  have g34 := Gr.fr (g31) f34 (by omega)
  have y34 : h34.1.1 = a + 89 := by rw [f34.1]; exact y31
  refine A.al1_0 d5_init_37 ?_
  refine A.new d5_init_38 (c := 8) (s' := 7958) (fun h38 z38 e38 o38 => ?_)
  rw [y34] at e38 o38 ⊢
  have ob := (o38 _ (by omega)).trans ob
  have g38 := Gr.new (g34) y34 z38 o38 (by omega)
  have G38 := Gr.new Gr.rfl y34 z38 o38 (Nat.le_refl _)
  have ht := ht.gr G38 (by omega)
  have hd := hd.gr G38 (by omega)
  have hs := hs.gr G38 (by omega)
  have hpl := hpl.gr G38 (by omega)
  have y38 : h38.1.1 = a + 90 := by rw [g38.1]; show h.1.1 + 89 = _; omega
  refine A.dup d5_init_41 ?_
  refine A.invI (d := d + 5) d5_init_42 (kb' := (0, 0)) (s0_init (a := a + 89) e38 y38 (fun h42 q0 q1 q2 q3 q4 q5 hm G42 => kN ?_)) ⟨rfl, rfl⟩ (by omega) (Nat.le_of_ble_eq_true rfl)
  have ob := G42.get ob (by omega)
  have ht := ht.gr G42 (by omega)
  have hd := hd.gr G42 (by omega)
  have hs := hs.gr G42 (by omega)
  have hpl := hpl.gr G42 (by omega)
  have g42 := Gr.then (g38) G42 (by omega)
  have y42 : h42.1.1 = a + 98 := by rw [g42.sz]; omega
  refine A.putF d5_init_45 (fun h45 e45 f45 => ?_) (hc := ob) (hk := blt_ok rfl)
  have ob := e45
  have q0 := (f45.2 _ (by omega)).trans q0
  have q1 := (f45.2 _ (by omega)).trans q1
  have q2 := (f45.2 _ (by omega)).trans q2
  have q3 := (f45.2 _ (by omega)).trans q3
  have q4 := (f45.2 _ (by omega)).trans q4
  have q5 := (f45.2 _ (by omega)).trans q5
  have ht := ht.fr f45 (by omega)
  have hd := hd.fr f45 (by omega)
  have hs := hs.fr f45 (by omega)
  have hpl := hpl.fr f45 (by omega)
  have hm := hm.fr f45 (by omega)
  have g45 := Gr.fr (g42) f45 (by omega)
  have y45 : h45.1.1 = a + 98 := by rw [f45.1]; exact y42
  refine A.al1_0 d5_init_48 ?_
  refine A.getf d5_init_49 ?_ (hc := ob)
  refine A.al1_0 d5_init_52 ?_
  refine A.getf d5_init_53 ?_ (hc := ob)
  refine A.v1 d5_init_56 (s2_startScript hpl hs (by omega) (fun h56 hpl2 f56 => kN ?_)) (hc := hpl.choose_spec.choose_spec.1)
  have ob := f56.get ob (by omega)
  have q0 := f56.get q0 (by omega)
  have q1 := f56.get q1 (by omega)
  have q2 := f56.get q2 (by omega)
  have q3 := f56.get q3 (by omega)
  have q4 := f56.get q4 (by omega)
  have q5 := f56.get q5 (by omega)
  have ht := ht.fr f56 (by omega)
  have hd := hd.fr f56 (by omega)
  have hs := hs.fr f56 (by omega)
  have hm := hm.fr f56 (by omega)
  have G56 := Gr.fr (g45) f56 (by omega)
  refine A.al1_0 d5_init_59 ?_
  refine A.getf d5_init_60 ?_ (hc := ob)
  refine A.al1_0 d5_init_63 ?_
  refine A.getf d5_init_64 ?_ (hc := ob)
  refine A.v1 d5_init_67 (s0_draw (c := a + 89) q0 q1 q2 q3 q4 q5 hs (by omega) rScr_00 hm (fun h67 re67 wc67 Cc67 Lc67 Lo67 Wa67 Es67 m67 r0 r1 r2 r3 r4 r5 hm67 u67 v67 hC67 f67 => kN ?_)) (hc := q0)
  refine A.vret d5_init_70 ?_
  exact k _ ⟨_, _, _, _, _, _, _, _, _, _, _, _, _, Or.inl ⟨rfl, rfl⟩, f67.get ob (by omega), ht.fr f67 (by omega), hs.fr f67 (by omega), hd.fr f67 (by omega), scI_00, scI_00, hpl2.fr f67 (by omega), r0, r1, r2, r3, r4, r5, hm67, hC67⟩ (G56.fr f67 (by omega))
