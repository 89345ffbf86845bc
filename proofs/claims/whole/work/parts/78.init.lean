/-! ===== constructors: the play, the whole class, the reference ===== -/
def PL0 (a : Nat) : PL := (0, 0, fun i => a + 5 + 3 * i.toNat, fun _ => MO0, z0, z0, fun _ => MO0)
set_option maxRecDepth 100000 in
set_option maxHeartbeats 4000000 in
theorem s2_init {d : Nat} {h : AH} {R : RP} {a : Nat} (ob : h.2 a = some (kO 2 [vN, vI 0, vI 0, vN, vN, vN])) (z : h.1.1 = a + 1) (k : ∀ h', plAt h' a (PL0 a) → Gr h h' a 73 → R none h') : AM m2_init (d + 2) h [vR a] R := by
  refine AM.of (L := [some (vR a), none]) ok_2_init (by decide) (fun G => Nat.le_of_ble_eq_true rfl) rfl ?_
  have loop2 : ∀ (nf : Nat) (i : Nat) (gg : Int → Option Nat) (g1 : Int → Option Nat) (h1 : AH) (hi : i ≤ 3) (ob : h1.2 a = some (kO 2 [vR (a + 1), vI 0, vI 0, vR (a + 2), vR (a + 3), vR (a + 4)])) (b1 : h1.2 (a + 1) = some (kQ 20 gg)) (b2 : h1.2 (a + 2) = some (kQ 3 g1)) (b3 : h1.2 (a + 3) = some (kA 2 3 z0)) (b4 : h1.2 (a + 4) = some (kA 2 31 z0)) (hgg : ∀ j : Int, 0 ≤ j → j < 20 → gg j = some (a + 5 + 3 * j.toNat)) (hmm : ∀ j : Int, 0 ≤ j → j < 20 → moAt h1 (a + 5 + 3 * j.toNat) MO0) (hg : ∀ j : Int, 0 ≤ j → j < i → g1 j = some (a + 65 + 3 * j.toNat)) (hm : ∀ j : Int, 0 ≤ j → j < i → moAt h1 (a + 65 + 3 * j.toNat) MO0) (G : Gr h h1 a (64 + 3 * i)) (hn : 3 - i < nf), AW m2_init (d + 2) (9 - 3 * i, 30 - 10 * i) 65 [some (vR a), some (vI i)] [] h1 R := by
    intro nf
    induction nf with
    | zero => intro i gg g1 h1 hi ob b1 b2 b3 b4 hgg hmm hg hm G hn; omega
    | succ nf ih =>
      intro i gg g1 h1 hi ob b1 b2 b3 b4 hgg hmm hg hm G hn
      have y1 : h1.1.1 = a + 65 + 3 * i := by rw [G.sz]; omega
      refine A.il2_1 d2_init_65 ?_
      refine A.iconst d2_init_66 ?_
      refine A.ic_ge d2_init_67 (fun c41 => ?_) (fun c41 => ?_)
      · have ei : i = 3 := by omega
        subst ei
        refine A.vret d2_init_89 ?_
        exact k _ ⟨gg, g1, ob, b1, b2, b3, b4, hgg, hg, ⟨fun j j0 j1 => ⟨by show a + 5 ≤ a + 5 + 3 * j.toNat; omega, by show a + 5 + 3 * j.toNat + 3 ≤ a + 65; omega, hmm j j0 j1⟩, fun j t j0 j1 t0 t1 e => by show a + 5 + 3 * j.toNat + 3 ≤ a + 5 + 3 * t.toNat ∨ a + 5 + 3 * t.toNat + 3 ≤ a + 5 + 3 * j.toNat; omega⟩, hm⟩ G
      · refine A.al2_0 d2_init_70 ?_
        refine A.getf d2_init_71 ?_ (hc := ob)
        refine A.il2_1 d2_init_74 ?_
        rw [show ((9 - 3 * i, 30 - 10 * i) : Nat × Nat) = ((9 - 3 * (i + 1) + 2) + 1, (30 - 10 * (i + 1) + 6) + 4) from Prod.ext (by show 9 - 3 * i = _; omega) (by show 30 - 10 * i = _; omega)]
        refine A.new d2_init_75 (c := 9 - 3 * (i + 1) + 2) (s' := 30 - 10 * (i + 1) + 6) (fun h49 z49 e49 o49 => ?_)
        rw [y1] at e49 o49 ⊢
        have G49 := Gr.new G y1 z49 o49 (by omega)
        have g49 : Gr h1 h49 (a + 65 + 3 * i) 1 := Gr.new (Gr.rfl (h := h1)) y1 z49 o49 (Nat.le_refl _)
        have y49 : h49.1.1 = a + 65 + 3 * i + 1 := by rw [g49.sz, y1]
        refine A.dup d2_init_78 ?_
        refine A.invI (d := d + 1) d2_init_79 (kb' := (9 - 3 * (i + 1), 30 - 10 * (i + 1))) (s1_init (a := a + 65 + 3 * i) e49 y49 (fun h53 hm53 G53 => kN ?_)) ⟨rfl, rfl⟩ (by omega) (Nat.le_of_ble_eq_true rfl)
        have G2 := g49.then G53 (Nat.le_refl _)
        have ob := G2.get ob (by omega)
        have b1 := G2.get b1 (by omega)
        have b2 := G2.get b2 (by omega)
        have b3 := G2.get b3 (by omega)
        have b4 := G2.get b4 (by omega)
        refine A.qast d2_init_82 hm53.1 (fun h56 e56 f56 => ?_) (hc := b2)
        refine A.ii2_1 d2_init_83 ?_
        refine A.goto d2_init_86 ?_
        have hg2 : ∀ j : Int, 0 ≤ j → j < ((i + 1 : Nat) : Int) → gset g1 i (some (a + 65 + 3 * i)) j = some (a + 65 + 3 * j.toNat) := fun j j0 j1 => by
          unfold gset
          by_cases e : j = i
          · rw [if_pos e, e]; rfl
          · rw [if_neg e]; exact hg j j0 (by omega)
        have hm2 : ∀ j : Int, 0 ≤ j → j < ((i + 1 : Nat) : Int) → moAt h56 (a + 65 + 3 * j.toNat) MO0 := fun j j0 j1 => by
          by_cases e : j = i
          · have e2 : j.toNat = i := by omega
            rw [e2]; exact hm53.fr f56 (by omega)
          · exact ((hm j j0 (by omega)).gr G2 (by omega)).fr f56 (by omega)
        have G3 : Gr h h56 a (64 + 3 * (i + 1)) := by
          have := (G49.then G53 (by omega)).fr f56 (by omega)
          rw [show 64 + 3 * i + 1 + 2 = 64 + 3 * (i + 1) by omega] at this
          exact this
        exact ih (i + 1) gg _ _ (by omega) (f56.get ob (by omega)) (f56.get b1 (by omega)) e56 (f56.get b3 (by omega)) (f56.get b4 (by omega)) hgg (fun j j0 j1 => ((hmm j j0 j1).gr G2 (by omega)).fr f56 (by omega)) hg2 hm2 G3 (by omega)
  have loop1 : ∀ (nf : Nat) (i : Nat) (g1 : Int → Option Nat) (h1 : AH) (hi : i ≤ 20) (ob : h1.2 a = some (kO 2 [vR (a + 1), vI 0, vI 0, vR (a + 2), vR (a + 3), vR (a + 4)])) (b1 : h1.2 (a + 1) = some (kQ 20 g1)) (b2 : h1.2 (a + 2) = some (kQ 3 (fun _ => none))) (b3 : h1.2 (a + 3) = some (kA 2 3 z0)) (b4 : h1.2 (a + 4) = some (kA 2 31 z0)) (hg : ∀ j : Int, 0 ≤ j → j < i → g1 j = some (a + 5 + 3 * j.toNat)) (hm : ∀ j : Int, 0 ≤ j → j < i → moAt h1 (a + 5 + 3 * j.toNat) MO0) (G : Gr h h1 a (4 + 3 * i)) (hn : 20 - i < nf), AW m2_init (d + 2) (69 - 3 * i, 230 - 10 * i) 38 [some (vR a), some (vI i)] [] h1 R := by
    intro nf
    induction nf with
    | zero => intro i g1 h1 hi ob b1 b2 b3 b4 hg hm G hn; omega
    | succ nf ih =>
      intro i g1 h1 hi ob b1 b2 b3 b4 hg hm G hn
      have y1 : h1.1.1 = a + 5 + 3 * i := by rw [G.sz]; omega
      refine A.il2_1 d2_init_38 ?_
      refine A.bipush d2_init_39 ?_
      refine A.ic_ge d2_init_41 (fun c41 => ?_) (fun c41 => ?_)
      · have ei : i = 20 := by omega
        subst ei
        refine A.iconst d2_init_63 ?_
        refine A.is2_1 d2_init_64 ?_
        exact loop2 4 0 g1 _ _ (by omega) ob b1 b2 b3 b4 hg hm (fun j j0 j1 => by omega) (fun j j0 j1 => by omega) G (by omega)
      · refine A.al2_0 d2_init_44 ?_
        refine A.getf d2_init_45 ?_ (hc := ob)
        refine A.il2_1 d2_init_48 ?_
        rw [show ((69 - 3 * i, 230 - 10 * i) : Nat × Nat) = ((69 - 3 * (i + 1) + 2) + 1, (230 - 10 * (i + 1) + 6) + 4) from Prod.ext (by show 69 - 3 * i = _; omega) (by show 230 - 10 * i = _; omega)]
        refine A.new d2_init_49 (c := 69 - 3 * (i + 1) + 2) (s' := 230 - 10 * (i + 1) + 6) (fun h49 z49 e49 o49 => ?_)
        rw [y1] at e49 o49 ⊢
        have G49 := Gr.new G y1 z49 o49 (by omega)
        have g49 : Gr h1 h49 (a + 5 + 3 * i) 1 := Gr.new (Gr.rfl (h := h1)) y1 z49 o49 (Nat.le_refl _)
        have y49 : h49.1.1 = a + 5 + 3 * i + 1 := by rw [g49.sz, y1]
        refine A.dup d2_init_52 ?_
        refine A.invI (d := d + 1) d2_init_53 (kb' := (69 - 3 * (i + 1), 230 - 10 * (i + 1))) (s1_init (a := a + 5 + 3 * i) e49 y49 (fun h53 hm53 G53 => kN ?_)) ⟨rfl, rfl⟩ (by omega) (Nat.le_of_ble_eq_true rfl)
        have G2 := g49.then G53 (Nat.le_refl _)
        have ob := G2.get ob (by omega)
        have b1 := G2.get b1 (by omega)
        have b2 := G2.get b2 (by omega)
        have b3 := G2.get b3 (by omega)
        have b4 := G2.get b4 (by omega)
        refine A.qast d2_init_56 hm53.1 (fun h56 e56 f56 => ?_) (hc := b1)
        refine A.ii2_1 d2_init_57 ?_
        refine A.goto d2_init_60 ?_
        have hg2 : ∀ j : Int, 0 ≤ j → j < ((i + 1 : Nat) : Int) → gset g1 i (some (a + 5 + 3 * i)) j = some (a + 5 + 3 * j.toNat) := fun j j0 j1 => by
          unfold gset
          by_cases e : j = i
          · rw [if_pos e, e]; rfl
          · rw [if_neg e]; exact hg j j0 (by omega)
        have hm2 : ∀ j : Int, 0 ≤ j → j < ((i + 1 : Nat) : Int) → moAt h56 (a + 5 + 3 * j.toNat) MO0 := fun j j0 j1 => by
          by_cases e : j = i
          · have e2 : j.toNat = i := by omega
            rw [e2]; exact hm53.fr f56 (by omega)
          · exact ((hm j j0 (by omega)).gr G2 (by omega)).fr f56 (by omega)
        have G3 : Gr h h56 a (4 + 3 * (i + 1)) := by
          have := (G49.then G53 (by omega)).fr f56 (by omega)
          rw [show 4 + 3 * i + 1 + 2 = 4 + 3 * (i + 1) by omega] at this
          exact this
        exact ih (i + 1) _ _ (by omega) (f56.get ob (by omega)) e56 (f56.get b2 (by omega)) (f56.get b3 (by omega)) (f56.get b4 (by omega)) hg2 hm2 G3 (by omega)
  refine A.al2_0 d2_init_0 ?_
  refine A.oinit d2_init_1 ?_ (by omega) (Nat.le_of_ble_eq_true rfl)
  refine A.al2_0 d2_init_4 ?_
  refine A.bipush d2_init_5 ?_
  refine A.newq d2_init_7 (c := 72) (s' := 267) (N := 20) (fun h7 z7 e7 o7 => ?_)
  rw [z] at e7 o7 ⊢
  have ob := (o7 _ (by omega)).trans ob
  have g7 := Gr.new (Gr.rfl (h := h) (a := a)) z z7 o7 (by omega)
  have y7 : h7.1.1 = a + 2 := by rw [g7.1]; show h.1.1 + 1 = _; omega
  have b1 := e7
  refine A.putF d2_init_10 (fun h10 e10 f10 => ?_) (hc := ob) (hk := blt_ok rfl)
  have ob := e10
  have b1 := (f10.2 _ (by omega)).trans b1
  have g10 := Gr.fr (g7) f10 (by omega)
  have y10 : h10.1.1 = a + 2 := by rw [f10.1]; exact y7
  refine A.al2_0 d2_init_13 ?_
  refine A.iconst d2_init_14 ?_
  refine A.newq d2_init_15 (c := 71) (s' := 264) (N := 3) (fun h15 z15 e15 o15 => ?_)
  rw [y10] at e15 o15 ⊢
  have ob := (o15 _ (by omega)).trans ob
  have b1 := (o15 _ (by omega)).trans b1
  have g15 := Gr.new (g10) y10 z15 o15 (by omega)
  have y15 : h15.1.1 = a + 3 := by rw [g15.1]; show h.1.1 + 2 = _; omega
  have b2 := e15
  refine A.putF d2_init_18 (fun h18 e18 f18 => ?_) (hc := ob) (hk := blt_ok rfl)
  have ob := e18
  have b1 := (f18.2 _ (by omega)).trans b1
  have b2 := (f18.2 _ (by omega)).trans b2
  have g18 := Gr.fr (g15) f18 (by omega)
  have y18 : h18.1.1 = a + 3 := by rw [f18.1]; exact y15
  refine A.al2_0 d2_init_21 ?_
  refine A.iconst d2_init_22 ?_
  refine A.newa d2_init_23 (c := 70) (s' := 261) (N := 3) (fun h23 z23 e23 o23 => ?_)
  rw [y18] at e23 o23 ⊢
  have ob := (o23 _ (by omega)).trans ob
  have b1 := (o23 _ (by omega)).trans b1
  have b2 := (o23 _ (by omega)).trans b2
  have g23 := Gr.new (g18) y18 z23 o23 (by omega)
  have y23 : h23.1.1 = a + 4 := by rw [g23.1]; show h.1.1 + 3 = _; omega
  have b3 := e23
  refine A.putF d2_init_25 (fun h25 e25 f25 => ?_) (hc := ob) (hk := blt_ok rfl)
  have ob := e25
  have b1 := (f25.2 _ (by omega)).trans b1
  have b2 := (f25.2 _ (by omega)).trans b2
  have b3 := (f25.2 _ (by omega)).trans b3
  have g25 := Gr.fr (g23) f25 (by omega)
  have y25 : h25.1.1 = a + 4 := by rw [f25.1]; exact y23
  refine A.al2_0 d2_init_28 ?_
  refine A.bipush d2_init_29 ?_
  refine A.newa d2_init_31 (c := 69) (s' := 230) (N := 31) (fun h31 z31 e31 o31 => ?_)
  rw [y25] at e31 o31 ⊢
  have ob := (o31 _ (by omega)).trans ob
  have b1 := (o31 _ (by omega)).trans b1
  have b2 := (o31 _ (by omega)).trans b2
  have b3 := (o31 _ (by omega)).trans b3
  have g31 := Gr.new (g25) y25 z31 o31 (by omega)
  have y31 : h31.1.1 = a + 5 := by rw [g31.1]; show h.1.1 + 4 = _; omega
  have b4 := e31
  refine A.putF d2_init_33 (fun h33 e33 f33 => ?_) (hc := ob) (hk := blt_ok rfl)
  have ob := e33
  have b1 := (f33.2 _ (by omega)).trans b1
  have b2 := (f33.2 _ (by omega)).trans b2
  have b3 := (f33.2 _ (by omega)).trans b3
  have b4 := (f33.2 _ (by omega)).trans b4
  have g33 := Gr.fr (g31) f33 (by omega)
  have y33 : h33.1.1 = a + 5 := by rw [f33.1]; exact y31
  refine A.iconst d2_init_36 ?_
  refine A.is2_1 d2_init_37 ?_
  exact loop1 21 0 _ _ (by omega) ob b1 b2 b3 b4 (fun j j0 j1 => by omega) (fun j j0 j1 => by omega) g33 (by omega)
theorem rScr_00 : rScr z0 SC0 := ⟨⟨Int.le_refl 0, (by decide : (0 : Int) ≤ 29)⟩, fun v v0 v1 => by have : v < 0 := v1; omega⟩
theorem scI_00 : scI SC0 := scI_0 SC0
set_option maxRecDepth 100000 in
set_option maxHeartbeats 4000000 in
theorem s5_init {d : Nat} {h : AH} {R : RP} {a : Nat} (ob : h.2 a = some (kO 5 [vN, vN, vN, vN])) (z : h.1.1 = a + 1) (k : ∀ h', pAt h' a SC0 (startP SC0 (PL0 (a + 15))) (0, z0) → Gr h h' a 97 → R none h') : AM m5_init (d + 6) h [vR a] R := by
  refine AM.of (L := [some (vR a)]) ok_5_init (by decide) (fun G => Nat.le_of_ble_eq_true rfl) rfl ?_
  refine A.al1_0 d5_init_0 ?_
  refine A.oinit d5_init_1 ?_ (by omega) (Nat.le_of_ble_eq_true rfl)
  refine A.al1_0 d5_init_4 ?_
  refine A.new d5_init_5 (c := 96) (s' := 9415) (fun h5 z5 e5 o5 => ?_)
  rw [z] at e5 o5 ⊢
  have ob := (o5 _ (by omega)).trans ob
  have g5 := Gr.new (Gr.rfl (h := h) (a := a)) z z5 o5 (by omega)
  have y5 : h5.1.1 = a + 2 := by rw [g5.1]; show h.1.1 + 1 = _; omega
  refine A.dup d5_init_8 ?_
  refine A.invI (d := d + 5) d5_init_9 (kb' := (89, 8787)) (s4_init (a := a + 1) e5 y5 (fun h9 ht hd G9 => kN ?_)) ⟨rfl, rfl⟩ (by omega) (Nat.le_of_ble_eq_true rfl)
  have ob := G9.get ob (by omega)
  have g9 := Gr.then (g5) G9 (by omega)
  have y9 : h9.1.1 = a + 9 := by rw [g9.sz]; omega
  refine A.putF d5_init_12 (fun h12 e12 f12 => ?_) (hc := ob) (hk := blt_ok rfl)
  have ob := e12
  have ht := ht.fr f12 (by omega)
  have hd := hd.fr f12 (by omega)
  have g12 := Gr.fr (g9) f12 (by omega)
  have y12 : h12.1.1 = a + 9 := by rw [f12.1]; exact y9
  refine A.al1_0 d5_init_15 ?_
  refine A.new d5_init_16 (c := 88) (s' := 8781) (fun h16 z16 e16 o16 => ?_)
  rw [y12] at e16 o16 ⊢
  have ob := (o16 _ (by omega)).trans ob
  have g16 := Gr.new (g12) y12 z16 o16 (by omega)
  have G16 := Gr.new Gr.rfl y12 z16 o16 (Nat.le_refl _)
  have ht := ht.gr G16 (by omega)
  have hd := hd.gr G16 (by omega)
  have y16 : h16.1.1 = a + 10 := by rw [g16.1]; show h.1.1 + 9 = _; omega
  refine A.dup d5_init_19 ?_
  refine A.invI (d := d + 5) d5_init_20 (kb' := (83, 8259)) (s3_init (a := a + 9) e16 y16 (fun h20 hs G20 => kN ?_)) ⟨rfl, rfl⟩ (by omega) (Nat.le_of_ble_eq_true rfl)
  have ob := G20.get ob (by omega)
  have ht := ht.gr G20 (by omega)
  have hd := hd.gr G20 (by omega)
  have g20 := Gr.then (g16) G20 (by omega)
  have y20 : h20.1.1 = a + 15 := by rw [g20.sz]; omega
  refine A.putf d5_init_23 (fun h23 e23 f23 => ?_) (hc := ob) (hk := blt_ok rfl)
  have ob := e23
  have ht := ht.fr f23 (by omega)
  have hd := hd.fr f23 (by omega)
  have hs := hs.fr f23 (by omega)
  have g23 := Gr.fr (g20) f23 (by omega)
  have y23 : h23.1.1 = a + 15 := by rw [f23.1]; exact y20
  refine A.al1_0 d5_init_26 ?_
  refine A.new d5_init_27 (c := 82) (s' := 8253) (fun h27 z27 e27 o27 => ?_)
  rw [y23] at e27 o27 ⊢
  have ob := (o27 _ (by omega)).trans ob
  have g27 := Gr.new (g23) y23 z27 o27 (by omega)
  have G27 := Gr.new Gr.rfl y23 z27 o27 (Nat.le_refl _)
  have ht := ht.gr G27 (by omega)
  have hd := hd.gr G27 (by omega)
  have hs := hs.gr G27 (by omega)
  have y27 : h27.1.1 = a + 16 := by rw [g27.1]; show h.1.1 + 15 = _; omega
  refine A.dup d5_init_30 ?_
  refine A.invI (d := d + 5) d5_init_31 (kb' := (9, 7966)) (s2_init (a := a + 15) e27 y27 (fun h31 hpl G31 => kN ?_)) ⟨rfl, rfl⟩ (by omega) (Nat.le_of_ble_eq_true rfl)
  have ob := G31.get ob (by omega)
  have ht := ht.gr G31 (by omega)
  have hd := hd.gr G31 (by omega)
  have hs := hs.gr G31 (by omega)
  have g31 := Gr.then (g27) G31 (by omega)
  have y31 : h31.1.1 = a + 89 := by rw [g31.sz]; omega
  refine A.putF d5_init_34 (fun h34 e34 f34 => ?_) (hc := ob) (hk := blt_ok rfl)
  have ob := e34
  have ht := ht.fr f34 (by omega)
  have hd := hd.fr f34 (by omega)
  have hs := hs.fr f34 (by omega)
  have hpl := hpl.fr f34 (by omega)
  have g34 := Gr.fr (g31) f34 (by omega)
  have y34 : h34.1.1 = a + 89 := by rw [f34.1]; exact y31
  refine A.al1_0 d5_init_37 ?_
  refine A.new d5_init_38 (c := 8) (s' := 7958) (fun h38 z38 e38 o38 => ?_)
  rw [y34] at e38 o38 ⊢
  have ob := (o38 _ (by omega)).trans ob
  have g38 := Gr.new (g34) y34 z38 o38 (by omega)
  have G38 := Gr.new Gr.rfl y34 z38 o38 (Nat.le_refl _)
  have ht := ht.gr G38 (by omega)
  have hd := hd.gr G38 (by omega)
  have hs := hs.gr G38 (by omega)
  have hpl := hpl.gr G38 (by omega)
  have y38 : h38.1.1 = a + 90 := by rw [g38.1]; show h.1.1 + 89 = _; omega
  refine A.dup d5_init_41 ?_
  refine A.invI (d := d + 5) d5_init_42 (kb' := (0, 0)) (s0_init (a := a + 89) e38 y38 (fun h42 q0 q1 q2 q3 q4 q5 hm G42 => kN ?_)) ⟨rfl, rfl⟩ (by omega) (Nat.le_of_ble_eq_true rfl)
  have ob := G42.get ob (by omega)
  have ht := ht.gr G42 (by omega)
  have hd := hd.gr G42 (by omega)
  have hs := hs.gr G42 (by omega)
  have hpl := hpl.gr G42 (by omega)
  have g42 := Gr.then (g38) G42 (by omega)
  have y42 : h42.1.1 = a + 98 := by rw [g42.sz]; omega
  refine A.putF d5_init_45 (fun h45 e45 f45 => ?_) (hc := ob) (hk := blt_ok rfl)
  have ob := e45
  have q0 := (f45.2 _ (by omega)).trans q0
  have q1 := (f45.2 _ (by omega)).trans q1
  have q2 := (f45.2 _ (by omega)).trans q2
  have q3 := (f45.2 _ (by omega)).trans q3
  have q4 := (f45.2 _ (by omega)).trans q4
  have q5 := (f45.2 _ (by omega)).trans q5
  have ht := ht.fr f45 (by omega)
  have hd := hd.fr f45 (by omega)
  have hs := hs.fr f45 (by omega)
  have hpl := hpl.fr f45 (by omega)
  have hm := hm.fr f45 (by omega)
  have g45 := Gr.fr (g42) f45 (by omega)
  have y45 : h45.1.1 = a + 98 := by rw [f45.1]; exact y42
  refine A.al1_0 d5_init_48 ?_
  refine A.getf d5_init_49 ?_ (hc := ob)
  refine A.al1_0 d5_init_52 ?_
  refine A.getf d5_init_53 ?_ (hc := ob)
  refine A.v1 d5_init_56 (s2_startScript hpl hs (by omega) (fun h56 hpl2 f56 => kN ?_)) (hc := hpl.choose_spec.choose_spec.1)
  have ob := f56.get ob (by omega)
  have q0 := f56.get q0 (by omega)
  have q1 := f56.get q1 (by omega)
  have q2 := f56.get q2 (by omega)
  have q3 := f56.get q3 (by omega)
  have q4 := f56.get q4 (by omega)
  have q5 := f56.get q5 (by omega)
  have ht := ht.fr f56 (by omega)
  have hd := hd.fr f56 (by omega)
  have hs := hs.fr f56 (by omega)
  have hm := hm.fr f56 (by omega)
  have G56 := Gr.fr (g45) f56 (by omega)
  refine A.al1_0 d5_init_59 ?_
  refine A.getf d5_init_60 ?_ (hc := ob)
  refine A.al1_0 d5_init_63 ?_
  refine A.getf d5_init_64 ?_ (hc := ob)
  refine A.v1 d5_init_67 (s0_draw (c := a + 89) q0 q1 q2 q3 q4 q5 hs (by omega) rScr_00 hm (fun h67 re67 wc67 Cc67 Lc67 Lo67 Wa67 Es67 m67 r0 r1 r2 r3 r4 r5 hm67 u67 v67 hC67 f67 => kN ?_)) (hc := q0)
  refine A.vret d5_init_70 ?_
  exact k _ ⟨_, _, _, _, _, _, _, _, _, _, _, _, _, Or.inl ⟨rfl, rfl⟩, f67.get ob (by omega), ht.fr f67 (by omega), hs.fr f67 (by omega), hd.fr f67 (by omega), scI_00, scI_00, hpl2.fr f67 (by omega), r0, r1, r2, r3, r4, r5, hm67, hC67⟩ (G56.fr f67 (by omega))
set_option maxRecDepth 100000 in
set_option maxHeartbeats 4000000 in
theorem s6_init {d : Nat} {h : AH} {R : RP} {a b0 : Nat} (ob : h.2 a = some (kO 6 [vN, vI 0, vN, vI 0, vN, vI 0, vI 0, vI 0, vN, vN, vI 0, vN, vI 0, vI 0, vI 0, vI 0, vN, vN, vN, vN, vN, vN, vI 0, vN, vN, vN, vL 0])) (z : h.1.1 = a + 1) (k : ∀ h', mAt h' a SC0 (startP SC0 (PL0 b0)) (0, z0) → Gr h h' a 15 → R none h') : AM m6_init (d + 4) h [vR a] R := by
  refine AM.of (L := [some (vR a)]) ok_6_init (by decide) (fun G => Nat.le_of_ble_eq_true rfl) rfl ?_
  refine A.al1_0 d6_init_0 ?_
  refine A.oinit d6_init_1 ?_ (by omega) (Nat.le_of_ble_eq_true rfl)
  refine A.al1_0 d6_init_4 ?_
  refine A.sipush d6_init_5 ?_
  refine A.newa d6_init_8 (c := 14) (s' := 8616) (N := 348) (fun h8 z8 e8 o8 => ?_)
  rw [z] at e8 o8 ⊢
  have ob := (o8 _ (by omega)).trans ob
  have g8 := Gr.new (Gr.rfl (h := h) (a := a)) z z8 o8 (by omega)
  have y8 : h8.1.1 = a + 2 := by rw [g8.1]; show h.1.1 + 1 = _; omega
  have w1 := e8
  refine A.putF d6_init_10 (fun h10 e10 f10 => ?_) (hc := ob) (hk := blt_ok rfl)
  have ob := e10
  have w1 := (f10.2 _ (by omega)).trans w1
  have g10 := Gr.fr (g8) f10 (by omega)
  have y10 : h10.1.1 = a + 2 := by rw [f10.1]; exact y8
  refine A.al1_0 d6_init_13 ?_
  refine A.sipush d6_init_14 ?_
  refine A.newa d6_init_17 (c := 13) (s' := 8268) (N := 348) (fun h17 z17 e17 o17 => ?_)
  rw [y10] at e17 o17 ⊢
  have ob := (o17 _ (by omega)).trans ob
  have w1 := (o17 _ (by omega)).trans w1
  have g17 := Gr.new (g10) y10 z17 o17 (by omega)
  have y17 : h17.1.1 = a + 3 := by rw [g17.1]; show h.1.1 + 2 = _; omega
  have w2 := e17
  refine A.putF d6_init_19 (fun h19 e19 f19 => ?_) (hc := ob) (hk := blt_ok rfl)
  have ob := e19
  have w1 := (f19.2 _ (by omega)).trans w1
  have w2 := (f19.2 _ (by omega)).trans w2
  have g19 := Gr.fr (g17) f19 (by omega)
  have y19 : h19.1.1 = a + 3 := by rw [f19.1]; exact y17
  refine A.al1_0 d6_init_22 ?_
  refine A.sipush d6_init_23 ?_
  refine A.newa d6_init_26 (c := 12) (s' := 8108) (N := 160) (fun h26 z26 e26 o26 => ?_)
  rw [y19] at e26 o26 ⊢
  have ob := (o26 _ (by omega)).trans ob
  have w1 := (o26 _ (by omega)).trans w1
  have w2 := (o26 _ (by omega)).trans w2
  have g26 := Gr.new (g19) y19 z26 o26 (by omega)
  have y26 : h26.1.1 = a + 4 := by rw [g26.1]; show h.1.1 + 3 = _; omega
  have w3 := e26
  refine A.putF d6_init_28 (fun h28 e28 f28 => ?_) (hc := ob) (hk := blt_ok rfl)
  have ob := e28
  have w1 := (f28.2 _ (by omega)).trans w1
  have w2 := (f28.2 _ (by omega)).trans w2
  have w3 := (f28.2 _ (by omega)).trans w3
  have g28 := Gr.fr (g26) f28 (by omega)
  have y28 : h28.1.1 = a + 4 := by rw [f28.1]; exact y26
  refine A.al1_0 d6_init_31 ?_
  refine A.bipush d6_init_32 ?_
  refine A.newa d6_init_34 (c := 11) (s' := 8084) (N := 24) (fun h34 z34 e34 o34 => ?_)
  rw [y28] at e34 o34 ⊢
  have ob := (o34 _ (by omega)).trans ob
  have w1 := (o34 _ (by omega)).trans w1
  have w2 := (o34 _ (by omega)).trans w2
  have w3 := (o34 _ (by omega)).trans w3
  have g34 := Gr.new (g28) y28 z34 o34 (by omega)
  have y34 : h34.1.1 = a + 5 := by rw [g34.1]; show h.1.1 + 4 = _; omega
  have w4 := e34
  refine A.putF d6_init_36 (fun h36 e36 f36 => ?_) (hc := ob) (hk := blt_ok rfl)
  have ob := e36
  have w1 := (f36.2 _ (by omega)).trans w1
  have w2 := (f36.2 _ (by omega)).trans w2
  have w3 := (f36.2 _ (by omega)).trans w3
  have w4 := (f36.2 _ (by omega)).trans w4
  have g36 := Gr.fr (g34) f36 (by omega)
  have y36 : h36.1.1 = a + 5 := by rw [f36.1]; exact y34
  refine A.al1_0 d6_init_39 ?_
  refine A.iconst d6_init_40 ?_
  refine A.newa d6_init_41 (c := 10) (s' := 8081) (N := 3) (fun h41 z41 e41 o41 => ?_)
  rw [y36] at e41 o41 ⊢
  have ob := (o41 _ (by omega)).trans ob
  have w1 := (o41 _ (by omega)).trans w1
  have w2 := (o41 _ (by omega)).trans w2
  have w3 := (o41 _ (by omega)).trans w3
  have w4 := (o41 _ (by omega)).trans w4
  have g41 := Gr.new (g36) y36 z41 o41 (by omega)
  have y41 : h41.1.1 = a + 6 := by rw [g41.1]; show h.1.1 + 5 = _; omega
  have w5 := e41
  refine A.putF d6_init_43 (fun h43 e43 f43 => ?_) (hc := ob) (hk := blt_ok rfl)
  have ob := e43
  have w1 := (f43.2 _ (by omega)).trans w1
  have w2 := (f43.2 _ (by omega)).trans w2
  have w3 := (f43.2 _ (by omega)).trans w3
  have w4 := (f43.2 _ (by omega)).trans w4
  have w5 := (f43.2 _ (by omega)).trans w5
  have g43 := Gr.fr (g41) f43 (by omega)
  have y43 : h43.1.1 = a + 6 := by rw [f43.1]; exact y41
  refine A.al1_0 d6_init_46 ?_
  refine A.bipush d6_init_47 ?_
  refine A.newa d6_init_49 (c := 9) (s' := 7981) (N := 100) (fun h49 z49 e49 o49 => ?_)
  rw [y43] at e49 o49 ⊢
  have ob := (o49 _ (by omega)).trans ob
  have w1 := (o49 _ (by omega)).trans w1
  have w2 := (o49 _ (by omega)).trans w2
  have w3 := (o49 _ (by omega)).trans w3
  have w4 := (o49 _ (by omega)).trans w4
  have w5 := (o49 _ (by omega)).trans w5
  have g49 := Gr.new (g43) y43 z49 o49 (by omega)
  have y49 : h49.1.1 = a + 7 := by rw [g49.1]; show h.1.1 + 6 = _; omega
  have w6 := e49
  refine A.putF d6_init_51 (fun h51 e51 f51 => ?_) (hc := ob) (hk := blt_ok rfl)
  have ob := e51
  have w1 := (f51.2 _ (by omega)).trans w1
  have w2 := (f51.2 _ (by omega)).trans w2
  have w3 := (f51.2 _ (by omega)).trans w3
  have w4 := (f51.2 _ (by omega)).trans w4
  have w5 := (f51.2 _ (by omega)).trans w5
  have w6 := (f51.2 _ (by omega)).trans w6
  have g51 := Gr.fr (g49) f51 (by omega)
  have y51 : h51.1.1 = a + 7 := by rw [f51.1]; exact y49
  refine A.al1_0 d6_init_54 ?_
  refine A.iconst d6_init_55 ?_
  refine A.newa d6_init_56 (c := 8) (s' := 7978) (N := 3) (fun h56 z56 e56 o56 => ?_)
  rw [y51] at e56 o56 ⊢
  have ob := (o56 _ (by omega)).trans ob
  have w1 := (o56 _ (by omega)).trans w1
  have w2 := (o56 _ (by omega)).trans w2
  have w3 := (o56 _ (by omega)).trans w3
  have w4 := (o56 _ (by omega)).trans w4
  have w5 := (o56 _ (by omega)).trans w5
  have w6 := (o56 _ (by omega)).trans w6
  have g56 := Gr.new (g51) y51 z56 o56 (by omega)
  have y56 : h56.1.1 = a + 8 := by rw [g56.1]; show h.1.1 + 7 = _; omega
  have w7 := e56
  refine A.putF d6_init_58 (fun h58 e58 f58 => ?_) (hc := ob) (hk := blt_ok rfl)
  have ob := e58
  have w1 := (f58.2 _ (by omega)).trans w1
  have w2 := (f58.2 _ (by omega)).trans w2
  have w3 := (f58.2 _ (by omega)).trans w3
  have w4 := (f58.2 _ (by omega)).trans w4
  have w5 := (f58.2 _ (by omega)).trans w5
  have w6 := (f58.2 _ (by omega)).trans w6
  have w7 := (f58.2 _ (by omega)).trans w7
  have g58 := Gr.fr (g56) f58 (by omega)
  have y58 : h58.1.1 = a + 8 := by rw [f58.1]; exact y56
  refine A.al1_0 d6_init_61 ?_
  refine A.iconst d6_init_62 ?_
  refine A.newa d6_init_63 (c := 7) (s' := 7975) (N := 3) (fun h63 z63 e63 o63 => ?_)
  rw [y58] at e63 o63 ⊢
  have ob := (o63 _ (by omega)).trans ob
  have w1 := (o63 _ (by omega)).trans w1
  have w2 := (o63 _ (by omega)).trans w2
  have w3 := (o63 _ (by omega)).trans w3
  have w4 := (o63 _ (by omega)).trans w4
  have w5 := (o63 _ (by omega)).trans w5
  have w6 := (o63 _ (by omega)).trans w6
  have w7 := (o63 _ (by omega)).trans w7
  have g63 := Gr.new (g58) y58 z63 o63 (by omega)
  have y63 : h63.1.1 = a + 9 := by rw [g63.1]; show h.1.1 + 8 = _; omega
  have w8 := e63
  refine A.putF d6_init_65 (fun h65 e65 f65 => ?_) (hc := ob) (hk := blt_ok rfl)
  have ob := e65
  have w1 := (f65.2 _ (by omega)).trans w1
  have w2 := (f65.2 _ (by omega)).trans w2
  have w3 := (f65.2 _ (by omega)).trans w3
  have w4 := (f65.2 _ (by omega)).trans w4
  have w5 := (f65.2 _ (by omega)).trans w5
  have w6 := (f65.2 _ (by omega)).trans w6
  have w7 := (f65.2 _ (by omega)).trans w7
  have w8 := (f65.2 _ (by omega)).trans w8
  have g65 := Gr.fr (g63) f65 (by omega)
  have y65 : h65.1.1 = a + 9 := by rw [f65.1]; exact y63
  refine A.al1_0 d6_init_68 ?_
  refine A.sipush d6_init_69 ?_
  refine A.newa d6_init_72 (c := 6) (s' := 5991) (N := 1984) (fun h72 z72 e72 o72 => ?_)
  rw [y65] at e72 o72 ⊢
  have ob := (o72 _ (by omega)).trans ob
  have w1 := (o72 _ (by omega)).trans w1
  have w2 := (o72 _ (by omega)).trans w2
  have w3 := (o72 _ (by omega)).trans w3
  have w4 := (o72 _ (by omega)).trans w4
  have w5 := (o72 _ (by omega)).trans w5
  have w6 := (o72 _ (by omega)).trans w6
  have w7 := (o72 _ (by omega)).trans w7
  have w8 := (o72 _ (by omega)).trans w8
  have g72 := Gr.new (g65) y65 z72 o72 (by omega)
  have y72 : h72.1.1 = a + 10 := by rw [g72.1]; show h.1.1 + 9 = _; omega
  have w9 := e72
  refine A.putF d6_init_74 (fun h74 e74 f74 => ?_) (hc := ob) (hk := blt_ok rfl)
  have ob := e74
  have w1 := (f74.2 _ (by omega)).trans w1
  have w2 := (f74.2 _ (by omega)).trans w2
  have w3 := (f74.2 _ (by omega)).trans w3
  have w4 := (f74.2 _ (by omega)).trans w4
  have w5 := (f74.2 _ (by omega)).trans w5
  have w6 := (f74.2 _ (by omega)).trans w6
  have w7 := (f74.2 _ (by omega)).trans w7
  have w8 := (f74.2 _ (by omega)).trans w8
  have w9 := (f74.2 _ (by omega)).trans w9
  have g74 := Gr.fr (g72) f74 (by omega)
  have y74 : h74.1.1 = a + 10 := by rw [f74.1]; exact y72
  refine A.al1_0 d6_init_77 ?_
  refine A.sipush d6_init_78 ?_
  refine A.newa d6_init_81 (c := 5) (s' := 4007) (N := 1984) (fun h81 z81 e81 o81 => ?_)
  rw [y74] at e81 o81 ⊢
  have ob := (o81 _ (by omega)).trans ob
  have w1 := (o81 _ (by omega)).trans w1
  have w2 := (o81 _ (by omega)).trans w2
  have w3 := (o81 _ (by omega)).trans w3
  have w4 := (o81 _ (by omega)).trans w4
  have w5 := (o81 _ (by omega)).trans w5
  have w6 := (o81 _ (by omega)).trans w6
  have w7 := (o81 _ (by omega)).trans w7
  have w8 := (o81 _ (by omega)).trans w8
  have w9 := (o81 _ (by omega)).trans w9
  have g81 := Gr.new (g74) y74 z81 o81 (by omega)
  have y81 : h81.1.1 = a + 11 := by rw [g81.1]; show h.1.1 + 10 = _; omega
  have w10 := e81
  refine A.putF d6_init_83 (fun h83 e83 f83 => ?_) (hc := ob) (hk := blt_ok rfl)
  have ob := e83
  have w1 := (f83.2 _ (by omega)).trans w1
  have w2 := (f83.2 _ (by omega)).trans w2
  have w3 := (f83.2 _ (by omega)).trans w3
  have w4 := (f83.2 _ (by omega)).trans w4
  have w5 := (f83.2 _ (by omega)).trans w5
  have w6 := (f83.2 _ (by omega)).trans w6
  have w7 := (f83.2 _ (by omega)).trans w7
  have w8 := (f83.2 _ (by omega)).trans w8
  have w9 := (f83.2 _ (by omega)).trans w9
  have w10 := (f83.2 _ (by omega)).trans w10
  have g83 := Gr.fr (g81) f83 (by omega)
  have y83 : h83.1.1 = a + 11 := by rw [f83.1]; exact y81
  refine A.al1_0 d6_init_86 ?_
  refine A.sipush d6_init_87 ?_
  refine A.newa d6_init_90 (c := 4) (s' := 2023) (N := 1984) (fun h90 z90 e90 o90 => ?_)
  rw [y83] at e90 o90 ⊢
  have ob := (o90 _ (by omega)).trans ob
  have w1 := (o90 _ (by omega)).trans w1
  have w2 := (o90 _ (by omega)).trans w2
  have w3 := (o90 _ (by omega)).trans w3
  have w4 := (o90 _ (by omega)).trans w4
  have w5 := (o90 _ (by omega)).trans w5
  have w6 := (o90 _ (by omega)).trans w6
  have w7 := (o90 _ (by omega)).trans w7
  have w8 := (o90 _ (by omega)).trans w8
  have w9 := (o90 _ (by omega)).trans w9
  have w10 := (o90 _ (by omega)).trans w10
  have g90 := Gr.new (g83) y83 z90 o90 (by omega)
  have y90 : h90.1.1 = a + 12 := by rw [g90.1]; show h.1.1 + 11 = _; omega
  have w11 := e90
  refine A.putF d6_init_92 (fun h92 e92 f92 => ?_) (hc := ob) (hk := blt_ok rfl)
  have ob := e92
  have w1 := (f92.2 _ (by omega)).trans w1
  have w2 := (f92.2 _ (by omega)).trans w2
  have w3 := (f92.2 _ (by omega)).trans w3
  have w4 := (f92.2 _ (by omega)).trans w4
  have w5 := (f92.2 _ (by omega)).trans w5
  have w6 := (f92.2 _ (by omega)).trans w6
  have w7 := (f92.2 _ (by omega)).trans w7
  have w8 := (f92.2 _ (by omega)).trans w8
  have w9 := (f92.2 _ (by omega)).trans w9
  have w10 := (f92.2 _ (by omega)).trans w10
  have w11 := (f92.2 _ (by omega)).trans w11
  have g92 := Gr.fr (g90) f92 (by omega)
  have y92 : h92.1.1 = a + 12 := by rw [f92.1]; exact y90
  refine A.al1_0 d6_init_95 ?_
  refine A.sipush d6_init_96 ?_
  refine A.newa d6_init_99 (c := 3) (s' := 39) (N := 1984) (fun h99 z99 e99 o99 => ?_)
  rw [y92] at e99 o99 ⊢
  have ob := (o99 _ (by omega)).trans ob
  have w1 := (o99 _ (by omega)).trans w1
  have w2 := (o99 _ (by omega)).trans w2
  have w3 := (o99 _ (by omega)).trans w3
  have w4 := (o99 _ (by omega)).trans w4
  have w5 := (o99 _ (by omega)).trans w5
  have w6 := (o99 _ (by omega)).trans w6
  have w7 := (o99 _ (by omega)).trans w7
  have w8 := (o99 _ (by omega)).trans w8
  have w9 := (o99 _ (by omega)).trans w9
  have w10 := (o99 _ (by omega)).trans w10
  have w11 := (o99 _ (by omega)).trans w11
  have g99 := Gr.new (g92) y92 z99 o99 (by omega)
  have y99 : h99.1.1 = a + 13 := by rw [g99.1]; show h.1.1 + 12 = _; omega
  have w12 := e99
  refine A.putF d6_init_101 (fun h101 e101 f101 => ?_) (hc := ob) (hk := blt_ok rfl)
  have ob := e101
  have w1 := (f101.2 _ (by omega)).trans w1
  have w2 := (f101.2 _ (by omega)).trans w2
  have w3 := (f101.2 _ (by omega)).trans w3
  have w4 := (f101.2 _ (by omega)).trans w4
  have w5 := (f101.2 _ (by omega)).trans w5
  have w6 := (f101.2 _ (by omega)).trans w6
  have w7 := (f101.2 _ (by omega)).trans w7
  have w8 := (f101.2 _ (by omega)).trans w8
  have w9 := (f101.2 _ (by omega)).trans w9
  have w10 := (f101.2 _ (by omega)).trans w10
  have w11 := (f101.2 _ (by omega)).trans w11
  have w12 := (f101.2 _ (by omega)).trans w12
  have g101 := Gr.fr (g99) f101 (by omega)
  have y101 : h101.1.1 = a + 13 := by rw [f101.1]; exact y99
  refine A.al1_0 d6_init_104 ?_
  refine A.bipush d6_init_105 ?_
  refine A.newa d6_init_107 (c := 2) (s' := 26) (N := 13) (fun h107 z107 e107 o107 => ?_)
  rw [y101] at e107 o107 ⊢
  have ob := (o107 _ (by omega)).trans ob
  have w1 := (o107 _ (by omega)).trans w1
  have w2 := (o107 _ (by omega)).trans w2
  have w3 := (o107 _ (by omega)).trans w3
  have w4 := (o107 _ (by omega)).trans w4
  have w5 := (o107 _ (by omega)).trans w5
  have w6 := (o107 _ (by omega)).trans w6
  have w7 := (o107 _ (by omega)).trans w7
  have w8 := (o107 _ (by omega)).trans w8
  have w9 := (o107 _ (by omega)).trans w9
  have w10 := (o107 _ (by omega)).trans w10
  have w11 := (o107 _ (by omega)).trans w11
  have w12 := (o107 _ (by omega)).trans w12
  have g107 := Gr.new (g101) y101 z107 o107 (by omega)
  have y107 : h107.1.1 = a + 14 := by rw [g107.1]; show h.1.1 + 13 = _; omega
  have w13 := e107
  refine A.putF d6_init_109 (fun h109 e109 f109 => ?_) (hc := ob) (hk := blt_ok rfl)
  have ob := e109
  have w1 := (f109.2 _ (by omega)).trans w1
  have w2 := (f109.2 _ (by omega)).trans w2
  have w3 := (f109.2 _ (by omega)).trans w3
  have w4 := (f109.2 _ (by omega)).trans w4
  have w5 := (f109.2 _ (by omega)).trans w5
  have w6 := (f109.2 _ (by omega)).trans w6
  have w7 := (f109.2 _ (by omega)).trans w7
  have w8 := (f109.2 _ (by omega)).trans w8
  have w9 := (f109.2 _ (by omega)).trans w9
  have w10 := (f109.2 _ (by omega)).trans w10
  have w11 := (f109.2 _ (by omega)).trans w11
  have w12 := (f109.2 _ (by omega)).trans w12
  have w13 := (f109.2 _ (by omega)).trans w13
  have g109 := Gr.fr (g107) f109 (by omega)
  have y109 : h109.1.1 = a + 14 := by rw [f109.1]; exact y107
  refine A.al1_0 d6_init_112 ?_
  refine A.bipush d6_init_113 ?_
  refine A.newa d6_init_115 (c := 1) (s' := 13) (N := 13) (fun h115 z115 e115 o115 => ?_)
  rw [y109] at e115 o115 ⊢
  have ob := (o115 _ (by omega)).trans ob
  have w1 := (o115 _ (by omega)).trans w1
  have w2 := (o115 _ (by omega)).trans w2
  have w3 := (o115 _ (by omega)).trans w3
  have w4 := (o115 _ (by omega)).trans w4
  have w5 := (o115 _ (by omega)).trans w5
  have w6 := (o115 _ (by omega)).trans w6
  have w7 := (o115 _ (by omega)).trans w7
  have w8 := (o115 _ (by omega)).trans w8
  have w9 := (o115 _ (by omega)).trans w9
  have w10 := (o115 _ (by omega)).trans w10
  have w11 := (o115 _ (by omega)).trans w11
  have w12 := (o115 _ (by omega)).trans w12
  have w13 := (o115 _ (by omega)).trans w13
  have g115 := Gr.new (g109) y109 z115 o115 (by omega)
  have y115 : h115.1.1 = a + 15 := by rw [g115.1]; show h.1.1 + 14 = _; omega
  have w14 := e115
  refine A.putF d6_init_117 (fun h117 e117 f117 => ?_) (hc := ob) (hk := blt_ok rfl)
  have ob := e117
  have w1 := (f117.2 _ (by omega)).trans w1
  have w2 := (f117.2 _ (by omega)).trans w2
  have w3 := (f117.2 _ (by omega)).trans w3
  have w4 := (f117.2 _ (by omega)).trans w4
  have w5 := (f117.2 _ (by omega)).trans w5
  have w6 := (f117.2 _ (by omega)).trans w6
  have w7 := (f117.2 _ (by omega)).trans w7
  have w8 := (f117.2 _ (by omega)).trans w8
  have w9 := (f117.2 _ (by omega)).trans w9
  have w10 := (f117.2 _ (by omega)).trans w10
  have w11 := (f117.2 _ (by omega)).trans w11
  have w12 := (f117.2 _ (by omega)).trans w12
  have w13 := (f117.2 _ (by omega)).trans w13
  have w14 := (f117.2 _ (by omega)).trans w14
  have g117 := Gr.fr (g115) f117 (by omega)
  have y117 : h117.1.1 = a + 15 := by rw [f117.1]; exact y115
  refine A.al1_0 d6_init_120 ?_
  refine A.bipush d6_init_121 ?_
  refine A.newa d6_init_123 (c := 0) (s' := 0) (N := 13) (fun h123 z123 e123 o123 => ?_)
  rw [y117] at e123 o123 ⊢
  have ob := (o123 _ (by omega)).trans ob
  have w1 := (o123 _ (by omega)).trans w1
  have w2 := (o123 _ (by omega)).trans w2
  have w3 := (o123 _ (by omega)).trans w3
  have w4 := (o123 _ (by omega)).trans w4
  have w5 := (o123 _ (by omega)).trans w5
  have w6 := (o123 _ (by omega)).trans w6
  have w7 := (o123 _ (by omega)).trans w7
  have w8 := (o123 _ (by omega)).trans w8
  have w9 := (o123 _ (by omega)).trans w9
  have w10 := (o123 _ (by omega)).trans w10
  have w11 := (o123 _ (by omega)).trans w11
  have w12 := (o123 _ (by omega)).trans w12
  have w13 := (o123 _ (by omega)).trans w13
  have w14 := (o123 _ (by omega)).trans w14
  have g123 := Gr.new (g117) y117 z123 o123 (by omega)
  have y123 : h123.1.1 = a + 16 := by rw [g123.1]; show h.1.1 + 15 = _; omega
  have w15 := e123
  refine A.putF d6_init_125 (fun h125 e125 f125 => ?_) (hc := ob) (hk := blt_ok rfl)
  have ob := e125
  have w1 := (f125.2 _ (by omega)).trans w1
  have w2 := (f125.2 _ (by omega)).trans w2
  have w3 := (f125.2 _ (by omega)).trans w3
  have w4 := (f125.2 _ (by omega)).trans w4
  have w5 := (f125.2 _ (by omega)).trans w5
  have w6 := (f125.2 _ (by omega)).trans w6
  have w7 := (f125.2 _ (by omega)).trans w7
  have w8 := (f125.2 _ (by omega)).trans w8
  have w9 := (f125.2 _ (by omega)).trans w9
  have w10 := (f125.2 _ (by omega)).trans w10
  have w11 := (f125.2 _ (by omega)).trans w11
  have w12 := (f125.2 _ (by omega)).trans w12
  have w13 := (f125.2 _ (by omega)).trans w13
  have w14 := (f125.2 _ (by omega)).trans w14
  have w15 := (f125.2 _ (by omega)).trans w15
  have g125 := Gr.fr (g123) f125 (by omega)
  have y125 : h125.1.1 = a + 16 := by rw [f125.1]; exact y123
  have w0 : h125.2 a = some (mobj a SC0.1 0 0 0 0 0 0 0 0 0 0 0) := ob
  have G123 := g125
  refine A.al1_0 d6_init_128 ?_
  refine A.v0 d6_init_129 (s6_starts (m := MO0) w0 w1 rScr_00 w3 w7 w8 (fun h129 fl129 Mo129 V129 F129x e129 y129 u129 z129 r129 s129 f129 => kN ?_)) (hc := w0)
  have w0 := e129
  have w3 := y129
  have w7 := u129
  have w8 := z129
  have w1 := f129.get w1
  have w2 := f129.get w2
  have w4 := f129.get w4
  have w5 := f129.get w5
  have w6 := f129.get w6
  have w9 := f129.get w9
  have w10 := f129.get w10
  have w11 := f129.get w11
  have w12 := f129.get w12
  have w13 := f129.get w13
  have w14 := f129.get w14
  have w15 := f129.get w15
  have hcr := cCome_rng rScr_00 (emptyM MO0) (v := 0) (by omega) (by omega)
  have hok := scr_ok s129 hcr.1.1 hcr.1.2 hcr.2
  have hP := plR_start (S := SC0) (P := PL0 b0) (Sv := z0) (Iv := z0) (fun j j0 j1 => rfl) r129 hok
  have hB := rScr_00
  have hT : txI (0, z0) := txI_0 (T := (0, z0))
  refine A.vret d6_init_132 ?_
  exact k _ ⟨_, _, _, _, _, _, _, _, _, _, _, _, _, _, _, _, _, _, _, _, _, _, _, _, w0, w1, w2, w3, w4, w5, w6, w7, w8, w9, w10, w11, w12, w13, w14, w15, hB, hP, hT⟩ (Gr.fr G123 f129.fr (Nat.le_refl _))
