/-! ===== the reference: the play starts, goes on ===== -/
theorem scr_empty {m : MO} {V F : Int → Int} (hv : ∀ k : Int, 0 ≤ k → k < 3 → V k = -11 ∧ F k = -11) : scrR (emptyM m) 0 V F := ⟨rfl, by omega, fun k h0 h1 => by
  obtain ⟨a, b⟩ := hv k h0 h1
  exact ⟨(fillN_in (-11) _ 3 k h0 (by omega)).trans a.symm, (fillN_in (-11) _ 3 k h0 (by omega)).trans (if_pos a).symm⟩⟩
set_option maxRecDepth 100000 in
set_option maxHeartbeats 4000000 in
theorem s6_starts {d : Nat} {h : AH} {R : RP} {m : MO} {q : Nat} {rd fi co ah se tl ps fa fl ch : Int} {hx : Int64} {S : SC} {B : Int → Int} (w0 : h.2 q = some (mobj q S.1 rd fi co ah se tl ps fa fl ch hx)) (w1 : h.2 (q + 1) = some (kA 0 348 B)) (hB : rScr B S) {Mo : Int → Int} (w3 : h.2 (q + 3) = some (kA 0 160 Mo)) {V F : Int → Int} (w7 : h.2 (q + 7) = some (kA 0 3 V)) (w8 : h.2 (q + 8) = some (kA 0 3 F)) (k : ∀ h' fl' Mo' V' F', h'.2 q = some (mobj q S.1 rd 0 1 0 (bOr se (bShl 1 (cCome S (emptyM m) 0).1)) tl ps fa fl' ch hx) → h'.2 (q + 3) = some (kA 0 160 Mo') → h'.2 (q + 7) = some (kA 0 3 V') → h'.2 (q + 8) = some (kA 0 3 F') → rowM Mo' 0 (cCome S (emptyM m) 0) → scrR (cCome S (emptyM m) 0) fl' V' F' → Fp h h' q [0, 3, 7, 8] → R none h') : AM m6_starts (d + 3) h [vR q] R := by
  refine AM.of (L := [some (vR q), none]) ok_6_starts (by decide) (fun G => Nat.le_of_ble_eq_true rfl) rfl ?_
  have loop : ∀ (nf : Nat) (i : Nat) (V1 F1 : Int → Int) (h1 : AH) (hi : i ≤ 3) (w0 : h1.2 q = some (mobj q S.1 rd 0 1 0 se tl ps fa 0 ch hx)) (w1 : h1.2 (q + 1) = some (kA 0 348 B)) (w3 : h1.2 (q + 3) = some (kA 0 160 Mo)) (w7 : h1.2 (q + 7) = some (kA 0 3 V1)) (w8 : h1.2 (q + 8) = some (kA 0 3 F1)) (hF : Fp h h1 q [0, 3, 7, 8]) (y : ∀ j : Int, 0 ≤ j → j < i → V1 j = -11 ∧ F1 j = -11) (hn : 3 - i < nf), AW m6_starts (d + 3) (mC m6_starts, mS m6_starts) 22 [some (vR q), some (vI i)] [] h1 R := by
    intro nf
    induction nf with
    | zero => intro i  V1 F1  h1  hi w0 w1 w3 w7 w8 hF y hn; omega
    | succ nf ih =>
      intro i  V1 F1  h1  hi w0 w1 w3 w7 w8 hF y hn
      refine A.il2_1 d6_starts_22 ?_
      refine A.iconst d6_starts_23 ?_
      refine A.ic_ge d6_starts_24 (fun c24 => ?_) (fun c24 => ?_)
      · have he := scr_empty (m := m) (fun j j0 j1 => y j j0 (by omega))
        have hr := cCome_rng hB (emptyM m) (v := 0) (by omega) (by omega)
        refine A.al2_0 d6_starts_49 ?_
        refine A.al2_0 d6_starts_50 ?_
        refine A.iconst d6_starts_51 ?_
        refine A.v1 d6_starts_52 (s6_carries w0 w1 hB w7 w8 he (by omega) (by omega) (fun h52 fl52 V52 F52 e52 x52 y52 hs52 f52 => kS ?_)) (hc := w0)
        have w0 := e52
        have w1 := f52.get w1 (by omega) (by omega)
        have w3 := f52.get w3 (by omega) (by omega)
        have w7 := x52
        have w8 := y52
        refine A.v1 d6_starts_55 (s6_puts (B := B) (S := S) w0 w3 w7 w8 hs52 hr.1.1 hr.1.2 (by omega) (by omega) (by omega) (by omega) (fun h55 Mo55 e55 y55 r55 o55 f55 => kN ?_)) (hc := w0)
        have w0 := e55
        have w3 := y55
        have w7 := f55.get w7
        have w8 := f55.get w8
        refine A.vret d6_starts_58 ?_
        exact k _ _ _ _ _ w0 w3 w7 w8 r55 hs52 ((hF.trans (Fp.ofs f52)).trans f55.wide)
      · refine A.al2_0 d6_starts_27 ?_
        refine A.getf d6_starts_28 ?_ (hc := w0)
        refine A.il2_1 d6_starts_31 ?_
        refine A.bipush d6_starts_32 ?_
        refine A.iast d6_starts_34 (fun h34 e34 f34 => ?_) (hc := w7)
        first | (have w0 := (f34.2 _ (by omega)).trans w0) | (have w0 := e34)
        first | (have w1 := (f34.2 _ (by omega)).trans w1) | (have w1 := e34)
        first | (have w3 := (f34.2 _ (by omega)).trans w3) | (have w3 := e34)
        first | (have w7 := (f34.2 _ (by omega)).trans w7) | (have w7 := e34)
        first | (have w8 := (f34.2 _ (by omega)).trans w8) | (have w8 := e34)
        refine A.al2_0 d6_starts_35 ?_
        refine A.getf d6_starts_36 ?_ (hc := w0)
        refine A.il2_1 d6_starts_39 ?_
        refine A.bipush d6_starts_40 ?_
        refine A.iast d6_starts_42 (fun h42 e42 f42 => ?_) (hc := w8)
        first | (have w0 := (f42.2 _ (by omega)).trans w0) | (have w0 := e42)
        first | (have w1 := (f42.2 _ (by omega)).trans w1) | (have w1 := e42)
        first | (have w3 := (f42.2 _ (by omega)).trans w3) | (have w3 := e42)
        first | (have w7 := (f42.2 _ (by omega)).trans w7) | (have w7 := e42)
        first | (have w8 := (f42.2 _ (by omega)).trans w8) | (have w8 := e42)
        refine A.ii2_1 d6_starts_43 ?_
        refine A.goto d6_starts_46 ?_
        refine ih (i + 1) _ _ _ (by omega) w0 w1 w3 w7 w8 ((hF.trans (Fp.of f34)).trans (Fp.of f42)) (fun j j0 j1 => ?_) (by omega)
        by_cases e : j = i
        · exact ⟨fs_at e, fs_at e⟩
        · exact ⟨(fs_off e).trans (y j j0 (by omega)).1, (fs_off e).trans (y j j0 (by omega)).2⟩
  refine A.al2_0 d6_starts_0 ?_
  refine A.iconst d6_starts_1 ?_
  refine A.putf d6_starts_2 (fun h2 e2 f2 => ?_) (hc := w0) (hk := blt_ok rfl)
  first | (have w0 := (f2.2 _ (by omega)).trans w0) | (have w0 := e2)
  first | (have w1 := (f2.2 _ (by omega)).trans w1) | (have w1 := e2)
  first | (have w3 := (f2.2 _ (by omega)).trans w3) | (have w3 := e2)
  first | (have w7 := (f2.2 _ (by omega)).trans w7) | (have w7 := e2)
  first | (have w8 := (f2.2 _ (by omega)).trans w8) | (have w8 := e2)
  refine A.al2_0 d6_starts_5 ?_
  refine A.iconst d6_starts_6 ?_
  refine A.putf d6_starts_7 (fun h7 e7 f7 => ?_) (hc := w0) (hk := blt_ok rfl)
  first | (have w0 := (f7.2 _ (by omega)).trans w0) | (have w0 := e7)
  first | (have w1 := (f7.2 _ (by omega)).trans w1) | (have w1 := e7)
  first | (have w3 := (f7.2 _ (by omega)).trans w3) | (have w3 := e7)
  first | (have w7 := (f7.2 _ (by omega)).trans w7) | (have w7 := e7)
  first | (have w8 := (f7.2 _ (by omega)).trans w8) | (have w8 := e7)
  refine A.al2_0 d6_starts_10 ?_
  refine A.iconst d6_starts_11 ?_
  refine A.putf d6_starts_12 (fun h12 e12 f12 => ?_) (hc := w0) (hk := blt_ok rfl)
  first | (have w0 := (f12.2 _ (by omega)).trans w0) | (have w0 := e12)
  first | (have w1 := (f12.2 _ (by omega)).trans w1) | (have w1 := e12)
  first | (have w3 := (f12.2 _ (by omega)).trans w3) | (have w3 := e12)
  first | (have w7 := (f12.2 _ (by omega)).trans w7) | (have w7 := e12)
  first | (have w8 := (f12.2 _ (by omega)).trans w8) | (have w8 := e12)
  refine A.al2_0 d6_starts_15 ?_
  refine A.iconst d6_starts_16 ?_
  refine A.putf d6_starts_17 (fun h17 e17 f17 => ?_) (hc := w0) (hk := blt_ok rfl)
  first | (have w0 := (f17.2 _ (by omega)).trans w0) | (have w0 := e17)
  first | (have w1 := (f17.2 _ (by omega)).trans w1) | (have w1 := e17)
  first | (have w3 := (f17.2 _ (by omega)).trans w3) | (have w3 := e17)
  first | (have w7 := (f17.2 _ (by omega)).trans w7) | (have w7 := e17)
  first | (have w8 := (f17.2 _ (by omega)).trans w8) | (have w8 := e17)
  refine A.iconst d6_starts_20 ?_
  refine A.is2_1 d6_starts_21 ?_
  exact loop 4 0 _ _ _ (by omega) w0 w1 w3 w7 w8 ((((Fp.rfl.trans (Fp.of0 f2)).trans (Fp.of0 f7)).trans (Fp.of0 f12)).trans (Fp.of0 f17)) (fun j j0 j1 => by omega) (by omega)
set_option maxRecDepth 100000 in
set_option maxHeartbeats 4000000 in
theorem s6_goesOn {d : Nat} {h : AH} {R : RP} {m : MO} {v : Int} {q : Nat} {rd fi co ah se tl ps fa fl ch : Int} {hx : Int64} {S : SC} {B : Int → Int} (w0 : h.2 q = some (mobj q S.1 rd fi co ah se tl ps fa fl ch hx)) (w1 : h.2 (q + 1) = some (kA 0 348 B)) (hB : rScr B S) {Mo : Int → Int} (w3 : h.2 (q + 3) = some (kA 0 160 Mo)) {V F : Int → Int} (w7 : h.2 (q + 7) = some (kA 0 3 V)) (w8 : h.2 (q + 8) = some (kA 0 3 F)) (hf0 : 0 ≤ fi) (hf1 : fi < 20) (hc0 : 1 ≤ co) (hc1 : co ≤ 20) (hm0 : rowM Mo (8 * ((fi + (co - 1)) % 20)) m) (hm : moOk S m) (v0 : 0 ≤ v) (v1 : v ≤ 30) (k : ∀ h' fl' Mo' V' F' fi' co', h'.2 q = some (mobj q S.1 rd fi' co' 0 (bOr se (bShl 1 (cCome S m v).1)) tl ps fa fl' ch hx) → h'.2 (q + 3) = some (kA 0 160 Mo') → h'.2 (q + 7) = some (kA 0 3 V') → h'.2 (q + 8) = some (kA 0 3 F') → ((co = 20 → fi' = (fi + 1) % 20 ∧ co' = 20) ∧ (co ≠ 20 → fi' = fi ∧ co' = co + 1)) → rowM Mo' (8 * ((fi' + (co' - 1)) % 20)) (cCome S m v) → (∀ j, ¬ (8 * ((fi' + (co' - 1)) % 20) ≤ j ∧ j < 8 * ((fi' + (co' - 1)) % 20) + 8) → Mo' j = Mo j) → scrR (cCome S m v) fl' V' F' → Fp h h' q [0, 3, 7, 8] → R none h') : AM m6_goesOn (d + 3) h [vR q, vI v] R := by
  refine AM.of (L := [some (vR q), some (vI v), none]) ok_6_goesOn (by decide) (fun G => Nat.le_of_ble_eq_true rfl) rfl ?_
  refine A.al3_0 d6_goesOn_0 ?_
  refine A.v0 d6_goesOn_1 (s6_takes (S := S) (B := B) w0 w3 w7 w8 hf0 hf1 hc0 hc1 hm0 hm (fun h1 V1 F1 e1 x1 y1 hs1 f1 => kN ?_)) (hc := w0)
  have w0 := e1
  have w1 := f1.get w1 (by omega) (by omega)
  have w3 := f1.get w3 (by omega) (by omega)
  have w7 := x1
  have w8 := y1
  refine A.al3_0 d6_goesOn_4 ?_
  refine A.il3_1 d6_goesOn_5 ?_
  refine A.v1 d6_goesOn_6 (s6_carries w0 w1 hB w7 w8 hs1 (by omega) (by omega) (fun h6 fl6 V6 F6 e6 x6 y6 hs6 f6 => kS ?_)) (hc := w0)
  have w0 := e6
  have w1 := f6.get w1 (by omega) (by omega)
  have w3 := f6.get w3 (by omega) (by omega)
  have w7 := x6
  have w8 := y6
  have hr := cCome_rng hB m v0 v1
  refine A.is3_2 d6_goesOn_9 ?_
  refine A.al3_0 d6_goesOn_10 ?_
  refine A.iconst d6_goesOn_11 ?_
  refine A.putf d6_goesOn_12 (fun h12 e12 f12 => ?_) (hc := w0) (hk := blt_ok rfl)
  first | (have w0 := (f12.2 _ (by omega)).trans w0) | (have w0 := e12)
  first | (have w1 := (f12.2 _ (by omega)).trans w1) | (have w1 := e12)
  first | (have w3 := (f12.2 _ (by omega)).trans w3) | (have w3 := e12)
  first | (have w7 := (f12.2 _ (by omega)).trans w7) | (have w7 := e12)
  first | (have w8 := (f12.2 _ (by omega)).trans w8) | (have w8 := e12)
  refine A.al3_0 d6_goesOn_15 ?_
  refine A.getf d6_goesOn_16 ?_ (hc := w0)
  refine A.bipush d6_goesOn_19 ?_
  refine A.ic_ne d6_goesOn_21 (fun c21 => ?_) (fun c21 => ?_)
  · refine A.al3_0 d6_goesOn_40 ?_
    refine A.dup d6_goesOn_41 ?_
    refine A.getf d6_goesOn_42 ?_ (hc := w0)
    refine A.iconst d6_goesOn_45 ?_
    refine A.iadd d6_goesOn_46 ?_
    refine A.putf d6_goesOn_47 (fun h47 e47 f47 => ?_) (hc := w0) (hk := blt_ok rfl)
    first | (have w0 := (f47.2 _ (by omega)).trans w0) | (have w0 := e47)
    first | (have w1 := (f47.2 _ (by omega)).trans w1) | (have w1 := e47)
    first | (have w3 := (f47.2 _ (by omega)).trans w3) | (have w3 := e47)
    first | (have w7 := (f47.2 _ (by omega)).trans w7) | (have w7 := e47)
    first | (have w8 := (f47.2 _ (by omega)).trans w8) | (have w8 := e47)
    refine A.al3_0 d6_goesOn_50 ?_
    refine A.il3_2 d6_goesOn_51 ?_
    refine A.v1 d6_goesOn_52 (s6_puts (B := B) (S := S) w0 w3 w7 w8 hs6 hr.1.1 hr.1.2 (by omega) (by omega) (by omega) (by omega) (fun h52 Mo52 e52 y52 r52 o52 f52 => kN ?_)) (hc := w0)
    have w0 := e52
    have w3 := y52
    have w7 := f52.get w7
    have w8 := f52.get w8
    refine A.vret d6_goesOn_55 ?_
    first
      | exact k _ _ _ _ _ _ _ w0 w3 w7 w8 ⟨fun z => ⟨rfl, z⟩, fun z => absurd c21 z⟩ r52 o52 hs6 (((((Fp.rfl.trans (Fp.ofs f1)).trans (Fp.ofs f6)).trans (Fp.of0 f12)).trans (Fp.of0 f34)).trans f52.wide)
      | exact k _ _ _ _ _ _ _ w0 w3 w7 w8 ⟨fun z => absurd z c21, fun z => ⟨rfl, rfl⟩⟩ r52 o52 hs6 (((((Fp.rfl.trans (Fp.ofs f1)).trans (Fp.ofs f6)).trans (Fp.of0 f12)).trans (Fp.of0 f47)).trans f52.wide)
  · refine A.al3_0 d6_goesOn_24 ?_
    refine A.al3_0 d6_goesOn_25 ?_
    refine A.getf d6_goesOn_26 ?_ (hc := w0)
    refine A.iconst d6_goesOn_29 ?_
    refine A.iadd d6_goesOn_30 ?_
    refine A.bipush d6_goesOn_31 ?_
    refine A.irem d6_goesOn_33 ?_
    refine A.putf d6_goesOn_34 (fun h34 e34 f34 => ?_) (hc := w0) (hk := blt_ok rfl)
    first | (have w0 := (f34.2 _ (by omega)).trans w0) | (have w0 := e34)
    first | (have w1 := (f34.2 _ (by omega)).trans w1) | (have w1 := e34)
    first | (have w3 := (f34.2 _ (by omega)).trans w3) | (have w3 := e34)
    first | (have w7 := (f34.2 _ (by omega)).trans w7) | (have w7 := e34)
    first | (have w8 := (f34.2 _ (by omega)).trans w8) | (have w8 := e34)
    refine A.goto d6_goesOn_37 ?_
    refine A.al3_0 d6_goesOn_50 ?_
    refine A.il3_2 d6_goesOn_51 ?_
    refine A.v1 d6_goesOn_52 (s6_puts (B := B) (S := S) w0 w3 w7 w8 hs6 hr.1.1 hr.1.2 (by omega) (by omega) (by omega) (by omega) (fun h52 Mo52 e52 y52 r52 o52 f52 => kN ?_)) (hc := w0)
    have w0 := e52
    have w3 := y52
    have w7 := f52.get w7
    have w8 := f52.get w8
    refine A.vret d6_goesOn_55 ?_
    first
      | exact k _ _ _ _ _ _ _ w0 w3 w7 w8 ⟨fun z => ⟨rfl, z⟩, fun z => absurd c21 z⟩ r52 o52 hs6 (((((Fp.rfl.trans (Fp.ofs f1)).trans (Fp.ofs f6)).trans (Fp.of0 f12)).trans (Fp.of0 f34)).trans f52.wide)
      | exact k _ _ _ _ _ _ _ w0 w3 w7 w8 ⟨fun z => absurd z c21, fun z => ⟨rfl, rfl⟩⟩ r52 o52 hs6 (((((Fp.rfl.trans (Fp.ofs f1)).trans (Fp.ofs f6)).trans (Fp.of0 f12)).trans (Fp.of0 f47)).trans f52.wide)
