/-! ===== the law ===== -/
set_option maxRecDepth 100000 in
set_option maxHeartbeats 40000000 in
theorem sL_loop {x : Nat} {S : SC} {T : TX} {B fp : FN} (hp : pRel fp S) (hB : rScr B S) (hT : txI T) : ∀ (nf : Nat) (i : Nat) (sl : Int) (h : AH) (x8 x9 x10 x11 : Option AV) (q9 : nlong x9 = x9) (hI : lI h x S T fp sl) (hi : i ≤ 36) (hn : 36 - i < nf), AW mL_law 14 (0, 0) 168 [some vX, some (vR x), some (vR (x + 98)), some (vR (x + 99)), some (vR (x + 100)), some (vR (x + 101)), some (vI sl), some (vI i), x8, x9, x10, x11] [] h (fun v _ => v = some (vI 1)) := by
  intro nf
  induction nf with
  | zero => intro i sl h x8 x9 x10 x11 q9 hI hi hn; omega
  | succ nf ih =>
    intro i sl h x8 x9 x10 x11 q9 hI hi hn
    have hI0 := hI
    have ck : ∀ (h' : AH) (sl' : Int) (x8 x10 x11 : Option AV), i < 36 → lI h' x S T fp sl' → AW mL_law 14 (0, 0) 526 [some vX, some (vR x), some (vR (x + 98)), some (vR (x + 99)), some (vR (x + 100)), some (vR (x + 101)), some (vI sl'), some (vI i), x8, some (vI 1), x10, x11] [] h' (fun v _ => v = some (vI 1)) := fun h' sl' x8 x10 x11 hlt hJ => by
      refine sL_ck (d := 1) hJ hp hB hT ?_
      refine A.ii12_7 dL_law_579 ?_
      refine A.goto dL_law_582 ?_
      exact ih (i + 1) sl' h' _ _ _ _ rfl hJ (by omega) (by omega)
    obtain ⟨P, ff, fm, fk, ho, hb, p0, s0, m0, t0, hh, hm, hk⟩ := hI
    obtain ⟨hs, hse⟩ := hh.now hb
    obtain ⟨fs, x0⟩ := ho.ob
    have hp1 := hp.1
    have hp2 := hp.2.1
    have n0 := hs.2.1.1
    have n1 := hs.2.1.2
    refine A.il12_7 dL_law_168 ?_
    refine A.bipush dL_law_170 ?_
    refine A.ic_ge dL_law_172 (fun c172 => ?_) (fun c172 => ?_)
    · refine A.al12_1 dL_law_585 ?_
      refine A.bipush dL_law_586 ?_
      refine A.v1 dL_law_588 (s5_count ho hB hb hT (kS ?_)) (hc := x0)
      rw [cq_7]
      refine A.bipush dL_law_591 ?_
      refine A.ic_ne dL_law_593 (fun c593 => absurd rfl c593) (fun c593 => ?_)
      refine A.al12_1 dL_law_596 ?_
      refine A.iconst dL_law_597 ?_
      refine A.v1 dL_law_598 (s5_restore ho hB hb hT (fun h598 hq598 F598 => kS ?_)) (hc := x0)
      rw [show rsRR P (-1) = -12 from if_neg (by omega)]
      refine A.bipush dL_law_601 ?_
      refine A.ic_ne dL_law_603 (fun c603 => absurd rfl c603) (fun c603 => ?_)
      refine A.iconst dL_law_606 ?_
      refine A.goto dL_law_607 ?_
      refine A.zret dL_law_611 ?_
      exact rfl
    · refine A.ax12_0 dL_law_175 ?_
      refine A.bipush dL_law_176 ?_
      refine A.il12_7 dL_law_178 ?_
      refine A.iadd dL_law_180 ?_
      refine A.s2 dL_law_181 (sL_cell (by omega) (by omega) (fun w181 => kS ?_))
      refine A.is12_8 dL_law_184 ?_
      refine A.il12_8 dL_law_186 ?_
      refine A.bipush dL_law_188 ?_
      refine A.s2 dL_law_190 (sL_low (by decide) (kS ?_))
      refine A.tsw6 dL_law_193 (fun c193 => ?_) (fun c193 => ?_) (fun c193 => ?_) (fun c193 => ?_) (fun c193 => ?_) (fun c193 => ?_) (fun c193 => ?_)
      · have rs := low_rng (bShr w181 4) (n := 3) (by decide)
        refine A.il12_8 dL_law_232 ?_
        refine A.iconst dL_law_234 ?_
        refine A.ishr dL_law_235 ?_
        refine A.iconst dL_law_236 ?_
        refine A.s2 dL_law_237 (sL_low (by decide) (kS ?_))
        refine A.is12_10 dL_law_240 ?_ (hx := q9)
        exact sL_cpy (d := 1) m0 t0 rs.1 rs.2 (fun h2 fk2 y11 e2 y0 y1 y2 y3 f2 => sL_sv (d := 1) rs.1 rs.2 (ho.fr f2 (by omega)) hb hB hT (f2.get p0 (by omega)) (f2.get s0 (by omega)) (f2.get m0 (by omega)) e2 hh hm hk y0 y1 y2 y3 (fun h3 sl3 x8 x10 x11 j3 => ck _ _ _ _ _ (by omega) j3))
      · have rs := low_rng (bShr w181 4) (n := 3) (by decide)
        refine A.il12_8 dL_law_304 ?_
        refine A.iconst dL_law_306 ?_
        refine A.ishr dL_law_307 ?_
        refine A.iconst dL_law_308 ?_
        refine A.s2 dL_law_309 (sL_low (by decide) (kS ?_))
        refine A.is12_10 dL_law_312 ?_ (hx := q9)
        exact sL_rs (d := 1) hI0 hp hB hT rs.1 rs.2 (fun h3 sl3 x8 x10 x11 j3 => ck _ _ _ _ _ (by omega) j3)
      · have rs := low_rng (bShr w181 4) (n := 4) (by decide)
        refine A.al12_1 dL_law_388 ?_
        refine A.al12_3 dL_law_389 ?_
        refine A.al12_4 dL_law_390 ?_
        refine A.iconst dL_law_392 ?_
        refine A.il12_8 dL_law_393 ?_
        refine A.iconst dL_law_395 ?_
        refine A.ishr dL_law_396 ?_
        refine A.iconst dL_law_397 ?_
        refine A.s2 dL_law_398 (sL_low (by decide) (kS ?_))
        refine A.iadd dL_law_401 ?_
        refine A.s4 dL_law_402 (sL_turns hI0 hp hB hT (by omega) (by omega) (fun h402 j402 => kS ?_))
        refine A.is12_9 dL_law_405 ?_
        refine A.goto dL_law_407 ?_
        first | (exfalso; omega) | exact ck _ _ _ _ _ (by omega) j402 | exact ck _ _ _ _ _ (by omega) j414 | exact ck _ _ _ _ _ (by omega) j427 | exact ck _ _ _ _ _ (by omega) j502 | exact ck _ _ _ _ _ (by omega) j521 | exact ck _ _ _ _ _ (by omega) hI0
      · refine A.al12_1 dL_law_410 ?_
        refine A.al12_3 dL_law_411 ?_
        refine A.al12_4 dL_law_412 ?_
        refine A.s3 dL_law_414 (sL_again hI0 hp hB hT (fun h414 j414 => kS ?_))
        refine A.is12_9 dL_law_417 ?_
        refine A.goto dL_law_419 ?_
        first | (exfalso; omega) | exact ck _ _ _ _ _ (by omega) j402 | exact ck _ _ _ _ _ (by omega) j414 | exact ck _ _ _ _ _ (by omega) j427 | exact ck _ _ _ _ _ (by omega) j502 | exact ck _ _ _ _ _ (by omega) j521 | exact ck _ _ _ _ _ (by omega) hI0
      · refine A.al12_1 dL_law_422 ?_
        refine A.al12_2 dL_law_423 ?_
        refine A.al12_3 dL_law_424 ?_
        refine A.al12_4 dL_law_425 ?_
        refine A.s4 dL_law_427 (sL_skips hI0 hp hB hT (fun h427 j427 => kS ?_))
        refine A.is12_9 dL_law_430 ?_
        refine A.goto dL_law_432 ?_
        first | (exfalso; omega) | exact ck _ _ _ _ _ (by omega) j402 | exact ck _ _ _ _ _ (by omega) j414 | exact ck _ _ _ _ _ (by omega) j427 | exact ck _ _ _ _ _ (by omega) j502 | exact ck _ _ _ _ _ (by omega) j521 | exact ck _ _ _ _ _ (by omega) hI0
      · refine A.il12_8 dL_law_435 ?_
        refine A.iconst dL_law_437 ?_
        refine A.ishr dL_law_438 ?_
        refine A.iconst dL_law_439 ?_
        refine A.s2 dL_law_440 (sL_low (by decide) (kS ?_))
        refine A.if_le dL_law_443 (fun c443 => ?_) (fun c443 => ?_)
        · refine A.iconst dL_law_450 ?_
          refine A.is12_9 dL_law_451 ?_
          refine A.il12_9 dL_law_453 ?_
          refine A.if_ne dL_law_455 (fun c455 => ?_) (fun c455 => ?_)
          · first | (exfalso; omega) | exact ck _ _ _ _ _ (by omega) j402 | exact ck _ _ _ _ _ (by omega) j414 | exact ck _ _ _ _ _ (by omega) j427 | exact ck _ _ _ _ _ (by omega) j502 | exact ck _ _ _ _ _ (by omega) j521 | exact ck _ _ _ _ _ (by omega) hI0
          · exact sL_bg (d := 1) hI0 hp hB hT (fun h3 sl3 x8 x10 x11 j3 => ck _ _ _ _ _ (by omega) j3)
        · refine A.iconst dL_law_446 ?_
          refine A.goto dL_law_447 ?_
          refine A.is12_9 dL_law_451 ?_
          refine A.il12_9 dL_law_453 ?_
          refine A.if_ne dL_law_455 (fun c455 => ?_) (fun c455 => ?_)
          · first | (exfalso; omega) | exact ck _ _ _ _ _ (by omega) j402 | exact ck _ _ _ _ _ (by omega) j414 | exact ck _ _ _ _ _ (by omega) j427 | exact ck _ _ _ _ _ (by omega) j502 | exact ck _ _ _ _ _ (by omega) j521 | exact ck _ _ _ _ _ (by omega) hI0
          · exact sL_bg (d := 1) hI0 hp hB hT (fun h3 sl3 x8 x10 x11 j3 => ck _ _ _ _ _ (by omega) j3)
      · refine A.al12_2 dL_law_486 ?_
        refine A.al12_4 dL_law_487 ?_
        refine A.iconst dL_law_489 ?_
        refine A.iald dL_law_490 ?_ (hc := m0)
        rw [hm.1]
        refine A.s2 dL_law_491 (sL_shownKind p0 hp hB n0 n1 (kS ?_))
        refine A.if_ne dL_law_494 (fun c494 => ?_) (fun c494 => ?_)
        · have rs := low_rng (bShr w181 4) (n := 4) (by decide)
          refine A.al12_1 dL_law_508 ?_
          refine A.al12_2 dL_law_509 ?_
          refine A.al12_3 dL_law_510 ?_
          refine A.al12_4 dL_law_511 ?_
          refine A.il12_8 dL_law_513 ?_
          refine A.iconst dL_law_515 ?_
          refine A.ishr dL_law_516 ?_
          refine A.iconst dL_law_517 ?_
          refine A.s2 dL_law_518 (sL_low (by decide) (kS ?_))
          refine A.s5 dL_law_521 (sL_chooses hI0 hp hB hT (by omega) (by omega) (fun h521 j521 => kS ?_))
          refine A.is12_9 dL_law_524 ?_
          first | (exfalso; omega) | exact ck _ _ _ _ _ (by omega) j402 | exact ck _ _ _ _ _ (by omega) j414 | exact ck _ _ _ _ _ (by omega) j427 | exact ck _ _ _ _ _ (by omega) j502 | exact ck _ _ _ _ _ (by omega) j521 | exact ck _ _ _ _ _ (by omega) hI0
        · refine A.al12_1 dL_law_497 ?_
          refine A.al12_2 dL_law_498 ?_
          refine A.al12_3 dL_law_499 ?_
          refine A.al12_4 dL_law_500 ?_
          refine A.s4 dL_law_502 (sL_goes hI0 hp hB hT (fun h502 j502 => kS ?_))
          refine A.goto dL_law_505 ?_
          refine A.is12_9 dL_law_524 ?_
          first | (exfalso; omega) | exact ck _ _ _ _ _ (by omega) j402 | exact ck _ _ _ _ _ (by omega) j414 | exact ck _ _ _ _ _ (by omega) j427 | exact ck _ _ _ _ _ (by omega) j502 | exact ck _ _ _ _ _ (by omega) j521 | exact ck _ _ _ _ _ (by omega) hI0
theorem cnt_one {f : FN} {v : Int} (hz : ∀ j : Int, 0 ≤ j → j < 31 → f j = 0) (v0 : 0 ≤ v) (v1 : v < 31) : cntN (fset f v 1) 31 = 1 := by
  have g : ∀ n : Nat, n ≤ 31 → cntN f n = 0 := by
    intro n
    induction n with
    | zero => intro _; rfl
    | succ n ih =>
      intro hn
      show (if f n = 0 then cntN f n else cntN f n + 1) = 0
      rw [if_pos (hz n (by omega) (by omega))]
      exact ih (by omega)
  rw [cntN_set v0 (hz v v0 v1) 31 v1, g 31 (Nat.le_refl _)]
  rfl
/-- the play of an empty script -/
theorem come_0 (mm : MO) : cCome SC0 (emptyM mm) 0 = (0, (emptyM mm).2) := by
  have y : cShown SC0 0 := Or.inl (if_neg (by show ¬ ((0 : Int) ≤ 0 ∧ (0 : Int) < 0 ∧ _); omega))
  have e : cIt SC0 60 (emptyM mm, 0) = (emptyM mm, 0) := pif_t y
  unfold cCome
  rw [e]
  show (pif (cShown SC0 0) 0 30, (emptyM mm).2) = _
  rw [pif_t y]
theorem sk_0 : cSK SC0 0 = 2 := by
  have e : cKind SC0 0 = -1 := if_neg (by show ¬ ((0 : Int) ≤ 0 ∧ (0 : Int) < 0 ∧ _); omega)
  unfold cSK; rw [e]; rfl
theorem op_0 (v o fl : Int) : ¬ cOpen SC0 v o fl := fun z => by
  have e : cOpts SC0 v = 0 := if_neg (by show ¬ (0 ≤ v ∧ v < (0 : Int) ∧ _); omega)
  have := z.1
  have := z.2.1
  omega
set_option maxRecDepth 100000 in
set_option maxHeartbeats 40000000 in
theorem sL_lawB {h : AH} {x : Nat} (ho : pAt h x SC0 (startP SC0 (PL0 (x + 15))) (0, z0)) (p0 : h.2 (x + 98) = some (kA 0 64 (fun _ => 0))) (s0 : h.2 (x + 99) = some (kA 0 64 (fun _ => 0))) (m0 : h.2 (x + 100) = some (kA 0 3 (fun _ => 0))) (y19 : h.1.1 = x + 101) : AW mL_law 14 (1, 9) 23 [some vX, some (vR x), some (vR (x + 98)), some (vR (x + 99)), some (vR (x + 100)), none, none, none, none, none, none, none] [] h (fun v _ => v = some (vI 1)) := by
  have hB0 := rScr_00
  have hT0 : txI ((0, z0) : TX) := txI_0 (T := ((0, z0) : TX))
  have hp0 : pRel (fun _ => (0 : Int)) SC0 := ⟨rfl, (by decide : (0 : Int) ≤ 12), fun v v0 v1 => by have : v < 0 := v1; omega⟩
  obtain ⟨hb, hn⟩ := plI_start hB0 (PL0 (x + 15))
  obtain ⟨fs, x0⟩ := ho.ob
  refine A.al12_2 dL_law_23 ?_
  refine A.al12_3 dL_law_24 ?_
  refine A.al12_4 dL_law_25 ?_
  refine A.s3 dL_law_27 (sL_starts ((PL0 (x + 15)).2.2.2.1 0) p0 hp0 hB0 s0 m0 (by omega) (by omega) (by omega) (fun h27 ff27 fm27 s27 m27 r27 q27 t27 f27 => kN ?_))
  have ho : pAt h27 x SC0 (startP SC0 (PL0 (x + 15))) (0, z0) := ho.fr (f27.one (c := x + 99) (m := 2) (by omega) (by omega) (by omega) (by omega)) (by omega)
  have p0 := f27.get p0 (by omega) (by omega)
  have s0 := s27
  have m0 := m27
  have y19 : h27.1.1 = x + 101 := by rw [f27.1]; exact y19
  obtain ⟨fs, x0⟩ := ho.ob
  have hs : moS SC0 (nowM (startP SC0 (PL0 (x + 15)))) := by rw [hn]; exact come_ok (v := 0) hB0 (by decide) (by decide) q27
  have rm : mReg fm27 (nowM (startP SC0 (PL0 (x + 15)))) := by rw [hn]; exact r27
  have hn0 : (nowM (startP SC0 (PL0 (x + 15)))).1 = 0 := by rw [hn, come_0]
  have nk : cSK SC0 (nowM (startP SC0 (PL0 (x + 15)))).1 ≠ 0 := by rw [hn0, sk_0]; decide
  have py : (startP SC0 (PL0 (x + 15))) = _ := anewP_y (P := rstP (PL0 (x + 15))) (S := SC0) (by rw [come_0]; exact Int.le_refl 0) (by rw [come_0]; show (0 : Int) ≤ 30; omega)
  have p1 : (startP SC0 (PL0 (x + 15))).1 = 1 := by rw [py]
  have p2 : (startP SC0 (PL0 (x + 15))).2.1 = 0 := by rw [py]
  have p3 : (startP SC0 (PL0 (x + 15))).2.2.2.2.1 0 = 0 := by rw [py]; exact fillN_in 0 (PL0 (x + 15)).2.2.2.2.1 3 0 (by decide) (by decide)
  have p4 : cntN (startP SC0 (PL0 (x + 15))).2.2.2.2.2.1 31 = 1 := by
    rw [py]
    exact cnt_one (fun j j0 j1 => fillN_in 0 (PL0 (x + 15)).2.2.2.2.2.1 31 j j0 (by omega)) (by rw [come_0]; exact Int.le_refl 0) (by rw [come_0]; show (0 : Int) < 31; omega)
  refine A.al12_1 dL_law_30 ?_
  refine A.al12_2 dL_law_31 ?_
  refine A.al12_4 dL_law_32 ?_
  refine A.s3 dL_law_34 (sL_isShown p0 hp0 hB0 ho hb hT0 m0 rm hs (kS ?_))
  refine A.if_eq dL_law_37 (fun c37 => absurd c37 (by decide)) (fun c37 => ?_)
  refine A.al12_1 dL_law_40 ?_
  refine A.iconst dL_law_41 ?_
  refine A.v1 dL_law_42 (s5_shown ho hB0 hb hT0 (kS ?_)) (hc := x0)
  rw [show shRR SC0 (nowM (startP SC0 (PL0 (x + 15)))) 3 = -2 by rw [sh_3, hn0]; exact (if_neg (by decide)).trans (if_neg (by show ¬ ((0 : Int) ≤ 0 ∧ (0 : Int) < 0 ∧ _); omega))]
  refine A.bipush dL_law_45 ?_
  refine A.ic_ne dL_law_47 (fun c47 => absurd rfl c47) (fun c47 => ?_)
  refine A.al12_1 dL_law_50 ?_
  refine A.v0 dL_law_51 (s5_go ho hB0 hb hT0 (fun h51 hq51 F51 => kS ?_)) (hc := x0)
  rw [show goRR SC0 (startP SC0 (PL0 (x + 15))) = -13 from (go_no nk).2]
  rw [show goPP SC0 (startP SC0 (PL0 (x + 15))) = (startP SC0 (PL0 (x + 15))) from (go_no nk).1] at hq51
  have ho := hq51
  have p0 := F51.get p0 (by omega)
  have s0 := F51.get s0 (by omega)
  have m0 := F51.get m0 (by omega)
  have y19 : h51.1.1 = x + 101 := by rw [F51.1]; exact y19
  obtain ⟨fs, x0⟩ := ho.ob
  refine A.bipush dL_law_54 ?_
  refine A.ic_ne dL_law_56 (fun c56 => absurd rfl c56) (fun c56 => ?_)
  refine A.al12_1 dL_law_59 ?_
  refine A.iconst dL_law_60 ?_
  refine A.v1 dL_law_61 (s5_choose ho hB0 hb hT0 (fun h61 hq61 F61 => kS ?_)) (hc := x0)
  rw [show chRR SC0 (startP SC0 (PL0 (x + 15))) 0 = -13 from (ch_n (by decide) (op_0 _ _ _)).2]
  rw [show chPP SC0 (startP SC0 (PL0 (x + 15))) 0 = (startP SC0 (PL0 (x + 15))) from (ch_n (by decide) (op_0 _ _ _)).1] at hq61
  have ho := hq61
  have p0 := F61.get p0 (by omega)
  have s0 := F61.get s0 (by omega)
  have m0 := F61.get m0 (by omega)
  have y19 : h61.1.1 = x + 101 := by rw [F61.1]; exact y19
  obtain ⟨fs, x0⟩ := ho.ob
  refine A.bipush dL_law_64 ?_
  refine A.ic_ne dL_law_66 (fun c66 => absurd rfl c66) (fun c66 => ?_)
  refine A.al12_1 dL_law_69 ?_
  refine A.iconst dL_law_70 ?_
  refine A.v1 dL_law_71 (s5_back ho hB0 hb hT0 (fun h71 hq71 F71 => kS ?_)) (hc := x0)
  rw [show bkRR (startP SC0 (PL0 (x + 15))) 1 = -13 from (if_pos (by decide)).trans (if_neg (by rw [p2]; decide))]
  rw [show bkPP (startP SC0 (PL0 (x + 15))) 1 = (startP SC0 (PL0 (x + 15))) from if_neg (by rw [p2]; decide)] at hq71
  have ho := hq71
  have p0 := F71.get p0 (by omega)
  have s0 := F71.get s0 (by omega)
  have m0 := F71.get m0 (by omega)
  have y19 : h71.1.1 = x + 101 := by rw [F71.1]; exact y19
  obtain ⟨fs, x0⟩ := ho.ob
  refine A.bipush dL_law_74 ?_
  refine A.ic_ne dL_law_76 (fun c76 => absurd rfl c76) (fun c76 => ?_)
  refine A.al12_1 dL_law_79 ?_
  refine A.v0 dL_law_80 (s5_again ho hB0 hb hT0 (fun h80 hq80 F80 => kS ?_)) (hc := x0)
  rw [show agRR (startP SC0 (PL0 (x + 15))) = -13 from if_neg (by rw [p1, p2]; decide)]
  rw [show agPP (startP SC0 (PL0 (x + 15))) = (startP SC0 (PL0 (x + 15))) from if_neg (by rw [p1, p2]; decide)] at hq80
  have ho := hq80
  have p0 := F80.get p0 (by omega)
  have s0 := F80.get s0 (by omega)
  have m0 := F80.get m0 (by omega)
  have y19 : h80.1.1 = x + 101 := by rw [F80.1]; exact y19
  obtain ⟨fs, x0⟩ := ho.ob
  refine A.bipush dL_law_83 ?_
  refine A.ic_ne dL_law_85 (fun c85 => absurd rfl c85) (fun c85 => ?_)
  refine A.al12_1 dL_law_88 ?_
  refine A.iconst dL_law_89 ?_
  refine A.v1 dL_law_90 (s5_restore ho hB0 hb hT0 (fun h90 hq90 F90 => kS ?_)) (hc := x0)
  rw [show rsRR (startP SC0 (PL0 (x + 15))) 0 = -13 from (if_pos (by decide)).trans (if_neg (by rw [p3]; decide))]
  rw [show rsPP (startP SC0 (PL0 (x + 15))) 0 = (startP SC0 (PL0 (x + 15))) from if_neg (by rw [p3]; decide)] at hq90
  have ho := hq90
  have p0 := F90.get p0 (by omega)
  have s0 := F90.get s0 (by omega)
  have m0 := F90.get m0 (by omega)
  have y19 : h90.1.1 = x + 101 := by rw [F90.1]; exact y19
  obtain ⟨fs, x0⟩ := ho.ob
  refine A.bipush dL_law_93 ?_
  refine A.ic_ne dL_law_95 (fun c95 => absurd rfl c95) (fun c95 => ?_)
  refine A.al12_1 dL_law_98 ?_
  refine A.iconst dL_law_99 ?_
  refine A.v1 dL_law_100 (s5_save ho hB0 hb hT0 (fun h100 hq100 F100 => kS ?_)) (hc := x0)
  rw [show svRR (startP SC0 (PL0 (x + 15))) 3 = -12 from if_neg (by decide)]
  rw [show svPP (startP SC0 (PL0 (x + 15))) 3 = (startP SC0 (PL0 (x + 15))) from if_neg (by decide)] at hq100
  have ho := hq100
  have p0 := F100.get p0 (by omega)
  have s0 := F100.get s0 (by omega)
  have m0 := F100.get m0 (by omega)
  have y19 : h100.1.1 = x + 101 := by rw [F100.1]; exact y19
  obtain ⟨fs, x0⟩ := ho.ob
  refine A.bipush dL_law_103 ?_
  refine A.ic_ne dL_law_105 (fun c105 => absurd rfl c105) (fun c105 => ?_)
  refine A.al12_1 dL_law_108 ?_
  refine A.iconst dL_law_109 ?_
  refine A.v1 dL_law_110 (s5_count ho hB0 hb hT0 (kS ?_)) (hc := x0)
  rw [cq_3, p4]
  refine A.iconst dL_law_113 ?_
  refine A.ic_eq dL_law_114 (fun c114 => ?_) (fun c114 => absurd rfl c114)
  refine A.al12_1 dL_law_119 ?_
  refine A.al12_2 dL_law_120 ?_
  refine A.ax12_0 dL_law_121 ?_
  refine A.iconst dL_law_122 ?_
  refine A.iconst dL_law_123 ?_
  refine A.ax12_0 dL_law_124 ?_
  refine A.bipush dL_law_125 ?_
  refine A.w2 dL_law_127 (sL_cell (by omega) (by omega) (fun w127 => kS ?_))
  refine A.bipush dL_law_130 ?_
  refine A.w2 dL_law_132 (sL_low (by decide) (kS ?_))
  have ru := low_rng w127 (n := 9) (by decide)
  refine A.iadd dL_law_135 ?_
  refine A.s5 dL_law_136 (sL_reads ho hB0 hb hT0 p0 (by omega) (by omega) (fun h136 S2 T2 B2 fp2 hq136 t136 b136 r136 e136 f136 => kS ?_))
  have ho := hq136
  have s0 := f136.get s0 (by omega) (by omega)
  have m0 := f136.get m0 (by omega) (by omega)
  have p0 := e136
  have y19 : h136.1.1 = x + 101 := by rw [f136.1]; exact y19
  refine A.if_ne dL_law_139 (fun c139 => ?_) (fun c139 => absurd c139 (by decide))
  refine A.al12_3 dL_law_144 ?_
  refine A.bipush dL_law_145 ?_
  refine A.iconst dL_law_147 ?_
  refine A.iast dL_law_148 (fun h148 e148 f148 => ?_) (hc := s0)
  have ho := ho.fr f148 (by omega)
  have p0 := f148.get p0 (by omega)
  have m0 := f148.get m0 (by omega)
  have s0 := e148
  have y19 : h148.1.1 = x + 101 := by rw [f148.1]; exact y19
  refine A.al12_2 dL_law_149 ?_
  refine A.al12_3 dL_law_150 ?_
  refine A.al12_4 dL_law_151 ?_
  refine A.s3 dL_law_153 (sL_starts ((startP SC0 (PL0 (x + 15))).2.2.2.1 0) p0 r136 b136 s0 m0 (by omega) (by omega) (by omega) (fun h153 ff153 fm153 s153 m153 r153 q153 t153 f153 => kN ?_))
  have ho := ho.fr (f153.one (c := x + 99) (m := 2) (by omega) (by omega) (by omega) (by omega)) (by omega)
  have p0 := f153.get p0 (by omega) (by omega)
  have s0 := s153
  have m0 := m153
  have y19 : h153.1.1 = x + 101 := by rw [f153.1]; exact y19
  have mo := come_ok (v := 0) b136 (by decide) (by decide) q153
  obtain ⟨hb2, hn2⟩ := plI_start b136 (startP SC0 (PL0 (x + 15)))
  refine A.bipush dL_law_156 ?_
  refine A.newa dL_law_158 (c := 0) (s' := 0) (N := 9) (fun h158 z158 e158 o158 => ?_)
  rw [y19] at e158 o158 ⊢
  have G158 : Gr h153 h158 (x + 101) 1 := Gr.new (Gr.rfl (h := h153)) y19 z158 o158 (Nat.le_refl _)
  refine A.as12_5 dL_law_160 ?_
  refine A.iconst dL_law_162 ?_
  refine A.is12_6 dL_law_163 ?_
  refine A.iconst dL_law_165 ?_
  refine A.is12_7 dL_law_166 ?_
  exact sL_loop r136 b136 t136 37 0 0 _ _ _ _ _ rfl ⟨startP S2 (startP SC0 (PL0 (x + 15))), _, _, _, ho.gr G158 (by omega), hb2, G158.get p0 (by omega), G158.get s0 (by omega), G158.get m0 (by omega), e158, hRel_start (fs_at rfl) t153 mo, (by rw [hn2]; exact r153), kRel_start mo⟩ (by omega) (by omega)
set_option maxRecDepth 100000 in
set_option maxHeartbeats 40000000 in
theorem sL_law (h : AH) : AW mL_law 14 (102, 9564) 0 [some vX, none, none, none, none, none, none, none, none, none, none, none] [] h (fun v _ => v = some (vI 1)) := by
  obtain ⟨x, hx⟩ : ∃ x, h.1.1 = x := ⟨_, rfl⟩
  refine A.new dL_law_0 (c := 101) (s' := 9560) (fun h0 z0 e0 o0 => ?_)
  rw [hx] at e0 o0 ⊢
  have G0 : Gr h h0 x 1 := Gr.new (Gr.rfl (h := h)) hx z0 o0 (Nat.le_refl _)
  have y0 : h0.1.1 = x + 1 := by rw [G0.sz, hx]
  refine A.dup dL_law_3 ?_
  refine A.invI (d := 13) dL_law_4 (kb' := (4, 140)) (s5_init (a := x) e0 y0 (fun h4 ho G4 => kN ?_)) ⟨rfl, rfl⟩ (by omega) (Nat.le_of_ble_eq_true rfl)
  have y4 : h4.1.1 = x + 98 := by rw [G4.sz, y0]
  refine A.as12_1 dL_law_7 ?_
  refine A.bipush dL_law_8 ?_
  refine A.newa dL_law_10 (c := 3) (s' := 76) (N := 64) (fun h10 z10 e10 o10 => ?_)
  rw [y4] at e10 o10 ⊢
  have G10 : Gr h4 h10 (x + 98) 1 := Gr.new (Gr.rfl (h := h4)) y4 z10 o10 (Nat.le_refl _)
  have y10 : h10.1.1 = x + 99 := by rw [G10.sz, y4]
  have ho := ho.gr G10 (Nat.le_refl _)
  have p0 := e10
  refine A.as12_2 dL_law_12 ?_
  refine A.bipush dL_law_13 ?_
  refine A.newa dL_law_15 (c := 2) (s' := 12) (N := 64) (fun h15 z15 e15 o15 => ?_)
  rw [y10] at e15 o15 ⊢
  have G15 : Gr h10 h15 (x + 99) 1 := Gr.new (Gr.rfl (h := h10)) y10 z15 o15 (Nat.le_refl _)
  have y15 : h15.1.1 = x + 100 := by rw [G15.sz, y10]
  have ho := ho.gr G15 (by omega)
  have p0 := G15.get p0 (by omega)
  have s0 := e15
  refine A.as12_3 dL_law_17 ?_
  refine A.iconst dL_law_18 ?_
  refine A.newa dL_law_19 (c := 1) (s' := 9) (N := 3) (fun h19 z19 e19 o19 => ?_)
  rw [y15] at e19 o19 ⊢
  have G19 : Gr h15 h19 (x + 100) 1 := Gr.new (Gr.rfl (h := h15)) y15 z19 o19 (Nat.le_refl _)
  have y19 : h19.1.1 = x + 101 := by rw [G19.sz, y15]
  have ho := ho.gr G19 (by omega)
  have p0 := G19.get p0 (by omega)
  have s0 := G19.get s0 (by omega)
  have m0 := e19
  refine A.as12_4 dL_law_21 ?_
  exact sL_lawB ho p0 s0 m0 y19
