/-! ===== the law: pieces of its loop ===== -/
set_option maxRecDepth 100000 in
set_option maxHeartbeats 4000000 in
theorem sL_ck {d : Nat} {h : AH} {R : RP} {x : Nat} {S : SC} {T : TX} {B fp : FN} {sl : Int} (hI : lI h x S T fp sl) (hp : pRel fp S) (hB : rScr B S) (hT : txI T) {i : Int} {x8 x10 x11 : Option AV} (k : AW mL_law (d + 13) (0, 0) 579 [some vX, some (vR x), some (vR (x + 98)), some (vR (x + 99)), some (vR (x + 100)), some (vR (x + 101)), some (vI sl), some (vI i), x8, some (vI 1), x10, x11] [] h R) : AW mL_law (d + 13) (0, 0) 526 [some vX, some (vR x), some (vR (x + 98)), some (vR (x + 99)), some (vR (x + 100)), some (vR (x + 101)), some (vI sl), some (vI i), x8, some (vI 1), x10, x11] [] h R := by
  obtain ⟨P, ff, fm, fk, ho, hb, p0, s0, m0, t0, hh, hm, hk⟩ := hI
  obtain ⟨hs, hse⟩ := hh.now hb
  obtain ⟨fs, x0⟩ := ho.ob
  have hp1 := hp.1
  have hp2 := hp.2.1
  have b1 := hb.1
  have n0 := hs.2.1.1
  have n1 := hs.2.1.2
  refine A.il12_9 dL_law_526 ?_
  refine A.if_eq dL_law_528 (fun c528 => absurd c528 (by decide)) (fun c528 => ?_)
  refine A.al12_1 dL_law_531 ?_
  refine A.al12_2 dL_law_532 ?_
  refine A.al12_4 dL_law_533 ?_
  refine A.s3 dL_law_535 (sL_isShown p0 hp hB ho hb hT m0 hm hs (kS ?_))
  refine A.if_eq dL_law_538 (fun c538 => absurd c538 (by decide)) (fun c538 => ?_)
  refine A.al12_1 dL_law_541 ?_
  refine A.iconst dL_law_542 ?_
  refine A.v1 dL_law_543 (s5_count ho hB hb hT (kS ?_)) (hc := x0)
  rw [cq_1]
  refine A.al12_3 dL_law_546 ?_
  refine A.bipush dL_law_547 ?_
  refine A.iald dL_law_549 ?_ (hc := s0)
  rw [hh.1]
  refine A.ic_ne dL_law_550 (fun c550 => absurd rfl c550) (fun c550 => ?_)
  refine A.al12_1 dL_law_553 ?_
  refine A.iconst dL_law_554 ?_
  refine A.v1 dL_law_555 (s5_count ho hB hb hT (kS ?_)) (hc := x0)
  rw [cq_2]
  refine A.al12_3 dL_law_558 ?_
  refine A.bipush dL_law_559 ?_
  refine A.iald dL_law_561 ?_ (hc := s0)
  rw [hh.2.1]
  refine A.ic_ne dL_law_562 (fun c562 => absurd rfl c562) (fun c562 => ?_)
  refine A.al12_1 dL_law_565 ?_
  refine A.iconst dL_law_566 ?_
  refine A.v1 dL_law_567 (s5_count ho hB hb hT (kS ?_)) (hc := x0)
  rw [cq_3]
  refine A.al12_3 dL_law_570 ?_
  refine A.s1 dL_law_571 (sL_seen s0 hh.2.2.1 (kS ?_))
  refine A.ic_eq dL_law_574 (fun c574 => ?_) (fun c574 => absurd rfl c574)
  exact k
set_option maxRecDepth 100000 in
set_option maxHeartbeats 4000000 in
theorem sL_cpy {d : Nat} {h : AH} {R : RP} {x : Nat} {sl i s : Int} {fk fm : FN} (m0 : h.2 (x + 100) = some (kA 0 3 fm)) (t0 : h.2 (x + 101) = some (kA 0 9 fk)) (s0 : 0 ≤ s) (s1 : s < 3) {x8 x9 x11 : Option AV} (k : ∀ (h' : AH) (fk' : FN) (x11 : Option AV), h'.2 (x + 101) = some (kA 0 9 fk') → fk' (3 * s) = fm 0 → fk' (3 * s + 1) = fm 1 → fk' (3 * s + 2) = fm 2 → (∀ j : Int, ¬ (3 * s ≤ j ∧ j < 3 * s + 3) → fk' j = fk j) → Fr h h' (x + 101) 1 → AW mL_law (d + 13) (0, 0) 272 [some vX, some (vR x), some (vR (x + 98)), some (vR (x + 99)), some (vR (x + 100)), some (vR (x + 101)), some (vI sl), some (vI i), x8, x9, some (vI s), x11] [] h' R) : AW mL_law (d + 13) (0, 0) 242 [some vX, some (vR x), some (vR (x + 98)), some (vR (x + 99)), some (vR (x + 100)), some (vR (x + 101)), some (vI sl), some (vI i), x8, x9, some (vI s), x11] [] h R := by
  have loop : ∀ (nf : Nat) (j : Nat) (fk1 : FN) (h1 : AH) (hj : j ≤ 3) (m0 : h1.2 (x + 100) = some (kA 0 3 fm)) (t0 : h1.2 (x + 101) = some (kA 0 9 fk1)) (y0 : ∀ y : Int, 0 ≤ y → y < j → fk1 (3 * s + y) = fm y) (y1 : ∀ y : Int, ¬ (3 * s ≤ y ∧ y < 3 * s + 3) → fk1 y = fk y) (hF : Fr h h1 (x + 101) 1) (hn : 3 - j < nf), AW mL_law (d + 13) (0, 0) 245 [some vX, some (vR x), some (vR (x + 98)), some (vR (x + 99)), some (vR (x + 100)), some (vR (x + 101)), some (vI sl), some (vI i), x8, x9, some (vI s), some (vI j)] [] h1 R := by
    intro nf
    induction nf with
    | zero => intro j  fk1  h1  hj m0 t0 y0 y1 hF hn; omega
    | succ nf ih =>
      intro j  fk1  h1  hj m0 t0 y0 y1 hF hn
      refine A.il12_11 dL_law_245 ?_
      refine A.iconst dL_law_247 ?_
      refine A.ic_ge dL_law_248 (fun c248 => ?_) (fun c248 => ?_)
      · have z0 := y0 0 (by decide) (by omega)
        rw [Int.add_zero] at z0
        exact k _ _ _ t0 z0 (y0 1 (by decide) (by omega)) (y0 2 (by decide) (by omega)) y1 hF
      · refine A.al12_5 dL_law_251 ?_
        refine A.iconst dL_law_253 ?_
        refine A.il12_10 dL_law_254 ?_
        refine A.imul dL_law_256 ?_
        refine A.il12_11 dL_law_257 ?_
        refine A.iadd dL_law_259 ?_
        refine A.al12_4 dL_law_260 ?_
        refine A.il12_11 dL_law_262 ?_
        refine A.iald dL_law_264 ?_ (hc := m0)
        refine A.iast dL_law_265 (fun h265 e265 f265 => ?_) (hc := t0)
        first | (have m0 := (f265.2 _ (by omega)).trans m0) | (have m0 := e265)
        first | (have t0 := (f265.2 _ (by omega)).trans t0) | (have t0 := e265)
        refine A.ii12_11 dL_law_266 ?_
        refine A.goto dL_law_269 ?_
        refine ih (j + 1) _ _ (by omega) m0 t0 (fun y w0 w1 => ?_) (fun y hy => (fs_off (by omega)).trans (y1 y hy)) (hF.then f265 (by omega) (by omega)) (by omega)
        by_cases c : y = j
        · subst c; exact fs_at rfl
        · exact (fs_off (by omega)).trans (y0 y w0 (by omega))
  refine A.iconst dL_law_242 ?_
  refine A.is12_11 dL_law_243 ?_
  exact loop 4 0 fk h (by omega) m0 t0 (fun y w0 w1 => by omega) (fun y _ => rfl) Fr.rfl (by omega)
theorem keep_ok {S : SC} {ff : FN} {P : PL} {s : Int} (hb : plI P) (hh : hRel S ff P) : plI (keepP P s) ∧ hRel S ff (keepP P s) ∧ nowM (keepP P s) = nowM P :=
  ⟨⟨hb.1, hb.2.1, fun j j0 j1 => by
    show 0 ≤ fset P.2.2.2.2.1 s 1 j ∧ fset P.2.2.2.2.1 s 1 j ≤ 1
    by_cases c : j = s
    · rw [fs_at c]; omega
    · rw [fs_off c]; exact hb.2.2.1 j j0 j1, hb.2.2.2⟩, hh, rfl⟩
set_option maxRecDepth 100000 in
set_option maxHeartbeats 4000000 in
theorem sL_sv {d : Nat} {h : AH} {R : RP} {x : Nat} {S : SC} {P : PL} {T : TX} {B fp ff fm fk fk2 : FN} {sl i s : Int} (s0 : 0 ≤ s) (s1 : s < 3) (ho : pAt h x S P T) (hb : plI P) (hB : rScr B S) (hT : txI T) (p0 : h.2 (x + 98) = some (kA 0 64 fp)) (h0 : h.2 (x + 99) = some (kA 0 64 ff)) (m0 : h.2 (x + 100) = some (kA 0 3 fm)) (t0 : h.2 (x + 101) = some (kA 0 9 fk2)) (hh : hRel S ff P) (hm : mReg fm (nowM P)) (hk : kRel S fk sl P) (y0 : fk2 (3 * s) = fm 0) (y1 : fk2 (3 * s + 1) = fm 1) (y2 : fk2 (3 * s + 2) = fm 2) (y3 : ∀ j : Int, ¬ (3 * s ≤ j ∧ j < 3 * s + 3) → fk2 j = fk j) {w8 : Int} {x9 x11 : Option AV} (k : ∀ (h' : AH) (sl' : Int) (x8 x10 x11 : Option AV), lI h' x S T fp sl' → AW mL_law (d + 13) (0, 0) 526 [some vX, some (vR x), some (vR (x + 98)), some (vR (x + 99)), some (vR (x + 100)), some (vR (x + 101)), some (vI sl'), some (vI i), x8, some (vI 1), x10, x11] [] h' R) : AW mL_law (d + 13) (0, 0) 272 [some vX, some (vR x), some (vR (x + 98)), some (vR (x + 99)), some (vR (x + 100)), some (vR (x + 101)), some (vI sl), some (vI i), some (vI w8), x9, some (vI s), x11] [] h R := by
  obtain ⟨hs, hse⟩ := hh.now hb
  obtain ⟨fs, x0⟩ := ho.ob
  obtain ⟨kp, kh, kn⟩ := keep_ok (s := s) hb hh
  refine A.il12_6 dL_law_272 ?_
  refine A.iconst dL_law_274 ?_
  refine A.il12_10 dL_law_275 ?_
  refine A.ishl dL_law_277 ?_
  refine A.ior dL_law_278 ?_
  refine A.is12_6 dL_law_279 ?_
  refine A.al12_1 dL_law_281 ?_
  refine A.il12_10 dL_law_282 ?_
  refine A.v1 dL_law_284 (s5_save ho hB hb hT (fun h284 hq284 F284 => kS ?_)) (hc := x0)
  rw [show svRR P s = (nowM P).1 from if_pos ⟨s0, s1⟩]
  rw [show svPP P s = keepP P s from if_pos ⟨s0, s1⟩] at hq284
  have ho := hq284
  have p0 := F284.get p0 (by omega)
  have h0 := F284.get h0 (by omega)
  have m0 := F284.get m0 (by omega)
  have t0 := F284.get t0 (by omega)
  refine A.al12_4 dL_law_287 ?_
  refine A.iconst dL_law_289 ?_
  refine A.iald dL_law_290 ?_ (hc := m0)
  rw [hm.1]
  refine A.ic_ne dL_law_291 (fun c291 => absurd rfl c291) (fun c291 => ?_)
  refine A.iconst dL_law_294 ?_
  refine A.goto dL_law_295 ?_
  refine A.is12_9 dL_law_299 ?_
  refine A.goto dL_law_301 ?_
  exact k _ _ _ _ _ ⟨keepP P s, ff, fm, fk2, ho, kp, p0, h0, m0, t0, kh, hm, kRel_keep hk s0 s1 hm hs hse y0 y1 y2 y3⟩
set_option maxRecDepth 100000 in
set_option maxHeartbeats 4000000 in
theorem sL_rs {d : Nat} {h : AH} {R : RP} {x : Nat} {S : SC} {T : TX} {B fp : FN} {sl : Int} (hI : lI h x S T fp sl) (hp : pRel fp S) (hB : rScr B S) (hT : txI T) {i : Int} {s : Int} (z0 : 0 ≤ s) (z1 : s < 3) {w8 : Int} {x9 x11 : Option AV} (k : ∀ (h' : AH) (sl' : Int) (x8 x10 x11 : Option AV), lI h' x S T fp sl' → AW mL_law (d + 13) (0, 0) 526 [some vX, some (vR x), some (vR (x + 98)), some (vR (x + 99)), some (vR (x + 100)), some (vR (x + 101)), some (vI sl'), some (vI i), x8, some (vI 1), x10, x11] [] h' R) : AW mL_law (d + 13) (0, 0) 314 [some vX, some (vR x), some (vR (x + 98)), some (vR (x + 99)), some (vR (x + 100)), some (vR (x + 101)), some (vI sl), some (vI i), some (vI w8), x9, some (vI s), x11] [] h R := by
  obtain ⟨P, ff, fm, fk, ho, hb, p0, s0, m0, t0, hh, hm, hk⟩ := hI
  obtain ⟨hs, hse⟩ := hh.now hb
  obtain ⟨fs, x0⟩ := ho.ob
  have hp1 := hp.1
  have hp2 := hp.2.1
  have b1 := hb.1
  have n0 := hs.2.1.1
  have n1 := hs.2.1.2
  obtain ⟨k1, k2⟩ := hk s z0 z1
  have sv := hb.2.2.1 s z0 z1
  refine A.il12_6 dL_law_314 ?_
  refine A.il12_10 dL_law_316 ?_
  refine A.ishr dL_law_318 ?_
  refine A.iconst dL_law_319 ?_
  refine A.iand dL_law_320 ?_
  refine A.if_ne dL_law_321 (fun c321 => ?_) (fun c321 => ?_)
  · have e1 : P.2.2.2.2.1 s = 1 := by omega
    obtain ⟨r0, r1, r2⟩ := k2 e1
    obtain ⟨tp, tn⟩ := plI_take (i := s) hb r1.2.1
    refine A.al12_5 dL_law_345 ?_
    refine A.al12_4 dL_law_347 ?_
    refine A.il12_10 dL_law_349 ?_
    refine A.s3 dL_law_351 (sL_takes t0 m0 (by omega) z0 (by omega) (by decide) (fun h351 g351 e351 y0 y1 y2 f351 => kN ?_))
    have ho := ho.fr f351 (by omega)
    have p0 := f351.get p0 (by omega)
    have s0 := f351.get s0 (by omega)
    have t0 := f351.get t0 (by omega)
    have m0 := e351
    obtain ⟨fs, x0⟩ := ho.ob
    have rm : mReg g351 (P.2.2.2.2.2.2 s) := ⟨y0.trans r0.1, y1.trans r0.2.1, y2.trans r0.2.2⟩
    refine A.al12_3 dL_law_354 ?_
    refine A.bipush dL_law_355 ?_
    refine A.iconst dL_law_357 ?_
    refine A.iast dL_law_358 (fun h358 e358 f358 => ?_) (hc := s0)
    have ho := ho.fr f358 (by omega)
    have p0 := f358.get p0 (by omega)
    have m0 := f358.get m0 (by omega)
    have t0 := f358.get t0 (by omega)
    have s0 := e358
    obtain ⟨fs, x0⟩ := ho.ob
    refine A.al12_3 dL_law_359 ?_
    refine A.al12_4 dL_law_360 ?_
    refine A.s2 dL_law_362 (sL_puts s0 m0 (by omega) (Int.le_of_eq (fs_at rfl).symm) (by rw [show fset ff 60 0 60 = 0 from fs_at rfl]; decide) (fun h362 ff362 e362 r362 f362 => kN ?_))
    have ho := ho.fr f362 (by omega)
    have p0 := f362.get p0 (by omega)
    have m0 := f362.get m0 (by omega)
    have t0 := f362.get t0 (by omega)
    have s0 := e362
    obtain ⟨fs, x0⟩ := ho.ob
    have q0 := putR_0 r362 (fs_at rfl) rm
    have q1 : stR0 ff ff362 (P.2.2.2.2.2.2 s) := ⟨q0.1, q0.2.1, q0.2.2.1, q0.2.2.2.trans (by rw [show fset ff 60 0 62 = ff 62 from fs_off (by decide)])⟩
    refine A.al12_1 dL_law_365 ?_
    refine A.il12_10 dL_law_366 ?_
    refine A.v1 dL_law_368 (s5_restore ho hB hb hT (fun h368 hq368 F368 => kS ?_)) (hc := x0)
    rw [show rsRR P s = (P.2.2.2.2.2.2 s).1 from (if_pos ⟨z0, z1⟩).trans (if_pos e1)]
    rw [show rsPP P s = takeP P s from if_pos ⟨z0, z1, e1⟩] at hq368
    have ho := hq368
    have p0 := F368.get p0 (by omega)
    have s0 := F368.get s0 (by omega)
    have m0 := F368.get m0 (by omega)
    have t0 := F368.get t0 (by omega)
    obtain ⟨fs, x0⟩ := ho.ob
    refine A.al12_4 dL_law_371 ?_
    refine A.iconst dL_law_373 ?_
    refine A.iald dL_law_374 ?_ (hc := m0)
    rw [rm.1]
    refine A.ic_ne dL_law_375 (fun c375 => absurd rfl c375) (fun c375 => ?_)
    refine A.iconst dL_law_378 ?_
    refine A.goto dL_law_379 ?_
    refine A.is12_9 dL_law_383 ?_
    refine A.goto dL_law_385 ?_
    first
      | exact k _ _ _ _ _ ⟨takeP P s, _, _, _, ho, tp, p0, s0, m0, t0, hRel_take hh q1 r1 r2, (by rw [tn]; exact rm), hk⟩
      | exact k _ _ _ _ _ ⟨P, _, _, _, ho, hb, p0, s0, m0, t0, hh, hm, hk⟩
  · have e0 : P.2.2.2.2.1 s = 0 := by omega
    refine A.al12_1 dL_law_324 ?_
    refine A.il12_10 dL_law_325 ?_
    refine A.v1 dL_law_327 (s5_restore ho hB hb hT (fun h327 hq327 F327 => kS ?_)) (hc := x0)
    rw [show rsRR P s = -13 from (if_pos ⟨z0, z1⟩).trans (if_neg (by omega))]
    rw [show rsPP P s = P from if_neg (by omega)] at hq327
    have ho := hq327
    have p0 := F327.get p0 (by omega)
    have s0 := F327.get s0 (by omega)
    have m0 := F327.get m0 (by omega)
    have t0 := F327.get t0 (by omega)
    obtain ⟨fs, x0⟩ := ho.ob
    refine A.bipush dL_law_330 ?_
    refine A.ic_ne dL_law_332 (fun c332 => absurd rfl c332) (fun c332 => ?_)
    refine A.iconst dL_law_335 ?_
    refine A.goto dL_law_336 ?_
    refine A.is12_9 dL_law_340 ?_
    refine A.goto dL_law_342 ?_
    first
      | exact k _ _ _ _ _ ⟨takeP P s, _, _, _, ho, tp, p0, s0, m0, t0, hRel_take hh q1 r1 r2, (by rw [tn]; exact rm), hk⟩
      | exact k _ _ _ _ _ ⟨P, _, _, _, ho, hb, p0, s0, m0, t0, hh, hm, hk⟩
set_option maxRecDepth 100000 in
set_option maxHeartbeats 4000000 in
theorem sL_bg {d : Nat} {h : AH} {R : RP} {x : Nat} {S : SC} {T : TX} {B fp : FN} {sl : Int} (hI : lI h x S T fp sl) (hp : pRel fp S) (hB : rScr B S) (hT : txI T) {i : Int} {w8 : Int} {x9 x10 x11 : Option AV} (k : ∀ (h' : AH) (sl' : Int) (x8 x10 x11 : Option AV), lI h' x S T fp sl' → AW mL_law (d + 13) (0, 0) 526 [some vX, some (vR x), some (vR (x + 98)), some (vR (x + 99)), some (vR (x + 100)), some (vR (x + 101)), some (vI sl'), some (vI i), x8, some (vI 1), x10, x11] [] h' R) : AW mL_law (d + 13) (0, 0) 458 [some vX, some (vR x), some (vR (x + 98)), some (vR (x + 99)), some (vR (x + 100)), some (vR (x + 101)), some (vI sl), some (vI i), some (vI w8), x9, x10, x11] [] h R := by
  obtain ⟨P, ff, fm, fk, ho, hb, p0, s0, m0, t0, hh, hm, hk⟩ := hI
  obtain ⟨hs, hse⟩ := hh.now hb
  obtain ⟨fs, x0⟩ := ho.ob
  have hp1 := hp.1
  have hp2 := hp.2.1
  have b1 := hb.1
  have n0 := hs.2.1.1
  have n1 := hs.2.1.2
  refine A.al12_2 dL_law_458 ?_
  refine A.al12_3 dL_law_459 ?_
  refine A.al12_4 dL_law_460 ?_
  refine A.s3 dL_law_462 (sL_starts (P.2.2.2.1 0) p0 hp hB s0 m0 (by omega) (by omega) (by omega) (fun h462 ff462 fm462 s462 m462 r462 q462 t462 f462 => kN ?_))
  have ho : pAt h462 x S P T := ho.fr ((f462.one (c := x + 99) (m := 2) (by omega) (by omega) (by omega) (by omega))) (by omega)
  have p0 := f462.get p0 (by omega) (by omega)
  have t0 := f462.get t0 (by omega) (by omega)
  have s0 := s462
  have m0 := m462
  have mo := come_ok (v := 0) hB (by decide) (by decide) q462
  obtain ⟨pa, pn⟩ := anewP_f (P := P) hB hb.2.1 hb.2.2.1
  obtain ⟨fs, x0⟩ := ho.ob
  refine A.al12_1 dL_law_465 ?_
  refine A.v0 dL_law_466 (s5_begin ho hB hb hT (fun h466 hq466 F466 => kS ?_)) (hc := x0)
  have ho := hq466
  have p0 := F466.get p0 (by omega)
  have s0 := F466.get s0 (by omega)
  have m0 := F466.get m0 (by omega)
  have t0 := F466.get t0 (by omega)
  obtain ⟨fs, x0⟩ := ho.ob
  refine A.al12_4 dL_law_469 ?_
  refine A.iconst dL_law_471 ?_
  refine A.iald dL_law_472 ?_ (hc := m0)
  rw [r462.1]
  refine A.ic_ne dL_law_473 (fun c473 => absurd rfl c473) (fun c473 => ?_)
  refine A.iconst dL_law_476 ?_
  refine A.goto dL_law_477 ?_
  refine A.is12_9 dL_law_481 ?_
  refine A.goto dL_law_483 ?_
  exact k _ _ _ _ _ ⟨anewP S P, _, _, _, ho, pa, p0, s0, m0, t0, hRel_anew hh.2.2.1 t462 mo, (by rw [pn]; exact r462), kRel_anew hk mo⟩
