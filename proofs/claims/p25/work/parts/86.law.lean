/-! ===== the law: lines that were seen are skipped ===== -/
theorem skN2_s {S : SC} {k : Nat} {P : PL} {n : Int} (h : cSK S (nowM P).1 = 0) : skN2 S (k + 1) P n = if seenB P (goM S P ((nowM P).1 + 1)).1 = 1 then skN2 S k (goP S P ((nowM P).1 + 1)) (n + 1) else (goP S P ((nowM P).1 + 1), n + 1) := if_pos h
theorem sk_y {S : SC} {P P1 : PL} {n : Int} (h : cSK S (nowM P).1 = 0) (e : skN2 S 60 P 0 = (P1, n)) : skPP S P = P1 ∧ skRR S P = n := ⟨(if_pos h).trans (congrArg Prod.fst e), (if_pos h).trans (congrArg Prod.snd e)⟩
set_option maxRecDepth 100000 in
set_option maxHeartbeats 4000000 in
theorem sL_skipL {d : Nat} {h : AH} {R : RP} {x : Nat} {S : SC} {T : TX} {B fp : FN} {sl : Int} {P : PL} {fk : FN} (hp : pRel fp S) (hB : rScr B S) (hT : txI T) (nl : cSK S (nowM P).1 = 0) (k : (∀ h', lI h' x S T fp sl → R (some (vI 1)) h')) {ff fm : FN} (ho : pAt h x S P T) (hb : plI P) (p0 : h.2 (x + 98) = some (kA 0 64 fp)) (s0 : h.2 (x + 99) = some (kA 0 64 ff)) (m0 : h.2 (x + 100) = some (kA 0 3 fm)) (t0 : h.2 (x + 101) = some (kA 0 9 fk)) (hh : hRel S ff P) (hm : mReg fm (nowM P)) (hk : kRel S fk sl P) : AW mL_skips (d + 7) (mC mL_skips, mS mL_skips) 25 [some (vR x), some (vR (x + 98)), some (vR (x + 99)), some (vR (x + 100)), none, none, none] [] h R := by
  have hp1 := hp.1
  have hp2 := hp.2.1
  have loop : ∀ (nf : Nat) (i : Nat) (kv : Int) (P1 : PL) (ff1 fm1 : FN) (h1 : AH) (x6 : Option AV) (hi : i ≤ 60) (ho : pAt h1 x S P T) (pl : plI P1) (p0 : h1.2 (x + 98) = some (kA 0 64 fp)) (s0 : h1.2 (x + 99) = some (kA 0 64 ff1)) (m0 : h1.2 (x + 100) = some (kA 0 3 fm1)) (t0 : h1.2 (x + 101) = some (kA 0 9 fk)) (hh : hRel S ff1 P1) (hm : mReg fm1 (nowM P1)) (hk : kRel S fk sl P1) (he : (kv = 1 ∧ cSK S (nowM P1).1 = 0 ∧ skN2 S 60 P 0 = skN2 S (60 - i) P1 i) ∨ (kv = 0 ∧ skN2 S 60 P 0 = (P1, (i : Int)))) (hn : 60 - i < nf), AW mL_skips (d + 7) (mC mL_skips, mS mL_skips) 31 [some (vR x), some (vR (x + 98)), some (vR (x + 99)), some (vR (x + 100)), some (vI i), some (vI kv), x6] [] h1 R := by
    intro nf
    induction nf with
    | zero => intro i  kv  P1  ff1 fm1  h1  x6  hi ho pl p0 s0 m0 t0 hh hm hk he hn; omega
    | succ nf ih =>
      intro i  kv  P1  ff1 fm1  h1  x6  hi ho pl p0 s0 m0 t0 hh hm hk he hn
      obtain ⟨hs, hse⟩ := hh.now pl
      have b1 := pl.1
      have n0 := hs.2.1.1
      have n1 := hs.2.1.2
      have h60 := hh.1
      obtain ⟨fs, x0⟩ := ho.ob
      refine A.il7_5 dL_skips_31 ?_
      refine A.if_eq dL_skips_33 (fun c33 => ?_) (fun c33 => ?_)
      · have he2 : skN2 S 60 P 0 = (P1, (i : Int)) := by
          rcases he with ⟨z0, z1, z2⟩ | ⟨z0, z1⟩
          · rw [z2, show 60 - i = 0 by omega]; rfl
          · exact z1
        obtain ⟨w0, w1⟩ := sk_y nl he2
        refine A.al7_0 dL_skips_99 ?_
        refine A.v0 dL_skips_100 (s5_skip ho hB hb hT (fun h100 hq100 F100 => kS ?_)) (hc := x0)
        rw [w1]
        rw [w0] at hq100
        have ho := hq100
        have p0 := F100.get p0 (by omega)
        have s0 := F100.get s0 (by omega)
        have m0 := F100.get m0 (by omega)
        have t0 := F100.get t0 (by omega)
        obtain ⟨fs, x0⟩ := ho.ob
        refine A.il7_4 dL_skips_103 ?_
        refine A.ic_ne dL_skips_105 (fun c105 => absurd rfl c105) (fun c105 => ?_)
        refine A.iconst dL_skips_108 ?_
        refine A.goto dL_skips_109 ?_
        refine A.zret dL_skips_113 ?_
        exact k _ ⟨_, _, _, _, ho, pl, p0, s0, m0, t0, hh, hm, hk⟩
      · refine A.il7_4 dL_skips_36 ?_
        refine A.bipush dL_skips_38 ?_
        refine A.ic_ge dL_skips_40 (fun c40 => ?_) (fun c40 => ?_)
        · have he2 : skN2 S 60 P 0 = (P1, (i : Int)) := by
            rcases he with ⟨z0, z1, z2⟩ | ⟨z0, z1⟩
            · rw [z2, show 60 - i = 0 by omega]; rfl
            · exact z1
          obtain ⟨w0, w1⟩ := sk_y nl he2
          refine A.al7_0 dL_skips_99 ?_
          refine A.v0 dL_skips_100 (s5_skip ho hB hb hT (fun h100 hq100 F100 => kS ?_)) (hc := x0)
          rw [w1]
          rw [w0] at hq100
          have ho := hq100
          have p0 := F100.get p0 (by omega)
          have s0 := F100.get s0 (by omega)
          have m0 := F100.get m0 (by omega)
          have t0 := F100.get t0 (by omega)
          obtain ⟨fs, x0⟩ := ho.ob
          refine A.il7_4 dL_skips_103 ?_
          refine A.ic_ne dL_skips_105 (fun c105 => absurd rfl c105) (fun c105 => ?_)
          refine A.iconst dL_skips_108 ?_
          refine A.goto dL_skips_109 ?_
          refine A.zret dL_skips_113 ?_
          exact k _ ⟨_, _, _, _, ho, pl, p0, s0, m0, t0, hh, hm, hk⟩
        · have he : cSK S (nowM P1).1 = 0 ∧ skN2 S 60 P 0 = skN2 S (60 - i) P1 i := by
            rcases he with ⟨_, z⟩ | ⟨z, _⟩
            · exact z
            · exfalso; omega
          obtain ⟨kz, he⟩ := he
          have kl := kd_lt (S := S) (v := (nowM P1).1) (by have := sk_line kz; omega)
          obtain ⟨j, hj⟩ : ∃ j, 60 - i = j + 1 := ⟨60 - i - 1, by omega⟩
          rw [hj, skN2_s kz] at he
          refine A.al7_2 dL_skips_43 ?_
          refine A.bipush dL_skips_44 ?_
          refine A.iald dL_skips_46 ?_ (hc := s0)
          refine A.is7_6 dL_skips_47 ?_
          refine A.al7_1 dL_skips_49 ?_
          refine A.al7_3 dL_skips_50 ?_
          refine A.al7_3 dL_skips_51 ?_
          refine A.iconst dL_skips_52 ?_
          refine A.iald dL_skips_53 ?_ (hc := m0)
          rw [hm.1]
          refine A.iconst dL_skips_54 ?_
          refine A.iadd dL_skips_55 ?_
          refine A.s3 dL_skips_56 (sL_carries p0 hp hB m0 (by omega) hs.1 hm.2.1 hm.2.2 (by omega) (by omega) (fun h56 fm56 e56 r56 q56 f56 => kN ?_))
          have ho := ho.fr f56 (by omega)
          have p0 := f56.get p0 (by omega)
          have s0 := f56.get s0 (by omega)
          have t0 := f56.get t0 (by omega)
          have m0 := e56
          obtain ⟨fs, x0⟩ := ho.ob
          have m2 : moS S (goM S P1 ((nowM P1).1 + 1)) := come_ok hB (by omega) (by omega) q56
          have r56 : mReg fm56 (goM S P1 ((nowM P1).1 + 1)) := r56
          have pg := plI_go (v := (nowM P1).1 + 1) hB pl (by omega) (by omega)
          refine A.al7_2 dL_skips_59 ?_
          refine A.al7_3 dL_skips_60 ?_
          refine A.s2 dL_skips_61 (sL_puts s0 m0 (by omega) (by omega) (by omega) (fun h61 ff61 e61 r61 f61 => kN ?_))
          have ho := ho.fr f61 (by omega)
          have p0 := f61.get p0 (by omega)
          have m0 := f61.get m0 (by omega)
          have t0 := f61.get t0 (by omega)
          have s0 := e61
          obtain ⟨fs, x0⟩ := ho.ob
          have hg := hRel_go pl hh r61 r56 m2
          have kg := kRel_go hk m2
          have sb : seenB P1 (goM S P1 ((nowM P1).1 + 1)).1 = bAnd (bShr (ff1 62) (goM S P1 ((nowM P1).1 + 1)).1) 1 := (if_pos ⟨m2.2.1.1, by have := m2.2.1.2; omega⟩).trans (hh.2.2.1 _ m2.2.1.1 (by have := m2.2.1.2; omega))
          rw [sb] at he
          have g0 := m2.2.1.1
          have g1 := m2.2.1.2
          refine A.ii7_4 dL_skips_64 ?_
          refine A.al7_1 dL_skips_67 ?_
          refine A.al7_3 dL_skips_68 ?_
          refine A.iconst dL_skips_69 ?_
          refine A.iald dL_skips_70 ?_ (hc := m0)
          rw [r56.1]
          refine A.s2 dL_skips_71 (sL_shownKind p0 hp hB m2.2.1.1 m2.2.1.2 (kS ?_))
          rw [lSK_s hB m2.2.1.1 m2.2.2]
          refine A.if_ne dL_skips_74 (fun c74 => ?_) (fun c74 => ?_)
          · refine A.iconst dL_skips_93 ?_
            refine A.is7_5 dL_skips_94 ?_
            refine A.goto dL_skips_96 ?_
            refine ih (i + 1) _ _ _ _ _ _ (by omega) ho pg.1 p0 s0 m0 t0 hg (by rw [pg.2]; exact r56) kg ?_ (by omega)
            first
              | (refine Or.inl ⟨rfl, by rw [pg.2]; omega, ?_⟩
                 rw [if_pos (by omega)] at he
                 rw [he, show 60 - (i + 1) = j by omega]
                 rfl)
              | (refine Or.inr ⟨rfl, ?_⟩
                 by_cases z : bAnd (bShr (ff1 62) (goM S P1 ((nowM P1).1 + 1)).1) 1 = 1
                 · first
                     | (exfalso; omega)
                     | (rw [if_pos z, skN2_nl (S := S) (k := j) (P := goP S P1 ((nowM P1).1 + 1)) (n := (i : Int) + 1) (by rw [pg.2]; omega)] at he
                        exact he)
                 · rw [if_neg z] at he
                   exact he)
          · refine A.il7_6 dL_skips_77 ?_
            refine A.al7_3 dL_skips_79 ?_
            refine A.iconst dL_skips_80 ?_
            refine A.iald dL_skips_81 ?_ (hc := m0)
            rw [r56.1]
            refine A.ishr dL_skips_82 ?_
            refine A.iconst dL_skips_83 ?_
            refine A.iand dL_skips_84 ?_
            refine A.iconst dL_skips_85 ?_
            refine A.ic_ne dL_skips_86 (fun c86 => ?_) (fun c86 => ?_)
            · refine A.iconst dL_skips_93 ?_
              refine A.is7_5 dL_skips_94 ?_
              refine A.goto dL_skips_96 ?_
              refine ih (i + 1) _ _ _ _ _ _ (by omega) ho pg.1 p0 s0 m0 t0 hg (by rw [pg.2]; exact r56) kg ?_ (by omega)
              first
                | (refine Or.inl ⟨rfl, by rw [pg.2]; omega, ?_⟩
                   rw [if_pos (by omega)] at he
                   rw [he, show 60 - (i + 1) = j by omega]
                   rfl)
                | (refine Or.inr ⟨rfl, ?_⟩
                   by_cases z : bAnd (bShr (ff1 62) (goM S P1 ((nowM P1).1 + 1)).1) 1 = 1
                   · first
                       | (exfalso; omega)
                       | (rw [if_pos z, skN2_nl (S := S) (k := j) (P := goP S P1 ((nowM P1).1 + 1)) (n := (i : Int) + 1) (by rw [pg.2]; omega)] at he
                          exact he)
                   · rw [if_neg z] at he
                     exact he)
            · refine A.iconst dL_skips_89 ?_
              refine A.goto dL_skips_90 ?_
              refine A.is7_5 dL_skips_94 ?_
              refine A.goto dL_skips_96 ?_
              refine ih (i + 1) _ _ _ _ _ _ (by omega) ho pg.1 p0 s0 m0 t0 hg (by rw [pg.2]; exact r56) kg ?_ (by omega)
              first
                | (refine Or.inl ⟨rfl, by rw [pg.2]; omega, ?_⟩
                   rw [if_pos (by omega)] at he
                   rw [he, show 60 - (i + 1) = j by omega]
                   rfl)
                | (refine Or.inr ⟨rfl, ?_⟩
                   by_cases z : bAnd (bShr (ff1 62) (goM S P1 ((nowM P1).1 + 1)).1) 1 = 1
                   · first
                       | (exfalso; omega)
                       | (rw [if_pos z, skN2_nl (S := S) (k := j) (P := goP S P1 ((nowM P1).1 + 1)) (n := (i : Int) + 1) (by rw [pg.2]; omega)] at he
                          exact he)
                   · rw [if_neg z] at he
                     exact he)
  refine A.iconst dL_skips_25 ?_
  refine A.is7_4 dL_skips_26 ?_
  refine A.iconst dL_skips_28 ?_
  refine A.is7_5 dL_skips_29 ?_
  exact loop 61 0 1 P ff fm h _ (by omega) ho hb p0 s0 m0 t0 hh hm hk (Or.inl ⟨rfl, nl, rfl⟩) (by omega)
set_option maxRecDepth 100000 in
set_option maxHeartbeats 4000000 in
theorem sL_skips {d : Nat} {h : AH} {R : RP} {x : Nat} {S : SC} {T : TX} {B fp : FN} {sl : Int} (hI : lI h x S T fp sl) (hp : pRel fp S) (hB : rScr B S) (hT : txI T) (k : ∀ h', lI h' x S T fp sl → R (some (vI 1)) h') : AM mL_skips (d + 7) h [vR x, vR (x + 98), vR (x + 99), vR (x + 100)] R := by
  refine AM.of (L := [some (vR x), some (vR (x + 98)), some (vR (x + 99)), some (vR (x + 100)), none, none, none]) ok_L_skips (by decide) (fun G => Nat.le_of_ble_eq_true rfl) rfl ?_
  obtain ⟨P, ff, fm, fk, ho, hb, p0, s0, m0, t0, hh, hm, hk⟩ := hI
  obtain ⟨hs, hse⟩ := hh.now hb
  obtain ⟨fs, x0⟩ := ho.ob
  have hp1 := hp.1
  have hp2 := hp.2.1
  have b1 := hb.1
  have n0 := hs.2.1.1
  have n1 := hs.2.1.2
  have h60 := hh.1
  have h61 := hh.2.1
  have ks := lSK_s hB n0 hs.2.2
  refine A.al7_1 dL_skips_0 ?_
  refine A.al7_3 dL_skips_1 ?_
  refine A.iconst dL_skips_2 ?_
  refine A.iald dL_skips_3 ?_ (hc := m0)
  rw [hm.1]
  refine A.s2 dL_skips_4 (sL_shownKind p0 hp hB n0 n1 (kS ?_))
  rw [ks]
  refine A.if_eq dL_skips_7 (fun c7 => ?_) (fun c7 => ?_)
  · have nl : cSK S (nowM P).1 = 0 := by omega
    exact sL_skipL hp hB hT nl k ho hb p0 s0 m0 t0 hh hm hk
  · have nl : cSK S (nowM P).1 ≠ 0 := by omega
    refine A.al7_0 dL_skips_10 ?_
    refine A.v0 dL_skips_11 (s5_skip ho hB hb hT (fun h11 hq11 F11 => kS ?_)) (hc := x0)
    rw [(sk_no nl).2]
    rw [(sk_no nl).1] at hq11
    have ho := hq11
    have p0 := F11.get p0 (by omega)
    have s0 := F11.get s0 (by omega)
    have m0 := F11.get m0 (by omega)
    have t0 := F11.get t0 (by omega)
    obtain ⟨fs, x0⟩ := ho.ob
    refine A.bipush dL_skips_14 ?_
    refine A.ic_ne dL_skips_16 (fun c16 => absurd rfl c16) (fun c16 => ?_)
    refine A.iconst dL_skips_19 ?_
    refine A.goto dL_skips_20 ?_
    refine A.zret dL_skips_24 ?_
    exact k _ ⟨P, _, _, _, ho, hb, p0, s0, m0, t0, hh, hm, hk⟩
