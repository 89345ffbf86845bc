/-! ===== the class's chart: what follows a node ===== -/
set_option maxRecDepth 100000 in
set_option maxHeartbeats 4000000 in
theorem s0_follow {d : Nat} {h : AH} {R : RP} {v pa op lc lo : Int} {X : CH} {m : MO} {c : Nat} {re wc : Int} {Cc Lc Lo Wa Es : FN} (k0 : h.2 c = some (cob c re wc)) (k1 : h.2 (c + 1) = some (kA 0 1984 Cc)) (k2 : h.2 (c + 2) = some (kA 0 1984 Lc)) (k3 : h.2 (c + 3) = some (kA 0 1984 Lo)) (k4 : h.2 (c + 4) = some (kA 0 1984 Wa)) (k5 : h.2 (c + 5) = some (kA 0 12 Es)) {b : Nat} {S : SC} {B : FN} (hS : scAt h b S) (hd : c + 9 ≤ b ∨ b + 6 ≤ c) (hB : rScr B S) (hm : moAt h (c + 6) m) (v0 : 0 ≤ v) (v1 : v ≤ 30) (hf0 : 0 ≤ m.2.1) (hf1 : m.2.1 ≤ 63) (hX : chI S X) (hC : cC X re wc Cc Lc Lo Wa Es) (hp : (pa = -11 ∧ lc = -1) ∨ ((0 ≤ pa ∧ pa < X.2.1) ∧ lc = X.2.2.1 pa ∧ lo = op)) (k : ∀ h' re' wc' Cc' Lc' Lo' Wa' Es' m', h'.2 c = some (cob c re' wc') → h'.2 (c + 1) = some (kA 0 1984 Cc') → h'.2 (c + 2) = some (kA 0 1984 Lc') → h'.2 (c + 3) = some (kA 0 1984 Lo') → h'.2 (c + 4) = some (kA 0 1984 Wa') → h'.2 (c + 5) = some (kA 0 12 Es') → moAt h' (c + 6) m' → 0 ≤ m'.2.1 → m'.2.1 ≤ 63 → cC (fo S X m.2.1 v pa op) re' wc' Cc' Lc' Lo' Wa' Es' → Fr h h' c 9 → R none h') : AM m0_follow (d + 4) h [vR c, vR b, vI v, vI lc, vI lo] R := by
  refine AM.of (L := [some (vR c), some (vR b), some (vI v), some (vI lc), some (vI lo), none, none, none, none]) ok_0_follow (by decide) (fun G => Nat.le_of_ble_eq_true rfl) rfl ?_
  have hcl := (cntN_le X.1 1984).1
  have hlc : (¬ (0 ≤ lc ∧ lc < 1984) → (0 : Int) = cl X pa) ∧ ((0 ≤ lc ∧ lc < 1984) → Cc lc + 1 = cl X pa) ∧ ((0 ≤ lc ∧ lc < 1984) → -1 ≤ Cc lc ∧ Cc lc ≤ 1984) := by
    refine ⟨fun z => ?_, fun z => ?_, fun z => ?_⟩
    · rcases hp with y | ⟨y1, y2, y3⟩
      · exact (if_pos y.1 : cl X pa = 0).symm
      · have := hX.2.2.1 pa y1.1 y1.2; omega
    · rcases hp with y | ⟨y1, y2, y3⟩
      · omega
      · have q1 : Cc (X.2.2.1 pa) = cl X (X.2.2.2.1 pa) := (hC.2.2.2.1 pa y1.1 y1.2).2.1
        have q2 := (cl_step hX y1.1 y1.2).1
        rw [y2, q1, q2]
    · have := hC.2.2.1 lc z.1 z.2; omega
  have loop : ∀ (nf : Nat) (t : Nat) (X1 : CH) (made w re1 wc1 : Int) (Cc1 Lc1 Lo1 Wa1 Es1 : FN) (m1 : MO) (x8 : Option AV) (h1 : AH) (ht : t ≤ 1984) (w0 : 0 ≤ w) (w1 : w ≤ 30) (k0 : h1.2 c = some (cob c re1 wc1)) (k1 : h1.2 (c + 1) = some (kA 0 1984 Cc1)) (k2 : h1.2 (c + 2) = some (kA 0 1984 Lc1)) (k3 : h1.2 (c + 3) = some (kA 0 1984 Lo1)) (k4 : h1.2 (c + 4) = some (kA 0 1984 Wa1)) (k5 : h1.2 (c + 5) = some (kA 0 12 Es1)) (hm : moAt h1 (c + 6) m1) (f0 : 0 ≤ m1.2.1) (f1 : m1.2.1 ≤ 63) (hX : chI S X1) (hC : cC X1 re1 wc1 Cc1 Lc1 Lo1 Wa1 Es1) (hp : (pa = -11 ∧ lc = -1) ∨ ((0 ≤ pa ∧ pa < X1.2.1) ∧ lc = X1.2.2.1 pa ∧ lo = op)) (hmd : made = cl X1 pa) (hfu : (t : Int) ≤ cntN X1.1 1984) (he : fo S X m.2.1 v pa op = fol S (1985 - t) X1 (cn S m1.2.1 w) (cfl S m1.2.1 w) pa op) (hF : Fr h h1 c 9) (hn : 1985 - t < nf), AW m0_follow (d + 4) (mC m0_follow, mS m0_follow) 27 [some (vR c), some (vR b), some (vI v), some (vI lc), some (vI lo), some (vI made), some (vI w), some (vI t), x8] [] h1 R := by
    intro nf
    induction nf with
    | zero => intro t  X1  made w re1 wc1  Cc1 Lc1 Lo1 Wa1 Es1  m1  x8  h1  ht w0 w1 k0 k1 k2 k3 k4 k5 hm f0 f1 hX hC hp hmd hfu he hF hn; omega
    | succ nf ih =>
      intro t  X1  made w re1 wc1  Cc1 Lc1 Lo1 Wa1 Es1  m1  x8  h1  ht w0 w1 k0 k1 k2 k3 k4 k5 hm f0 f1 hX hC hp hmd hfu he hF hn
      have hS := hS.fr hF (by omega)
      refine A.il9_7 d0_follow_27 ?_
      refine A.sipush d0_follow_29 ?_
      refine A.ic_ge d0_follow_32 (fun c32 => ?_) (fun c32 => ?_)
      · refine A.vret d0_follow_160 ?_
        obtain ⟨⟨⟨n0, n1⟩, hsh⟩, g0, g1⟩ := cn_rng hB w0 w1 f0 f1
        have hst : 0 ≤ sit (cn S m1.2.1 w) (cfl S m1.2.1 w) ∧ sit (cn S m1.2.1 w) (cfl S m1.2.1 w) < 1984 := by unfold sit; omega
        have hcl := (cntN_le X1.1 1984).2
        have hfull := cntN_full (f := X1.1) 1984 (by omega) _ hst.1 hst.2
        have hr := hX.2.1 _ hst.1 hst.2
        have hd : fo S X m.2.1 v pa op = X1 := he.trans (fol_done (by omega))
        exact k _ _ _ _ _ _ _ _ _ k0 k1 k2 k3 k4 k5 hm f0 f1 (by rw [hd]; exact hC) hF
      · refine A.al9_0 d0_follow_35 ?_
        refine A.getf d0_follow_36 ?_ (hc := k0)
        refine A.al9_1 d0_follow_39 ?_
        refine A.il9_6 d0_follow_40 ?_
        refine A.v2 d0_follow_42 (s1_comeFrom hm hS (by omega) (fun h42 hm42 f42 => kN ?_)) (hc := hm.1)
        first | (have k0 := (f42.2 _ (by omega)).trans k0) | (have k0 := e42) | skip
        first | (have k1 := (f42.2 _ (by omega)).trans k1) | (have k1 := e42) | skip
        first | (have k2 := (f42.2 _ (by omega)).trans k2) | (have k2 := e42) | skip
        first | (have k3 := (f42.2 _ (by omega)).trans k3) | (have k3 := e42) | skip
        first | (have k4 := (f42.2 _ (by omega)).trans k4) | (have k4 := e42) | skip
        first | (have k5 := (f42.2 _ (by omega)).trans k5) | (have k5 := e42) | skip
        first | (have hm := hm.fr f42 (by omega)) | skip
        first | (have hS := hS.fr f42 (by omega)) | skip
        have F42 := f42.wide (a := c) (n := 9) (by omega) (by omega)
        have hm := hm42
        obtain ⟨e1, e2⟩ := cCome_fl (S := S) m1 w
        obtain ⟨⟨⟨n0, n1⟩, hsh⟩, g0, g1⟩ := cn_rng hB w0 w1 f0 f1
        obtain ⟨m2, hm2e⟩ : ∃ m2, m2 = cCome S m1 w := ⟨_, rfl⟩
        rw [← hm2e] at hm e1 e2
        rw [← e1] at n0 n1 hsh
        rw [← e2] at g0 g1
        rw [← e1, ← e2] at he
        have hst : 0 ≤ sit m2.1 m2.2.1 ∧ sit m2.1 m2.2.1 < 1984 := by unfold sit; omega
        have hcs := hC.2.2.1 _ hst.1 hst.2
        obtain ⟨j, hj⟩ : ∃ j, 1985 - t = j + 1 := ⟨1984 - t, by omega⟩
        rw [hj] at he
        refine A.al9_0 d0_follow_45 ?_
        refine A.getf d0_follow_46 ?_ (hc := k0)
        refine A.getf d0_follow_49 ?_ (hc := hm.1)
        refine A.bipush d0_follow_52 ?_
        refine A.imul d0_follow_54 ?_
        refine A.al9_0 d0_follow_55 ?_
        refine A.getf d0_follow_56 ?_ (hc := k0)
        refine A.getf d0_follow_59 ?_ (hc := hm.1)
        refine A.iadd d0_follow_62 ?_
        rw [show m2.1 * 64 + m2.2.1 = sit m2.1 m2.2.1 by unfold sit; omega]
        refine A.is9_8 d0_follow_63 ?_
        refine A.il9_8 d0_follow_65 ?_
        refine A.s1 d0_follow_67 (s0_isSituation (kS ?_))
        refine A.bz_eq d0_follow_70 (fun c70 => absurd hst c70) (fun c70 => ?_)
        refine A.al9_0 d0_follow_73 ?_
        refine A.getf d0_follow_74 ?_ (hc := k0)
        refine A.il9_8 d0_follow_77 ?_
        refine A.iald d0_follow_79 ?_ (hc := k1)
        refine A.iconst d0_follow_80 ?_
        refine A.ic_eq d0_follow_81 (fun c81 => ?_) (fun c81 => ?_)
        · have hz : X1.1 (sit m2.1 m2.2.1) = 0 := by omega
          have hp2 : pa = -11 ∨ (0 ≤ pa ∧ pa < X1.2.1) := hp.elim (fun z => Or.inl z.1) (fun z => Or.inr z.1)
          have hclr := cl_rng hX hp2
          have hXn := hX.1
          have hcl := (cntN_le X1.1 1984).2
          have hcs3 := cntN_set hst.1 hz 1984 hst.2
          have hcs4 := (cntN_le (fset X1.1 (sit m2.1 m2.2.1) 1) 1984).2
          have hmkI := chI_mk (op := op) hB hX n0 n1 g0 g1 hsh hz hp2
          have hrr := hC.2.1
          have hC2 := cC_mark (a := made) (b := lc) (c := lo) hX hC hst.1 hst.2 hz (by omega) (by omega)
          refine A.al9_0 d0_follow_85 ?_
          refine A.dup d0_follow_86 ?_
          refine A.getf d0_follow_87 ?_ (hc := k0)
          refine A.iconst d0_follow_90 ?_
          refine A.iadd d0_follow_91 ?_
          refine A.putf d0_follow_92 (fun h92 e92 f92 => ?_) (hc := k0) (hk := blt_ok rfl)
          first | (have k0 := (f92.2 _ (by omega)).trans k0) | (have k0 := e92)
          first | (have k1 := (f92.2 _ (by omega)).trans k1) | (have k1 := e92)
          first | (have k2 := (f92.2 _ (by omega)).trans k2) | (have k2 := e92)
          first | (have k3 := (f92.2 _ (by omega)).trans k3) | (have k3 := e92)
          first | (have k4 := (f92.2 _ (by omega)).trans k4) | (have k4 := e92)
          first | (have k5 := (f92.2 _ (by omega)).trans k5) | (have k5 := e92)
          have hm := hm.fr f92 (by omega)
          have hS := hS.fr f92 (by omega)
          have F92 := F42.then f92 (by omega) (by omega)
          refine A.al9_0 d0_follow_95 ?_
          refine A.getf d0_follow_96 ?_ (hc := k0)
          refine A.il9_8 d0_follow_99 ?_
          refine A.il9_5 d0_follow_101 ?_
          refine A.iast d0_follow_103 (fun h103 e103 f103 => ?_) (hc := k1)
          first | (have k0 := (f103.2 _ (by omega)).trans k0) | (have k0 := e103)
          first | (have k1 := (f103.2 _ (by omega)).trans k1) | (have k1 := e103)
          first | (have k2 := (f103.2 _ (by omega)).trans k2) | (have k2 := e103)
          first | (have k3 := (f103.2 _ (by omega)).trans k3) | (have k3 := e103)
          first | (have k4 := (f103.2 _ (by omega)).trans k4) | (have k4 := e103)
          first | (have k5 := (f103.2 _ (by omega)).trans k5) | (have k5 := e103)
          have hm := hm.fr f103 (by omega)
          have hS := hS.fr f103 (by omega)
          have F103 := F92.then f103 (by omega) (by omega)
          refine A.al9_0 d0_follow_104 ?_
          refine A.getf d0_follow_105 ?_ (hc := k0)
          refine A.il9_8 d0_follow_108 ?_
          refine A.il9_3 d0_follow_110 ?_
          refine A.iast d0_follow_111 (fun h111 e111 f111 => ?_) (hc := k2)
          first | (have k0 := (f111.2 _ (by omega)).trans k0) | (have k0 := e111)
          first | (have k1 := (f111.2 _ (by omega)).trans k1) | (have k1 := e111)
          first | (have k2 := (f111.2 _ (by omega)).trans k2) | (have k2 := e111)
          first | (have k3 := (f111.2 _ (by omega)).trans k3) | (have k3 := e111)
          first | (have k4 := (f111.2 _ (by omega)).trans k4) | (have k4 := e111)
          first | (have k5 := (f111.2 _ (by omega)).trans k5) | (have k5 := e111)
          have hm := hm.fr f111 (by omega)
          have hS := hS.fr f111 (by omega)
          have F111 := F103.then f111 (by omega) (by omega)
          refine A.al9_0 d0_follow_112 ?_
          refine A.getf d0_follow_113 ?_ (hc := k0)
          refine A.il9_8 d0_follow_116 ?_
          refine A.il9_4 d0_follow_118 ?_
          refine A.iast d0_follow_120 (fun h120 e120 f120 => ?_) (hc := k3)
          first | (have k0 := (f120.2 _ (by omega)).trans k0) | (have k0 := e120)
          first | (have k1 := (f120.2 _ (by omega)).trans k1) | (have k1 := e120)
          first | (have k2 := (f120.2 _ (by omega)).trans k2) | (have k2 := e120)
          first | (have k3 := (f120.2 _ (by omega)).trans k3) | (have k3 := e120)
          first | (have k4 := (f120.2 _ (by omega)).trans k4) | (have k4 := e120)
          first | (have k5 := (f120.2 _ (by omega)).trans k5) | (have k5 := e120)
          have hm := hm.fr f120 (by omega)
          have hS := hS.fr f120 (by omega)
          have F120 := F111.then f120 (by omega) (by omega)
          refine A.al9_1 d0_follow_121 ?_
          refine A.al9_0 d0_follow_122 ?_
          refine A.getf d0_follow_123 ?_ (hc := k0)
          refine A.getf d0_follow_126 ?_ (hc := hm.1)
          refine A.v1 d0_follow_129 (s3_shownKind hS (kS ?_)) (hc := hS.1)
          refine A.if_eq d0_follow_132 (fun c132 => ?_) (fun c132 => ?_)
          · refine A.al9_0 d0_follow_143 ?_
            refine A.getf d0_follow_144 ?_ (hc := k0)
            refine A.getf d0_follow_147 ?_ (hc := hm.1)
            refine A.iconst d0_follow_150 ?_
            refine A.iadd d0_follow_151 ?_
            refine A.is9_6 d0_follow_152 ?_
            refine A.ii9_7 d0_follow_154 ?_
            refine A.goto d0_follow_157 ?_
            have hC3 := hC2
            rw [fol_line hz c132, mk0 c132] at he
            rw [mk0 c132] at hmkI
            have hkl := kd_lt (S := S) (v := m2.1) (by rw [sk_line c132]; decide)
            have hB1 := hB.1
            exact ih (t + 1) (fset X1.1 (sit m2.1 m2.2.1) 1, X1.2) made (m2.1 + 1) _ _ _ _ _ _ _ _ _ _ (by omega) (by omega) (by omega) k0 k1 k2 k3 k4 k5 hm g0 g1 hmkI.1 hC2 hp hmd (by show ((t + 1 : Nat) : Int) ≤ cntN (fset X1.1 (sit m2.1 m2.2.1) 1) 1984; omega) (by rw [show 1985 - (t + 1) = j by omega]; exact he) (hF.then F120 (by omega) (by omega)) (by omega)
          · refine A.al9_0 d0_follow_135 ?_
            refine A.al9_1 d0_follow_136 ?_
            refine A.il9_8 d0_follow_137 ?_
            refine A.v2 d0_follow_139 (s0_arrive k0 k1 k2 k3 k4 k5 hS hd hB hX hC2 hz hst g0 g1 hsh c132 hp2 (atS_on hmd (by rcases hp with z | z; rw [if_pos z.1]; exact z.2; rw [if_neg (by omega)]; exact z.2.1) (fun y => by rcases hp with z | z; exact absurd z.1 y; exact z.2.2)) (fun h139 wc139 Wa139 Es139 e139 x139 y139 c139 f139 => kN ?_)) (hc := k0)
            refine A.vret d0_follow_142 ?_
            have hd : fo S X m.2.1 v pa op = mk S X1 m2.1 m2.2.1 pa op := he.trans (fol_stop hz c132)
            exact k _ _ _ _ _ _ _ _ _ e139 (f139.get k1 (by omega) (by omega)) (f139.get k2 (by omega) (by omega)) (f139.get k3 (by omega) (by omega)) x139 y139 ⟨f139.get hm.1 (by omega) (by omega), f139.get hm.2.1 (by omega) (by omega), f139.get hm.2.2 (by omega) (by omega)⟩ g0 g1 (by rw [hd]; exact c139) ((hF.then F120 (by omega) (by omega)).then (f139.one (c := c) (m := 9) (by omega) (by omega) (by omega) (by omega)) (by omega) (by omega))
        · refine A.vret d0_follow_84 ?_
          have hd : fo S X m.2.1 v pa op = X1 := he.trans (fol_done (by omega))
          exact k _ _ _ _ _ _ _ _ _ k0 k1 k2 k3 k4 k5 hm g0 g1 (by rw [hd]; exact hC) (hF.then F42 (by omega) (by omega))
  refine A.il9_3 d0_follow_0 ?_
  refine A.s1 d0_follow_1 (s0_isSituation (kS ?_))
  refine A.bz_eq d0_follow_4 (fun c4 => ?_) (fun c4 => ?_)
  · refine A.iconst d0_follow_18 ?_
    refine A.is9_5 d0_follow_19 ?_
    refine A.il9_2 d0_follow_21 ?_
    refine A.is9_6 d0_follow_22 ?_
    refine A.iconst d0_follow_24 ?_
    refine A.is9_7 d0_follow_25 ?_
    exact loop 1986 0 X _ v _ _ _ _ _ _ _ _ _ _ (by omega) v0 v1 k0 k1 k2 k3 k4 k5 hm hf0 hf1 hX hC hp (by first | exact hlc.2.1 c4 | exact hlc.1 c4) (by omega) rfl Fr.rfl (by omega)
  · have hlr := hlc.2.2 c4
    refine A.al9_0 d0_follow_7 ?_
    refine A.getf d0_follow_8 ?_ (hc := k0)
    refine A.il9_3 d0_follow_11 ?_
    refine A.iald d0_follow_12 ?_ (hc := k1)
    refine A.iconst d0_follow_13 ?_
    refine A.iadd d0_follow_14 ?_
    refine A.goto d0_follow_15 ?_
    refine A.is9_5 d0_follow_19 ?_
    refine A.il9_2 d0_follow_21 ?_
    refine A.is9_6 d0_follow_22 ?_
    refine A.iconst d0_follow_24 ?_
    refine A.is9_7 d0_follow_25 ?_
    exact loop 1986 0 X _ v _ _ _ _ _ _ _ _ _ _ (by omega) v0 v1 k0 k1 k2 k3 k4 k5 hm hf0 hf1 hX hC hp (by first | exact hlc.2.1 c4 | exact hlc.1 c4) (by omega) rfl Fr.rfl (by omega)
