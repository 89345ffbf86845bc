set_option maxRecDepth 100000 in
set_option maxHeartbeats 4000000 in
theorem s0_draw {d : Nat} {h : AH} {R : RP} {m : MO} {c : Nat} {re wc : Int} {Cc Lc Lo Wa Es : FN} (k0 : h.2 c = some (cob c re wc)) (k1 : h.2 (c + 1) = some (kA 0 1984 Cc)) (k2 : h.2 (c + 2) = some (kA 0 1984 Lc)) (k3 : h.2 (c + 3) = some (kA 0 1984 Lo)) (k4 : h.2 (c + 4) = some (kA 0 1984 Wa)) (k5 : h.2 (c + 5) = some (kA 0 12 Es)) {b : Nat} {S : SC} {B : FN} (hS : scAt h b S) (hd : c + 9 ≤ b ∨ b + 6 ≤ c) (hB : rScr B S) (hm : moAt h (c + 6) m) (k : ∀ h' re' wc' Cc' Lc' Lo' Wa' Es' m', h'.2 c = some (cob c re' wc') → h'.2 (c + 1) = some (kA 0 1984 Cc') → h'.2 (c + 2) = some (kA 0 1984 Lc') → h'.2 (c + 3) = some (kA 0 1984 Lo') → h'.2 (c + 4) = some (kA 0 1984 Wa') → h'.2 (c + 5) = some (kA 0 12 Es') → moAt h' (c + 6) m' → 0 ≤ m'.2.1 → m'.2.1 ≤ 63 → cC (drawn S) re' wc' Cc' Lc' Lo' Wa' Es' → Fr h h' c 9 → R none h') : AM m0_draw (d + 5) h [vR c, vR b] R := by
  refine AM.of (L := [some (vR c), some (vR b), none, none, none, none]) ok_0_draw (by decide) (fun G => Nat.le_of_ble_eq_true rfl) rfl ?_
  have inner : ∀ (nf : Nat) (i j : Nat) (cs : Int) (re1 wc1 : Int) (Cc1 Lc1 Lo1 Wa1 Es1 : FN) (m1 : MO) (h1 : AH) (hiw : (i : Int) < (outc S i).2.1) (hcs : (outc S i).2.2.1 i = cs) (hj : j ≤ 4) (k0 : h1.2 c = some (cob c re1 wc1)) (k1 : h1.2 (c + 1) = some (kA 0 1984 Cc1)) (k2 : h1.2 (c + 2) = some (kA 0 1984 Lc1)) (k3 : h1.2 (c + 3) = some (kA 0 1984 Lo1)) (k4 : h1.2 (c + 4) = some (kA 0 1984 Wa1)) (k5 : h1.2 (c + 5) = some (kA 0 12 Es1)) (hm : moAt h1 (c + 6) m1) (f0 : 0 ≤ m1.2.1) (f1 : m1.2.1 ≤ 63) (hC : cC (inn S (outc S i) i (cs / 64) (cs % 64) j) re1 wc1 Cc1 Lc1 Lo1 Wa1 Es1) (hF : Fr h h1 c 9) (kk : ∀ (re2 wc2 : Int) (Cc2 Lc2 Lo2 Wa2 Es2 : FN) (m2 : MO) (h2 : AH), h2.2 c = some (cob c re2 wc2) → h2.2 (c + 1) = some (kA 0 1984 Cc2) → h2.2 (c + 2) = some (kA 0 1984 Lc2) → h2.2 (c + 3) = some (kA 0 1984 Lo2) → h2.2 (c + 4) = some (kA 0 1984 Wa2) → h2.2 (c + 5) = some (kA 0 12 Es2) → moAt h2 (c + 6) m2 → 0 ≤ m2.2.1 → m2.2.1 ≤ 63 → cC (inn S (outc S i) i (cs / 64) (cs % 64) 4) re2 wc2 Cc2 Lc2 Lo2 Wa2 Es2 → Fr h h2 c 9 → AW m0_draw (d + 5) (mC m0_draw, mS m0_draw) 129 [some (vR c), some (vR b), some (vI i), some (vI cs), some (vI (cs / 64)), some (vI 4)] [] h2 R) (hn : 4 - j < nf), AW m0_draw (d + 5) (mC m0_draw, mS m0_draw) 74 [some (vR c), some (vR b), some (vI i), some (vI cs), some (vI (cs / 64)), some (vI j)] [] h1 R := by
    intro nf
    induction nf with
    | zero => intro i j  cs  re1 wc1  Cc1 Lc1 Lo1 Wa1 Es1  m1  h1  hiw hcs hj k0 k1 k2 k3 k4 k5 hm f0 f1 hC hF kk hn; omega
    | succ nf ih =>
      intro i j  cs  re1 wc1  Cc1 Lc1 Lo1 Wa1 Es1  m1  h1  hiw hcs hj k0 k1 k2 k3 k4 k5 hm f0 f1 hC hF kk hn
      have hS := hS.fr hF (by omega)
      have hX := chI_out hB i
      obtain ⟨hq1, hq2, hq3, -⟩ := hX.2.2.1 i (by omega) hiw
      rw [hcs] at hq1 hq2 hq3
      have hin := chI_inn hB hX (i := (i : Int)) (by omega) hiw hq3 (fl := cs % 64) (by omega) (by omega) j
      have hcm := hin.2
      have hk6 := sk_choice hq3
      have hkl := kd_lt (S := S) (v := cs / 64) (by rw [hk6]; decide)
      have g := hB.2 _ hkl.1 hkl.2.1
      obtain ⟨ga, gb, gc⟩ := g.r6 hk6
      refine A.il6_5 d0_draw_74 ?_
      refine A.iconst d0_draw_76 ?_
      refine A.ic_ge d0_draw_77 (fun c77 => ?_) (fun c77 => ?_)
      · have ej : j = 4 := by omega
        subst ej
        exact kk _ _ _ _ _ _ _ _ _ k0 k1 k2 k3 k4 k5 hm f0 f1 hC hF
      · refine A.al6_1 d0_draw_80 ?_
        refine A.il6_4 d0_draw_81 ?_
        refine A.il6_5 d0_draw_83 ?_
        refine A.il6_3 d0_draw_85 ?_
        refine A.s1 d0_draw_86 (s0_flagsOf hq1.1 (kS ?_))
        refine A.v3 d0_draw_89 (s3_isOpen hS (kS ?_)) (hc := hS.1)
        refine A.bz_eq d0_draw_92 (fun c92 => ?_) (fun c92 => ?_)
        · refine A.ii6_5 d0_draw_123 ?_
          refine A.goto d0_draw_126 ?_
          first
            | exact ih i (j + 1) cs _ _ _ _ _ _ _ _ _ hiw hcs (by omega) k0 k1 k2 k3 k4 k5 hm u120 v120 (by rw [show inn S (outc S i) i (cs / 64) (cs % 64) (j + 1) = _ from pif_t c92]; exact hC120) ((hF.then f103 (by omega) (by omega)).then f120 (by omega) (by omega)) kk (by omega)
            | exact ih i (j + 1) cs _ _ _ _ _ _ _ _ _ hiw hcs (by omega) k0 k1 k2 k3 k4 k5 hm f0 f1 (by rw [show inn S (outc S i) i (cs / 64) (cs % 64) (j + 1) = _ from pif_f c92]; exact hC) hF kk (by omega)
        · have ro3 := (gc j (by omega) c92.2.1).2.2.1
          refine A.al6_0 d0_draw_95 ?_
          refine A.getf d0_draw_96 ?_ (hc := k0)
          refine A.il6_3 d0_draw_99 ?_
          refine A.s1 d0_draw_100 (s0_flagsOf hq1.1 (kS ?_))
          refine A.putf d0_draw_103 (fun h103 e103 f103 => ?_) (hc := hm.1) (hk := blt_ok rfl)
          first | (have k0 := (f103.2 _ (by omega)).trans k0) | (have k0 := e103)
          first | (have k1 := (f103.2 _ (by omega)).trans k1) | (have k1 := e103)
          first | (have k2 := (f103.2 _ (by omega)).trans k2) | (have k2 := e103)
          first | (have k3 := (f103.2 _ (by omega)).trans k3) | (have k3 := e103)
          first | (have k4 := (f103.2 _ (by omega)).trans k4) | (have k4 := e103)
          first | (have k5 := (f103.2 _ (by omega)).trans k5) | (have k5 := e103)
          have hS := hS.fr f103 (by omega)
          have F103 := f103.wide (a := c) (n := 9) (by omega) (by omega)
          have hm : moAt h103 (c + 6) (m1.1, cs % 64, m1.2.2) := ⟨e103, f103.get hm.2.1 (by omega), f103.get hm.2.2 (by omega)⟩
          refine A.al6_0 d0_draw_106 ?_
          refine A.al6_1 d0_draw_107 ?_
          refine A.al6_1 d0_draw_108 ?_
          refine A.il6_4 d0_draw_109 ?_
          refine A.il6_5 d0_draw_111 ?_
          refine A.iconst d0_draw_113 ?_
          refine A.v3 d0_draw_114 (s3_optionPart hS (kS ?_)) (hc := hS.1)
          refine A.il6_3 d0_draw_117 ?_
          refine A.il6_5 d0_draw_118 ?_
          refine A.v4 d0_draw_120 (s0_follow (pa := i) (op := j) (X := inn S (outc S i) i (cs / 64) (cs % 64) j) (m := (m1.1, cs % 64, m1.2.2)) k0 k1 k2 k3 k4 k5 hS hd hB hm ro3.1 (Int.le_trans ro3.2 (by decide)) (by show 0 ≤ cs % 64; omega) (by show cs % 64 ≤ 63; omega) hin.1 hC (Or.inr ⟨⟨by omega, Int.lt_of_lt_of_le hiw hcm.1⟩, ((hcm.2 i (by omega) hiw).trans hcs).symm, rfl⟩) (fun h120 re120 wc120 Cc120 Lc120 Lo120 Wa120 Es120 m120 a120 b120 c120k d120 g120 i120 hm120 u120 v120 hC120 f120 => kN ?_)) (hc := k0)
          have k0 := a120
          have k1 := b120
          have k2 := c120k
          have k3 := d120
          have k4 := g120
          have k5 := i120
          have hm := hm120
          refine A.ii6_5 d0_draw_123 ?_
          refine A.goto d0_draw_126 ?_
          first
            | exact ih i (j + 1) cs _ _ _ _ _ _ _ _ _ hiw hcs (by omega) k0 k1 k2 k3 k4 k5 hm u120 v120 (by rw [show inn S (outc S i) i (cs / 64) (cs % 64) (j + 1) = _ from pif_t c92]; exact hC120) ((hF.then f103 (by omega) (by omega)).then f120 (by omega) (by omega)) kk (by omega)
            | exact ih i (j + 1) cs _ _ _ _ _ _ _ _ _ hiw hcs (by omega) k0 k1 k2 k3 k4 k5 hm f0 f1 (by rw [show inn S (outc S i) i (cs / 64) (cs % 64) (j + 1) = _ from pif_f c92]; exact hC) hF kk (by omega)
  have outer : ∀ (nf : Nat) (i : Nat) (x3 x4 x5 : Option AV) (re1 wc1 : Int) (Cc1 Lc1 Lo1 Wa1 Es1 : FN) (m1 : MO) (h1 : AH) (hi : i ≤ 1984) (k0 : h1.2 c = some (cob c re1 wc1)) (k1 : h1.2 (c + 1) = some (kA 0 1984 Cc1)) (k2 : h1.2 (c + 2) = some (kA 0 1984 Lc1)) (k3 : h1.2 (c + 3) = some (kA 0 1984 Lo1)) (k4 : h1.2 (c + 4) = some (kA 0 1984 Wa1)) (k5 : h1.2 (c + 5) = some (kA 0 12 Es1)) (hm : moAt h1 (c + 6) m1) (f0 : 0 ≤ m1.2.1) (f1 : m1.2.1 ≤ 63) (hC : cC (outc S i) re1 wc1 Cc1 Lc1 Lo1 Wa1 Es1) (hF : Fr h h1 c 9) (hn : 1984 - i < nf), AW m0_draw (d + 5) (mC m0_draw, mS m0_draw) 43 [some (vR c), some (vR b), some (vI i), x3, x4, x5] [] h1 R := by
    intro nf
    induction nf with
    | zero => intro i  x3 x4 x5  re1 wc1  Cc1 Lc1 Lo1 Wa1 Es1  m1  h1  hi k0 k1 k2 k3 k4 k5 hm f0 f1 hC hF hn; omega
    | succ nf ih =>
      intro i  x3 x4 x5  re1 wc1  Cc1 Lc1 Lo1 Wa1 Es1  m1  h1  hi k0 k1 k2 k3 k4 k5 hm f0 f1 hC hF hn
      have hX := chI_out hB i
      have hXn := hX.1
      have hcl := (cntN_le (outc S i).1 1984).2
      have hcn := hC.1
      refine A.il6_2 d0_draw_43 ?_
      refine A.al6_0 d0_draw_44 ?_
      refine A.getf d0_draw_45 ?_ (hc := k0)
      refine A.ic_ge d0_draw_48 (fun c48 => ?_) (fun c48 => ?_)
      · refine A.vret d0_draw_135 ?_
        have hd2 : drawn S = outc S i := outc_more (by omega) 1984 hi
        exact k _ _ _ _ _ _ _ _ _ k0 k1 k2 k3 k4 k5 hm f0 f1 (by rw [hd2]; exact hC) hF
      · refine A.il6_2 d0_draw_51 ?_
        refine A.sipush d0_draw_52 ?_
        refine A.ic_ge d0_draw_55 (fun c55 => ?_) (fun c55 => ?_)
        · refine A.vret d0_draw_135 ?_
          have hd2 : drawn S = outc S i := outc_more (by omega) 1984 hi
          exact k _ _ _ _ _ _ _ _ _ k0 k1 k2 k3 k4 k5 hm f0 f1 (by rw [hd2]; exact hC) hF
        · obtain ⟨hwa, -⟩ := hC.2.2.2.1 i (by omega) (by omega)
          obtain ⟨hq1, -, hq3, -⟩ := hX.2.2.1 i (by omega) (by omega)
          have hiw : (i : Int) < (outc S i).2.1 := by omega
          have hout : outc S (i + 1) = inn S (outc S i) i ((outc S i).2.2.1 i / 64) ((outc S i).2.2.1 i % 64) 4 := if_pos hiw
          refine A.al6_0 d0_draw_58 ?_
          refine A.getf d0_draw_59 ?_ (hc := k0)
          refine A.il6_2 d0_draw_62 ?_
          refine A.iald d0_draw_63 ?_ (hc := k4)
          rw [hwa]
          obtain ⟨cs, hcs⟩ : ∃ cs, (outc S i).2.2.1 i = cs := ⟨_, rfl⟩
          rw [hcs] at hq1 hq3 hout ⊢
          refine A.is6_3 d0_draw_64 ?_
          refine A.il6_3 d0_draw_65 ?_
          refine A.s1 d0_draw_66 (s0_nodeOf hq1.1 (kS ?_))
          refine A.is6_4 d0_draw_69 ?_
          refine A.iconst d0_draw_71 ?_
          refine A.is6_5 d0_draw_72 ?_
          exact inner 5 i 0 cs _ _ _ _ _ _ _ _ _ hiw hcs (by omega) k0 k1 k2 k3 k4 k5 hm f0 f1 hC hF (fun re2 wc2 Cc2 Lc2 Lo2 Wa2 Es2 m2 h2 a0 a1 a2 a3 a4 a5 hm2 g0 g1 hC2 hF2 => by
            refine A.ii6_2 d0_draw_129 ?_
            refine A.goto d0_draw_132 ?_
            exact ih (i + 1) _ _ _ _ _ _ _ _ _ _ _ _ (by omega) a0 a1 a2 a3 a4 a5 hm2 g0 g1 (by rw [hout]; exact hC2) hF2 (by omega)) (by omega)
  refine A.al6_0 d0_draw_0 ?_
  refine A.iconst d0_draw_1 ?_
  refine A.putf d0_draw_2 (fun h2 e2 f2 => ?_) (hc := k0) (hk := blt_ok rfl)
  first | (have k0 := (f2.2 _ (by omega)).trans k0) | (have k0 := e2)
  first | (have k1 := (f2.2 _ (by omega)).trans k1) | (have k1 := e2)
  first | (have k2 := (f2.2 _ (by omega)).trans k2) | (have k2 := e2)
  first | (have k3 := (f2.2 _ (by omega)).trans k3) | (have k3 := e2)
  first | (have k4 := (f2.2 _ (by omega)).trans k4) | (have k4 := e2)
  first | (have k5 := (f2.2 _ (by omega)).trans k5) | (have k5 := e2)
  have hS := hS.fr f2 (by omega)
  have F2 := f2.wide (a := c) (n := 9) (by omega) (by omega)
  have hm := hm.fr f2 (by omega)
  refine A.al6_0 d0_draw_5 ?_
  refine A.iconst d0_draw_6 ?_
  refine A.putf d0_draw_7 (fun h7 e7 f7 => ?_) (hc := k0) (hk := blt_ok rfl)
  first | (have k0 := (f7.2 _ (by omega)).trans k0) | (have k0 := e7)
  first | (have k1 := (f7.2 _ (by omega)).trans k1) | (have k1 := e7)
  first | (have k2 := (f7.2 _ (by omega)).trans k2) | (have k2 := e7)
  first | (have k3 := (f7.2 _ (by omega)).trans k3) | (have k3 := e7)
  first | (have k4 := (f7.2 _ (by omega)).trans k4) | (have k4 := e7)
  first | (have k5 := (f7.2 _ (by omega)).trans k5) | (have k5 := e7)
  have hS := hS.fr f7 (by omega)
  have F7 := F2.then f7 (by omega) (by omega)
  have hm := hm.fr f7 (by omega)
  refine A.al6_0 d0_draw_10 ?_
  refine A.getf d0_draw_11 ?_ (hc := k0)
  refine A.iconst d0_draw_14 ?_
  refine A.s2 d0_draw_15 (s7_fill k1 (by decide) (fun h15 e15 f15 => kN ?_))
  first | (have k0 := (f15.2 _ (by omega)).trans k0) | (have k0 := e15) | skip
  first | (have k1 := (f15.2 _ (by omega)).trans k1) | (have k1 := e15) | skip
  first | (have k2 := (f15.2 _ (by omega)).trans k2) | (have k2 := e15) | skip
  first | (have k3 := (f15.2 _ (by omega)).trans k3) | (have k3 := e15) | skip
  first | (have k4 := (f15.2 _ (by omega)).trans k4) | (have k4 := e15) | skip
  first | (have k5 := (f15.2 _ (by omega)).trans k5) | (have k5 := e15) | skip
  first | (have hS := hS.fr f15 (by omega)) | skip
  have F15 := F7.then f15 (by omega) (by omega)
  have hm := hm.fr f15 (by omega)
  refine A.al6_0 d0_draw_18 ?_
  refine A.getf d0_draw_19 ?_ (hc := k0)
  refine A.iconst d0_draw_22 ?_
  refine A.s2 d0_draw_23 (s7_fill k5 (by decide) (fun h23 e23 f23 => kN ?_))
  first | (have k0 := (f23.2 _ (by omega)).trans k0) | (have k0 := e23) | skip
  first | (have k1 := (f23.2 _ (by omega)).trans k1) | (have k1 := e23) | skip
  first | (have k2 := (f23.2 _ (by omega)).trans k2) | (have k2 := e23) | skip
  first | (have k3 := (f23.2 _ (by omega)).trans k3) | (have k3 := e23) | skip
  first | (have k4 := (f23.2 _ (by omega)).trans k4) | (have k4 := e23) | skip
  first | (have k5 := (f23.2 _ (by omega)).trans k5) | (have k5 := e23) | skip
  first | (have hS := hS.fr f23 (by omega)) | skip
  have F23 := F15.then f23 (by omega) (by omega)
  have hm := hm.fr f23 (by omega)
  refine A.al6_0 d0_draw_26 ?_
  refine A.getf d0_draw_27 ?_ (hc := k0)
  refine A.v0 d0_draw_30 (s1_makeEmpty hm (fun h30 hm30 f30 => kN ?_)) (hc := hm.1)
  first | (have k0 := (f30.2 _ (by omega)).trans k0) | (have k0 := e30) | skip
  first | (have k1 := (f30.2 _ (by omega)).trans k1) | (have k1 := e30) | skip
  first | (have k2 := (f30.2 _ (by omega)).trans k2) | (have k2 := e30) | skip
  first | (have k3 := (f30.2 _ (by omega)).trans k3) | (have k3 := e30) | skip
  first | (have k4 := (f30.2 _ (by omega)).trans k4) | (have k4 := e30) | skip
  first | (have k5 := (f30.2 _ (by omega)).trans k5) | (have k5 := e30) | skip
  first | (have hS := hS.fr f30 (by omega)) | skip
  have F30 := F23.then f30 (by omega) (by omega)
  have hm := hm30
  have hC0 : cC (z0, 0, z0, z0, z0, z0, z0, z0, z0) 0 0 (fillN (-1) 1984 Cc) Lc Lo Wa (fillN (-1) 12 Es) := cC_0 (S := S) (fun s s0 s1 => fillN_in _ _ 1984 s s0 s1) (fun s s0 s1 => fillN_in _ _ 12 s s0 s1)
  refine A.al6_0 d0_draw_33 ?_
  refine A.al6_1 d0_draw_34 ?_
  refine A.iconst d0_draw_35 ?_
  refine A.iconst d0_draw_36 ?_
  refine A.iconst d0_draw_37 ?_
  refine A.v4 d0_draw_38 (s0_follow (pa := -11) (op := -11) (X := (z0, 0, z0, z0, z0, z0, z0, z0, z0)) (m := emptyM m) k0 k1 k2 k3 k4 k5 hS hd hB hm (Int.le_refl 0) (by decide) (Int.le_refl 0) (by show (0 : Int) ≤ 63; decide) (chI_0 S) hC0 (Or.inl ⟨rfl, rfl⟩) (fun h38 re38 wc38 Cc38 Lc38 Lo38 Wa38 Es38 m38 a38 b38 c38k d38 g38 i38 hm38 u38 v38 hC38 f38 => kN ?_)) (hc := k0)
  have k0 := a38
  have k1 := b38
  have k2 := c38k
  have k3 := d38
  have k4 := g38
  have k5 := i38
  have hm := hm38
  refine A.iconst d0_draw_41 ?_
  refine A.is6_2 d0_draw_42 ?_
  exact outer 1985 0 _ _ _ _ _ _ _ _ _ _ _ _ (by omega) k0 k1 k2 k3 k4 k5 hm u38 v38 hC38 (F30.then f38 (by omega) (by omega)) (by omega)
