/-! ===== the reference: the chart is drawn ===== -/
theorem scr_any {fl : Int} (V F : FN) (h0 : 0 ≤ fl) (h1 : fl ≤ 63) : scrR (0, fl, V, fun k => if V k = -11 then -11 else F k) fl V F := ⟨rfl, ⟨h0, h1⟩, fun k _ _ => ⟨rfl, rfl⟩⟩
theorem cR_0 {Re Ch Fm By Ie Ef Eb : FN} (h : ∀ s : Int, 0 ≤ s → s < 1984 → Re s = 0) (g : ∀ e : Int, 0 ≤ e → e < 13 → Ie e = 0) : cR (z0, 0, z0, z0, z0, z0, z0, z0, z0) 0 Re Ch Fm By Ie Ef Eb :=
  ⟨rfl, h, fun k k0 k1 => by
    have k1 : k < 0 := k1
    omega, fun e e0 e1 => ⟨g e e0 e1, fun z => by
    have z : (0 : Int) = 1 := z
    omega⟩⟩
set_option maxRecDepth 100000 in
set_option maxHeartbeats 4000000 in
theorem s6_charts {d : Nat} {h : AH} {R : RP} {V F : FN} {q : Nat} {rd fi co ah se tl ps fa fl ch : Int} {hx : Int64} {S : SC} {B : Int → Int} (w0 : h.2 q = some (mobj q S.1 rd fi co ah se tl ps fa fl ch hx)) (w1 : h.2 (q + 1) = some (kA 0 348 B)) (hB : rScr B S) (w7 : h.2 (q + 7) = some (kA 0 3 V)) (w8 : h.2 (q + 8) = some (kA 0 3 F)) {Re Ch Fm By Ie Ef Eb : FN} (w9 : h.2 (q + 9) = some (kA 2 1984 Re)) (w10 : h.2 (q + 10) = some (kA 0 1984 Ch)) (w11 : h.2 (q + 11) = some (kA 0 1984 Fm)) (w12 : h.2 (q + 12) = some (kA 0 1984 By)) (w13 : h.2 (q + 13) = some (kA 2 13 Ie)) (w14 : h.2 (q + 14) = some (kA 0 13 Ef)) (w15 : h.2 (q + 15) = some (kA 0 13 Eb)) (k : ∀ h' fl' ch' V' F' Re' Ch' Fm' By' Ie' Ef' Eb' m', h'.2 q = some (mobj q S.1 rd fi co ah se tl ps fa fl' ch' hx) → h'.2 (q + 7) = some (kA 0 3 V') → h'.2 (q + 8) = some (kA 0 3 F') → h'.2 (q + 9) = some (kA 2 1984 Re') → h'.2 (q + 10) = some (kA 0 1984 Ch') → h'.2 (q + 11) = some (kA 0 1984 Fm') → h'.2 (q + 12) = some (kA 0 1984 By') → h'.2 (q + 13) = some (kA 2 13 Ie') → h'.2 (q + 14) = some (kA 0 13 Ef') → h'.2 (q + 15) = some (kA 0 13 Eb') → scrR m' fl' V' F' → cR (drawn S) ch' Re' Ch' Fm' By' Ie' Ef' Eb' → Fp h h' q [0, 7, 8, 9, 10, 11, 12, 13, 14, 15] → R none h') : AM m6_charts (d + 4) h [vR q] R := by
  refine AM.of (L := [some (vR q), none, none, none]) ok_6_charts (by decide) (fun G => Nat.le_of_ble_eq_true rfl) rfl ?_
  have outer : ∀ (nf : Nat) (i : Nat) (x2 x3 : Option AV) (fl1 ch1 : Int) (V1 F1 Re1 Ch1 Fm1 By1 Ie1 Ef1 Eb1 : FN) (h1 : AH) (hi : i ≤ 1984) (w0 : h1.2 q = some (mobj q S.1 rd fi co ah se tl ps fa fl1 ch1 hx)) (w1 : h1.2 (q + 1) = some (kA 0 348 B)) (w7 : h1.2 (q + 7) = some (kA 0 3 V1)) (w8 : h1.2 (q + 8) = some (kA 0 3 F1)) (w9 : h1.2 (q + 9) = some (kA 2 1984 Re1)) (w10 : h1.2 (q + 10) = some (kA 0 1984 Ch1)) (w11 : h1.2 (q + 11) = some (kA 0 1984 Fm1)) (w12 : h1.2 (q + 12) = some (kA 0 1984 By1)) (w13 : h1.2 (q + 13) = some (kA 2 13 Ie1)) (w14 : h1.2 (q + 14) = some (kA 0 13 Ef1)) (w15 : h1.2 (q + 15) = some (kA 0 13 Eb1)) (hb0 : 0 ≤ fl1) (hb1 : fl1 ≤ 63) (hF : Fp h h1 q [0, 7, 8, 9, 10, 11, 12, 13, 14, 15]) (hc : cR (outc S i) ch1 Re1 Ch1 Fm1 By1 Ie1 Ef1 Eb1) (hn : 1984 - i < nf), AW m6_charts (d + 4) (mC m6_charts, mS m6_charts) 64 [some (vR q), some (vI i), x2, x3] [] h1 R := by
    intro nf
    induction nf with
    | zero => intro i  x2 x3  fl1 ch1  V1 F1 Re1 Ch1 Fm1 By1 Ie1 Ef1 Eb1  h1  hi w0 w1 w7 w8 w9 w10 w11 w12 w13 w14 w15 hb0 hb1 hF hc hn; omega
    | succ nf ih =>
      intro i  x2 x3  fl1 ch1  V1 F1 Re1 Ch1 Fm1 By1 Ie1 Ef1 Eb1  h1  hi w0 w1 w7 w8 w9 w10 w11 w12 w13 w14 w15 hb0 hb1 hF hc hn
      have hX := chI_out hB i
      have hXn := hX.1
      have hcl := (cntN_le (outc S i).1 1984).2
      have hcn := hc.1
      refine A.il4_1 d6_charts_64 ?_
      refine A.al4_0 d6_charts_65 ?_
      refine A.getf d6_charts_66 ?_ (hc := w0)
      refine A.ic_ge d6_charts_69 (fun c69 => ?_) (fun c69 => ?_)
      · refine A.vret d6_charts_153 ?_
        have hd : drawn S = outc S i := outc_more (by omega) 1984 hi
        exact k _ _ _ _ _ _ _ _ _ _ _ _ _ w0 w7 w8 w9 w10 w11 w12 w13 w14 w15 (scr_any _ _ hb0 hb1) (by rw [hd]; exact hc) hF
      · obtain ⟨hch, -, -⟩ := hc.2.2.1 i (by omega) (by omega)
        obtain ⟨hq1, hq2, hq3, -⟩ := hX.2.2.1 i (by omega) (by omega)
        have hout : outc S (i + 1) = inn S (outc S i) i ((outc S i).2.2.1 i / 64) ((outc S i).2.2.1 i % 64) 4 := if_pos (by omega)
        have hin := chI_inn hB hX (i := (i : Int)) (by omega) (by omega) hq3 (fl := (outc S i).2.2.1 i % 64) (by omega) (by omega)
        obtain ⟨cs, hcs⟩ : ∃ cs, cs = (outc S i).2.2.1 i := ⟨_, rfl⟩
        rw [← hcs] at hch hq1 hq3 hout hin
        have hk6 := sk_choice hq3
        have hkl := kd_lt (S := S) (v := cs / 64) (by rw [hk6]; decide)
        have g := hB.2 _ hkl.1 hkl.2.1
        obtain ⟨ga, gb, gc⟩ := g.r6 hk6
        have gn := g.n0
        have inl : ∀ (nj : Nat) (j : Nat) (fl1 ch1 : Int) (V1 F1 Re1 Ch1 Fm1 By1 Ie1 Ef1 Eb1 : FN) (h1 : AH) (hj : (j : Int) ≤ cOpts S (cs / 64)) (w0 : h1.2 q = some (mobj q S.1 rd fi co ah se tl ps fa fl1 ch1 hx)) (w1 : h1.2 (q + 1) = some (kA 0 348 B)) (w7 : h1.2 (q + 7) = some (kA 0 3 V1)) (w8 : h1.2 (q + 8) = some (kA 0 3 F1)) (w9 : h1.2 (q + 9) = some (kA 2 1984 Re1)) (w10 : h1.2 (q + 10) = some (kA 0 1984 Ch1)) (w11 : h1.2 (q + 11) = some (kA 0 1984 Fm1)) (w12 : h1.2 (q + 12) = some (kA 0 1984 By1)) (w13 : h1.2 (q + 13) = some (kA 2 13 Ie1)) (w14 : h1.2 (q + 14) = some (kA 0 13 Ef1)) (w15 : h1.2 (q + 15) = some (kA 0 13 Eb1)) (hb0 : 0 ≤ fl1) (hb1 : fl1 ≤ 63) (hF : Fp h h1 q [0, 7, 8, 9, 10, 11, 12, 13, 14, 15]) (hc2 : cR (inn S (outc S i) i (cs / 64) (cs % 64) j) ch1 Re1 Ch1 Fm1 By1 Ie1 Ef1 Eb1) (hn2 : 4 - j < nj), AW m6_charts (d + 4) (mC m6_charts, mS m6_charts) 84 [some (vR q), some (vI i), some (vI (cs / 64)), some (vI j)] [] h1 R := by
          intro nj
          induction nj with
          | zero => intro j fl1 ch1  V1 F1 Re1 Ch1 Fm1 By1 Ie1 Ef1 Eb1  h1  hj w0 w1 w7 w8 w9 w10 w11 w12 w13 w14 w15 hb0 hb1 hF hc2 hn2; omega
          | succ nj ihj =>
            intro j fl1 ch1  V1 F1 Re1 Ch1 Fm1 By1 Ie1 Ef1 Eb1  h1  hj w0 w1 w7 w8 w9 w10 w11 w12 w13 w14 w15 hb0 hb1 hF hc2 hn2
            have hcm := (hin j).2
            have hch2 : Ch1 i = cs := by
              rw [(hc2.2.2.1 i (by omega) (by have := hcm.1; omega)).1, hcm.2 i (by omega) (by omega)]; exact hcs.symm
            refine A.il4_3 d6_charts_84 ?_
            refine A.al4_0 d6_charts_85 ?_
            refine A.il4_2 d6_charts_86 ?_
            refine A.iconst d6_charts_87 ?_
            refine A.v2 d6_charts_88 (s6_of w0 w1 hB (by omega) (by omega) (by omega) (by omega) (kS ?_)) (hc := w0)
            refine A.ic_ge d6_charts_91 (fun c91 => ?_) (fun c91 => ?_)
            · refine A.ii4_1 d6_charts_147 ?_
              refine A.goto d6_charts_150 ?_
              refine ih (i + 1) _ _ _ _ _ _ _ _ _ _ _ _ _ _ (by omega) w0 w1 w7 w8 w9 w10 w11 w12 w13 w14 w15 hb0 hb1 hF (by rw [hout, inn_more (k := j) (fun t ht z => by have := z.2.1; omega) 4 (by omega)]; exact hc2) (by omega)
            · have ro := gc j (by omega) (by omega)
              refine A.al4_0 d6_charts_94 ?_
              refine A.il4_2 d6_charts_95 ?_
              refine A.il4_3 d6_charts_96 ?_
              refine A.al4_0 d6_charts_97 ?_
              refine A.getf d6_charts_98 ?_ (hc := w0)
              refine A.il4_1 d6_charts_101 ?_
              refine A.iald d6_charts_102 ?_ (hc := w10)
              rw [hch2]
              refine A.bipush d6_charts_103 ?_
              refine A.irem d6_charts_105 ?_
              refine A.v3 d6_charts_106 (s6_isLocked w0 w1 hB (by omega) (by omega) hk6 (by omega) (by omega) (kS ?_)) (hc := w0)
              refine A.bz_ne d6_charts_109 (fun c109 => ?_) (fun c109 => ?_)
              · refine A.ii4_3 d6_charts_141 ?_
                refine A.goto d6_charts_144 ?_
                first
                  | exact ihj (j + 1) _ _ _ _ _ _ _ _ _ _ _ _ (by omega) w0 w1 w7 w8 w9 w10 w11 w12 w13 w14 w15 hbf.1 hbf.2 ((hF.trans (Fp.of0 f122)).trans f138) (by rw [show inn S (outc S i) i (cs / 64) (cs % 64) (j + 1) = _ from pif_t (Classical.not_not.1 c109)]; exact cr138) (by omega)
                  | exact ihj (j + 1) _ _ _ _ _ _ _ _ _ _ _ _ (by omega) w0 w1 w7 w8 w9 w10 w11 w12 w13 w14 w15 hb0 hb1 hF (by rw [show inn S (outc S i) i (cs / 64) (cs % 64) (j + 1) = _ from pif_f c109]; exact hc2) (by omega)
              · refine A.al4_0 d6_charts_112 ?_
                refine A.al4_0 d6_charts_113 ?_
                refine A.getf d6_charts_114 ?_ (hc := w0)
                refine A.il4_1 d6_charts_117 ?_
                refine A.iald d6_charts_118 ?_ (hc := w10)
                rw [hch2]
                refine A.bipush d6_charts_119 ?_
                refine A.irem d6_charts_121 ?_
                refine A.putf d6_charts_122 (fun h122 e122 f122 => ?_) (hc := w0) (hk := blt_ok rfl)
                first | (have w0 := (f122.2 _ (by omega)).trans w0) | (have w0 := e122)
                first | (have w1 := (f122.2 _ (by omega)).trans w1) | (have w1 := e122)
                first | (have w7 := (f122.2 _ (by omega)).trans w7) | (have w7 := e122)
                first | (have w8 := (f122.2 _ (by omega)).trans w8) | (have w8 := e122)
                first | (have w9 := (f122.2 _ (by omega)).trans w9) | (have w9 := e122)
                first | (have w10 := (f122.2 _ (by omega)).trans w10) | (have w10 := e122)
                first | (have w11 := (f122.2 _ (by omega)).trans w11) | (have w11 := e122)
                first | (have w12 := (f122.2 _ (by omega)).trans w12) | (have w12 := e122)
                first | (have w13 := (f122.2 _ (by omega)).trans w13) | (have w13 := e122)
                first | (have w14 := (f122.2 _ (by omega)).trans w14) | (have w14 := e122)
                first | (have w15 := (f122.2 _ (by omega)).trans w15) | (have w15 := e122)
                refine A.al4_0 d6_charts_125 ?_
                refine A.al4_0 d6_charts_126 ?_
                refine A.il4_2 d6_charts_127 ?_
                refine A.iconst d6_charts_128 ?_
                refine A.iconst d6_charts_129 ?_
                refine A.il4_3 d6_charts_130 ?_
                refine A.imul d6_charts_131 ?_
                refine A.iadd d6_charts_132 ?_
                refine A.v2 d6_charts_133 (s6_of w0 w1 hB (by omega) (by omega) (by omega) (by omega) (kS ?_)) (hc := w0)
                rw [show B (12 * (cs / 64) + (4 + 2 * (j : Int))) = cPart S (cs / 64) j 0 by rw [show 12 * (cs / 64) + (4 + 2 * (j : Int)) = 12 * (cs / 64) + 4 + 2 * j by omega]; exact ro.1]
                have ro3 := ro.2.2.1
                refine A.il4_1 d6_charts_136 ?_
                refine A.il4_3 d6_charts_137 ?_
                refine A.v3 d6_charts_138 (s6_follows w0 w1 hB w7 w8 w9 w10 w11 w12 w13 w14 w15 (scr_any _ _ (by omega : 0 ≤ cs % 64) (by omega : cs % 64 ≤ 63)) (by omega) (by omega) (hin j).1 hc2 (Or.inr ⟨by omega, by have := (hin j).2.1; omega⟩) (fun h138 fl138 ch138 V138 F138x Re138 Ch138 Fm138 By138 Ie138 Ef138 Eb138 m138 e138 y138_7 y138_8 y138_9 y138_10 y138_11 y138_12 y138_13 y138_14 y138_15 sr138 cr138 f138 => kN ?_)) (hc := w0)
                have w0 := e138
                have w7 := y138_7
                have w8 := y138_8
                have w9 := y138_9
                have w10 := y138_10
                have w11 := y138_11
                have w12 := y138_12
                have w13 := y138_13
                have w14 := y138_14
                have w15 := y138_15
                have w1 := f138.get w1
                have hbf := sr138.2.1
                refine A.ii4_3 d6_charts_141 ?_
                refine A.goto d6_charts_144 ?_
                first
                  | exact ihj (j + 1) _ _ _ _ _ _ _ _ _ _ _ _ (by omega) w0 w1 w7 w8 w9 w10 w11 w12 w13 w14 w15 hbf.1 hbf.2 ((hF.trans (Fp.of0 f122)).trans f138) (by rw [show inn S (outc S i) i (cs / 64) (cs % 64) (j + 1) = _ from pif_t (Classical.not_not.1 c109)]; exact cr138) (by omega)
                  | exact ihj (j + 1) _ _ _ _ _ _ _ _ _ _ _ _ (by omega) w0 w1 w7 w8 w9 w10 w11 w12 w13 w14 w15 hb0 hb1 hF (by rw [show inn S (outc S i) i (cs / 64) (cs % 64) (j + 1) = _ from pif_f c109]; exact hc2) (by omega)
        refine A.al4_0 d6_charts_72 ?_
        refine A.getf d6_charts_73 ?_ (hc := w0)
        refine A.il4_1 d6_charts_76 ?_
        refine A.iald d6_charts_77 ?_ (hc := w10)
        rw [hch]
        refine A.bipush d6_charts_78 ?_
        refine A.idiv d6_charts_80 ?_
        refine A.is4_2 d6_charts_81 ?_
        refine A.iconst d6_charts_82 ?_
        refine A.is4_3 d6_charts_83 ?_
        exact inl 5 0 _ _ _ _ _ _ _ _ _ _ _ _ (by omega) w0 w1 w7 w8 w9 w10 w11 w12 w13 w14 w15 hb0 hb1 hF hc (by omega)
  have cl2 : ∀ (nf : Nat) (i : Nat) (x2 x3 : Option AV) (fl1 ch1 : Int) (V1 F1 Re1 Ch1 Fm1 By1 Ie1 Ef1 Eb1 : FN) (h1 : AH) (hi : i ≤ 13) (w0 : h1.2 q = some (mobj q S.1 rd fi co ah se tl ps fa fl1 ch1 hx)) (w1 : h1.2 (q + 1) = some (kA 0 348 B)) (w7 : h1.2 (q + 7) = some (kA 0 3 V1)) (w8 : h1.2 (q + 8) = some (kA 0 3 F1)) (w9 : h1.2 (q + 9) = some (kA 2 1984 Re1)) (w10 : h1.2 (q + 10) = some (kA 0 1984 Ch1)) (w11 : h1.2 (q + 11) = some (kA 0 1984 Fm1)) (w12 : h1.2 (q + 12) = some (kA 0 1984 By1)) (w13 : h1.2 (q + 13) = some (kA 2 13 Ie1)) (w14 : h1.2 (q + 14) = some (kA 0 13 Ef1)) (w15 : h1.2 (q + 15) = some (kA 0 13 Eb1)) (hF : Fp h h1 q [0, 7, 8, 9, 10, 11, 12, 13, 14, 15]) (y0 : ∀ s : Int, 0 ≤ s → s < 1984 → Re1 s = 0) (y : ∀ s : Int, 0 ≤ s → s < i → Ie1 s = 0) (hn : 13 - i < nf), AW m6_charts (d + 4) (mC m6_charts, mS m6_charts) 24 [some (vR q), some (vI i), x2, x3] [] h1 R := by
    intro nf
    induction nf with
    | zero => intro i  x2 x3  fl1 ch1  V1 F1 Re1 Ch1 Fm1 By1 Ie1 Ef1 Eb1  h1  hi w0 w1 w7 w8 w9 w10 w11 w12 w13 w14 w15 hF y0 y hn; omega
    | succ nf ih =>
      intro i  x2 x3  fl1 ch1  V1 F1 Re1 Ch1 Fm1 By1 Ie1 Ef1 Eb1  h1  hi w0 w1 w7 w8 w9 w10 w11 w12 w13 w14 w15 hF y0 y hn
      refine A.il4_1 d6_charts_24 ?_
      refine A.bipush d6_charts_25 ?_
      refine A.ic_ge d6_charts_27 (fun c27 => ?_) (fun c27 => ?_)
      · refine A.al4_0 d6_charts_43 ?_
        refine A.iconst d6_charts_44 ?_
        refine A.putf d6_charts_45 (fun h45 e45 f45 => ?_) (hc := w0) (hk := blt_ok rfl)
        first | (have w0 := (f45.2 _ (by omega)).trans w0) | (have w0 := e45)
        first | (have w1 := (f45.2 _ (by omega)).trans w1) | (have w1 := e45)
        first | (have w7 := (f45.2 _ (by omega)).trans w7) | (have w7 := e45)
        first | (have w8 := (f45.2 _ (by omega)).trans w8) | (have w8 := e45)
        first | (have w9 := (f45.2 _ (by omega)).trans w9) | (have w9 := e45)
        first | (have w10 := (f45.2 _ (by omega)).trans w10) | (have w10 := e45)
        first | (have w11 := (f45.2 _ (by omega)).trans w11) | (have w11 := e45)
        first | (have w12 := (f45.2 _ (by omega)).trans w12) | (have w12 := e45)
        first | (have w13 := (f45.2 _ (by omega)).trans w13) | (have w13 := e45)
        first | (have w14 := (f45.2 _ (by omega)).trans w14) | (have w14 := e45)
        first | (have w15 := (f45.2 _ (by omega)).trans w15) | (have w15 := e45)
        refine A.al4_0 d6_charts_48 ?_
        refine A.iconst d6_charts_49 ?_
        refine A.putf d6_charts_50 (fun h50 e50 f50 => ?_) (hc := w0) (hk := blt_ok rfl)
        first | (have w0 := (f50.2 _ (by omega)).trans w0) | (have w0 := e50)
        first | (have w1 := (f50.2 _ (by omega)).trans w1) | (have w1 := e50)
        first | (have w7 := (f50.2 _ (by omega)).trans w7) | (have w7 := e50)
        first | (have w8 := (f50.2 _ (by omega)).trans w8) | (have w8 := e50)
        first | (have w9 := (f50.2 _ (by omega)).trans w9) | (have w9 := e50)
        first | (have w10 := (f50.2 _ (by omega)).trans w10) | (have w10 := e50)
        first | (have w11 := (f50.2 _ (by omega)).trans w11) | (have w11 := e50)
        first | (have w12 := (f50.2 _ (by omega)).trans w12) | (have w12 := e50)
        first | (have w13 := (f50.2 _ (by omega)).trans w13) | (have w13 := e50)
        first | (have w14 := (f50.2 _ (by omega)).trans w14) | (have w14 := e50)
        first | (have w15 := (f50.2 _ (by omega)).trans w15) | (have w15 := e50)
        have hc0 := cR_0 (Ch := Ch1) (Fm := Fm1) (By := By1) (Ef := Ef1) (Eb := Eb1) y0 (fun e e0 e1 => y e e0 (by omega))
        refine A.al4_0 d6_charts_53 ?_
        refine A.iconst d6_charts_54 ?_
        refine A.bipush d6_charts_55 ?_
        refine A.bipush d6_charts_57 ?_
        refine A.v3 d6_charts_59 (s6_follows w0 w1 hB w7 w8 w9 w10 w11 w12 w13 w14 w15 (scr_any _ _ (Int.le_refl 0) (by decide)) (by omega) (by omega) (chI_0 S) hc0 (Or.inl rfl) (fun h59 fl59 ch59 V59 F59x Re59 Ch59 Fm59 By59 Ie59 Ef59 Eb59 m59 e59 y59_7 y59_8 y59_9 y59_10 y59_11 y59_12 y59_13 y59_14 y59_15 sr59 cr59 f59 => kN ?_)) (hc := w0)
        have w0 := e59
        have w7 := y59_7
        have w8 := y59_8
        have w9 := y59_9
        have w10 := y59_10
        have w11 := y59_11
        have w12 := y59_12
        have w13 := y59_13
        have w14 := y59_14
        have w15 := y59_15
        have w1 := f59.get w1
        have hbf := sr59.2.1
        refine A.iconst d6_charts_62 ?_
        refine A.is4_1 d6_charts_63 ?_
        exact outer 1985 0 _ _ _ _ _ _ _ _ _ _ _ _ _ _ (by omega) w0 w1 w7 w8 w9 w10 w11 w12 w13 w14 w15 hbf.1 hbf.2 (((hF.trans (Fp.of0 f45)).trans (Fp.of0 f50)).trans f59) cr59 (by omega)
      · refine A.al4_0 d6_charts_30 ?_
        refine A.getf d6_charts_31 ?_ (hc := w0)
        refine A.il4_1 d6_charts_34 ?_
        refine A.iconst d6_charts_35 ?_
        refine A.bast d6_charts_36 (fun h36 e36 f36 => ?_) (hc := w13)
        first | (have w0 := (f36.2 _ (by omega)).trans w0) | (have w0 := e36)
        first | (have w1 := (f36.2 _ (by omega)).trans w1) | (have w1 := e36)
        first | (have w7 := (f36.2 _ (by omega)).trans w7) | (have w7 := e36)
        first | (have w8 := (f36.2 _ (by omega)).trans w8) | (have w8 := e36)
        first | (have w9 := (f36.2 _ (by omega)).trans w9) | (have w9 := e36)
        first | (have w10 := (f36.2 _ (by omega)).trans w10) | (have w10 := e36)
        first | (have w11 := (f36.2 _ (by omega)).trans w11) | (have w11 := e36)
        first | (have w12 := (f36.2 _ (by omega)).trans w12) | (have w12 := e36)
        first | (have w13 := (f36.2 _ (by omega)).trans w13) | (have w13 := e36)
        first | (have w14 := (f36.2 _ (by omega)).trans w14) | (have w14 := e36)
        first | (have w15 := (f36.2 _ (by omega)).trans w15) | (have w15 := e36)
        refine A.ii4_1 d6_charts_37 ?_
        refine A.goto d6_charts_40 ?_
        refine ih (i + 1) _ _ _ _ _ _ _ _ _ _ _ _ _ _ (by omega) w0 w1 w7 w8 w9 w10 w11 w12 w13 w14 w15 (hF.trans (Fp.of f36)) y0 (fun s s0 s1 => ?_) (by omega)
        by_cases e : s = i
        · exact fs_at e
        · exact (fs_off e).trans (y s s0 (by omega))
  have cl1 : ∀ (nf : Nat) (i : Nat) (x2 x3 : Option AV) (fl1 ch1 : Int) (V1 F1 Re1 Ch1 Fm1 By1 Ie1 Ef1 Eb1 : FN) (h1 : AH) (hi : i ≤ 1984) (w0 : h1.2 q = some (mobj q S.1 rd fi co ah se tl ps fa fl1 ch1 hx)) (w1 : h1.2 (q + 1) = some (kA 0 348 B)) (w7 : h1.2 (q + 7) = some (kA 0 3 V1)) (w8 : h1.2 (q + 8) = some (kA 0 3 F1)) (w9 : h1.2 (q + 9) = some (kA 2 1984 Re1)) (w10 : h1.2 (q + 10) = some (kA 0 1984 Ch1)) (w11 : h1.2 (q + 11) = some (kA 0 1984 Fm1)) (w12 : h1.2 (q + 12) = some (kA 0 1984 By1)) (w13 : h1.2 (q + 13) = some (kA 2 13 Ie1)) (w14 : h1.2 (q + 14) = some (kA 0 13 Ef1)) (w15 : h1.2 (q + 15) = some (kA 0 13 Eb1)) (hF : Fp h h1 q [0, 7, 8, 9, 10, 11, 12, 13, 14, 15]) (y : ∀ s : Int, 0 ≤ s → s < i → Re1 s = 0) (hn : 1984 - i < nf), AW m6_charts (d + 4) (mC m6_charts, mS m6_charts) 2 [some (vR q), some (vI i), x2, x3] [] h1 R := by
    intro nf
    induction nf with
    | zero => intro i  x2 x3  fl1 ch1  V1 F1 Re1 Ch1 Fm1 By1 Ie1 Ef1 Eb1  h1  hi w0 w1 w7 w8 w9 w10 w11 w12 w13 w14 w15 hF y hn; omega
    | succ nf ih =>
      intro i  x2 x3  fl1 ch1  V1 F1 Re1 Ch1 Fm1 By1 Ie1 Ef1 Eb1  h1  hi w0 w1 w7 w8 w9 w10 w11 w12 w13 w14 w15 hF y hn
      refine A.il4_1 d6_charts_2 ?_
      refine A.sipush d6_charts_3 ?_
      refine A.ic_ge d6_charts_6 (fun c6 => ?_) (fun c6 => ?_)
      · refine A.iconst d6_charts_22 ?_
        refine A.is4_1 d6_charts_23 ?_
        exact cl2 14 0 _ _ _ _ _ _ _ _ _ _ _ _ _ _ (by omega) w0 w1 w7 w8 w9 w10 w11 w12 w13 w14 w15 hF (fun s s0 s1 => y s s0 (by omega)) (fun s s0 s1 => by omega) (by omega)
      · refine A.al4_0 d6_charts_9 ?_
        refine A.getf d6_charts_10 ?_ (hc := w0)
        refine A.il4_1 d6_charts_13 ?_
        refine A.iconst d6_charts_14 ?_
        refine A.bast d6_charts_15 (fun h15 e15 f15 => ?_) (hc := w9)
        first | (have w0 := (f15.2 _ (by omega)).trans w0) | (have w0 := e15)
        first | (have w1 := (f15.2 _ (by omega)).trans w1) | (have w1 := e15)
        first | (have w7 := (f15.2 _ (by omega)).trans w7) | (have w7 := e15)
        first | (have w8 := (f15.2 _ (by omega)).trans w8) | (have w8 := e15)
        first | (have w9 := (f15.2 _ (by omega)).trans w9) | (have w9 := e15)
        first | (have w10 := (f15.2 _ (by omega)).trans w10) | (have w10 := e15)
        first | (have w11 := (f15.2 _ (by omega)).trans w11) | (have w11 := e15)
        first | (have w12 := (f15.2 _ (by omega)).trans w12) | (have w12 := e15)
        first | (have w13 := (f15.2 _ (by omega)).trans w13) | (have w13 := e15)
        first | (have w14 := (f15.2 _ (by omega)).trans w14) | (have w14 := e15)
        first | (have w15 := (f15.2 _ (by omega)).trans w15) | (have w15 := e15)
        refine A.ii4_1 d6_charts_16 ?_
        refine A.goto d6_charts_19 ?_
        refine ih (i + 1) _ _ _ _ _ _ _ _ _ _ _ _ _ _ (by omega) w0 w1 w7 w8 w9 w10 w11 w12 w13 w14 w15 (hF.trans (Fp.of f15)) (fun s s0 s1 => ?_) (by omega)
        by_cases e : s = i
        · exact fs_at e
        · exact (fs_off e).trans (y s s0 (by omega))
  refine A.iconst d6_charts_0 ?_
  refine A.is4_1 d6_charts_1 ?_
  exact cl1 1985 0 _ _ _ _ _ _ _ _ _ _ _ _ _ _ (by omega) w0 w1 w7 w8 w9 w10 w11 w12 w13 w14 w15 Fp.rfl (fun s s0 s1 => by omega) (by omega)
