/-! ===== the class as a whole: what it tells ===== -/
set_option maxRecDepth 100000 in
set_option maxHeartbeats 4000000 in
theorem s5_isLineShown {d : Nat} {h : AH} {R : RP} {x : Nat} {S : SC} {P : PL} {T : TX} {B : FN} (hp : pAt h x S P T) (hB : rScr B S) (hb : plI P) (hT : txI T) (k : R (some (vI (bi (cSK S (nowM P).1 = 0)))) h) : AM m5_isLineShown (d + 3) h [vR x] R := by
  refine AM.of (L := [some (vR x)]) ok_5_isLineShown (by decide) (fun G => Nat.le_of_ble_eq_true rfl) rfl ?_
  have hP0 := hp
  obtain ⟨sr, dr, a, n, Sd, re, wc, Cc, Lc, Lo, Wa, Es, m, hsd, x0, hX, hS, hD, hI, hJ, hPl, k0, k1, k2, k3, k4, k5, hm, hC⟩ := hp
  have hPL := hPl
  obtain ⟨g, sg, p0, p1, p2, p3, p4, hg, hsg, hFm, hV⟩ := hPl
  have hb0 := hb
  obtain ⟨⟨hp0, hpk, hk20⟩, hsb, hvb, hn0, hn1⟩ := hb
  obtain ⟨-, -, hnw⟩ := hFm.1 P.2.1 hp0 (by omega)
  have hnow : moAt h (P.2.2.1 P.2.1) (nowM P) := hnw
  have hB1 := hB.1
  have hT1 := hT.1
  have hT2 := hT.2.1
  refine A.al1_0 d5_isLineShown_0 ?_
  refine A.getf d5_isLineShown_1 ?_ (hc := x0)
  refine A.al1_0 d5_isLineShown_4 ?_
  refine A.getf d5_isLineShown_5 ?_ (hc := x0)
  refine A.v0 d5_isLineShown_8 (s2_now p0 rfl rfl p1 (hg P.2.1 hp0 (by omega)) hp0 (by omega) (kS ?_)) (hc := p0)
  refine A.getf d5_isLineShown_11 ?_ (hc := hnow.1)
  refine A.v1 d5_isLineShown_14 (s3_shownKind hS (kS ?_)) (hc := hS.1)
  refine A.if_ne d5_isLineShown_17 (fun c17 => ?_) (fun c17 => ?_)
  · refine A.iconst d5_isLineShown_24 ?_
    refine A.zret d5_isLineShown_25 ?_
    first | exact rT k (by omega) | exact rF k (by omega)
  · refine A.iconst d5_isLineShown_20 ?_
    refine A.goto d5_isLineShown_21 ?_
    refine A.zret d5_isLineShown_25 ?_
    first | exact rT k (by omega) | exact rF k (by omega)
set_option maxRecDepth 100000 in
set_option maxHeartbeats 4000000 in
theorem s5_shown {d : Nat} {h : AH} {R : RP} {w : Int} {x : Nat} {S : SC} {P : PL} {T : TX} {B : FN} (hp : pAt h x S P T) (hB : rScr B S) (hb : plI P) (hT : txI T) (k : R (some (vI (shRR S (nowM P) w))) h) : AM m5_shown (d + 4) h [vR x, vI w] R := by
  refine AM.of (L := [some (vR x), some (vI w), none]) ok_5_shown (by decide) (fun G => Nat.le_of_ble_eq_true rfl) rfl ?_
  have hP0 := hp
  obtain ⟨sr, dr, a, n, Sd, re, wc, Cc, Lc, Lo, Wa, Es, m, hsd, x0, hX, hS, hD, hI, hJ, hPl, k0, k1, k2, k3, k4, k5, hm, hC⟩ := hp
  have hPL := hPl
  obtain ⟨g, sg, p0, p1, p2, p3, p4, hg, hsg, hFm, hV⟩ := hPl
  have hb0 := hb
  obtain ⟨⟨hp0, hpk, hk20⟩, hsb, hvb, hn0, hn1⟩ := hb
  obtain ⟨-, -, hnw⟩ := hFm.1 P.2.1 hp0 (by omega)
  have hnow : moAt h (P.2.2.1 P.2.1) (nowM P) := hnw
  have hB1 := hB.1
  have hT1 := hT.1
  have hT2 := hT.2.1
  refine A.al3_0 d5_shown_0 ?_
  refine A.getf d5_shown_1 ?_ (hc := x0)
  refine A.v0 d5_shown_4 (s2_now p0 rfl rfl p1 (hg P.2.1 hp0 (by omega)) hp0 (by omega) (kS ?_)) (hc := p0)
  refine A.as3_2 d5_shown_7 ?_
  refine A.il3_1 d5_shown_8 ?_
  refine A.tsw6 d5_shown_9 (fun c9 => ?_) (fun c9 => ?_) (fun c9 => ?_) (fun c9 => ?_) (fun c9 => ?_) (fun c9 => ?_) (fun c9 => ?_)
  · refine A.al3_2 d5_shown_48 ?_
    refine A.getf d5_shown_49 ?_ (hc := hnow.1)
    refine A.iret d5_shown_52 ?_
    exact rI k (by unfold shRR; rw [if_pos (by omega)])
  · refine A.al3_0 d5_shown_53 ?_
    refine A.getf d5_shown_54 ?_ (hc := x0)
    refine A.al3_2 d5_shown_57 ?_
    refine A.getf d5_shown_58 ?_ (hc := hnow.1)
    refine A.v1 d5_shown_61 (s3_shownKind hS (kS ?_)) (hc := hS.1)
    refine A.iret d5_shown_64 ?_
    exact rI k (by unfold shRR; rw [if_neg (by omega)]; rw [if_pos (by omega)])
  · refine A.al3_0 d5_shown_65 ?_
    refine A.v0 d5_shown_66 (s5_isLineShown hP0 hB hb0 hT (kS ?_)) (hc := x0)
    refine A.bz_eq d5_shown_69 (fun c69 => ?_) (fun c69 => ?_)
    · refine A.bipush d5_shown_87 ?_
      refine A.iret d5_shown_89 ?_
      first | exact rI k (by unfold shRR; rw [if_neg (by omega)]; rw [if_neg (by omega)]; rw [if_pos (by omega), if_pos (by omega)]) | exact rI k (by unfold shRR; rw [if_neg (by omega)]; rw [if_neg (by omega)]; rw [if_pos (by omega), if_neg (by omega)])
    · refine A.al3_0 d5_shown_72 ?_
      refine A.getf d5_shown_73 ?_ (hc := x0)
      refine A.al3_2 d5_shown_76 ?_
      refine A.getf d5_shown_77 ?_ (hc := hnow.1)
      refine A.iconst d5_shown_80 ?_
      refine A.v2 d5_shown_81 (s3_numberOf hS (kS ?_)) (hc := hS.1)
      refine A.goto d5_shown_84 ?_
      refine A.iret d5_shown_89 ?_
      first | exact rI k (by unfold shRR; rw [if_neg (by omega)]; rw [if_neg (by omega)]; rw [if_pos (by omega), if_pos (by omega)]) | exact rI k (by unfold shRR; rw [if_neg (by omega)]; rw [if_neg (by omega)]; rw [if_pos (by omega), if_neg (by omega)])
  · refine A.al3_0 d5_shown_90 ?_
    refine A.getf d5_shown_91 ?_ (hc := x0)
    refine A.al3_2 d5_shown_94 ?_
    refine A.getf d5_shown_95 ?_ (hc := hnow.1)
    refine A.v1 d5_shown_98 (s3_shownNumber hS (kS ?_)) (hc := hS.1)
    refine A.iret d5_shown_101 ?_
    exact rI k (by unfold shRR; rw [if_neg (by omega)]; rw [if_neg (by omega)]; rw [if_neg (by omega)]; rw [if_pos (by omega)])
  · refine A.al3_2 d5_shown_102 ?_
    refine A.getf d5_shown_103 ?_ (hc := hnow.1)
    refine A.iret d5_shown_106 ?_
    exact rI k (by unfold shRR; rw [if_neg (by omega)]; rw [if_neg (by omega)]; rw [if_neg (by omega)]; rw [if_neg (by omega)]; rw [if_pos (by omega)])
  · refine A.al3_0 d5_shown_107 ?_
    refine A.getf d5_shown_108 ?_ (hc := x0)
    refine A.al3_2 d5_shown_111 ?_
    refine A.getf d5_shown_112 ?_ (hc := hnow.1)
    refine A.al3_2 d5_shown_115 ?_
    refine A.getf d5_shown_116 ?_ (hc := hnow.1)
    refine A.v2 d5_shown_119 (s3_openOptions hS (kS ?_)) (hc := hS.1)
    refine A.iret d5_shown_122 ?_
    exact rI k (by unfold shRR; rw [if_neg (by omega)]; rw [if_neg (by omega)]; rw [if_neg (by omega)]; rw [if_neg (by omega)]; rw [if_neg (by omega)]; rw [if_pos (by omega)])
  · refine A.bipush d5_shown_123 ?_
    refine A.iret d5_shown_125 ?_
    exact rI k (by unfold shRR; rw [if_neg (by omega)]; rw [if_neg (by omega)]; rw [if_neg (by omega)]; rw [if_neg (by omega)]; rw [if_neg (by omega)]; rw [if_neg (by omega)])
set_option maxRecDepth 100000 in
set_option maxHeartbeats 4000000 in
theorem s5_portrait {d : Nat} {h : AH} {R : RP} {p f : Int} {x : Nat} {S : SC} {P : PL} {T : TX} {B : FN} (hp : pAt h x S P T) (hB : rScr B S) (hb : plI P) (hT : txI T) (k : R (some (vI (poRR (nowM P) p f))) h) : AM m5_portrait (d + 1) h [vR x, vI p, vI f] R := by
  refine AM.of (L := [some (vR x), some (vI p), some (vI f), none]) ok_5_portrait (by decide) (fun G => Nat.le_of_ble_eq_true rfl) rfl ?_
  have hP0 := hp
  obtain ⟨sr, dr, a, n, Sd, re, wc, Cc, Lc, Lo, Wa, Es, m, hsd, x0, hX, hS, hD, hI, hJ, hPl, k0, k1, k2, k3, k4, k5, hm, hC⟩ := hp
  have hPL := hPl
  obtain ⟨g, sg, p0, p1, p2, p3, p4, hg, hsg, hFm, hV⟩ := hPl
  have hb0 := hb
  obtain ⟨⟨hp0, hpk, hk20⟩, hsb, hvb, hn0, hn1⟩ := hb
  obtain ⟨-, -, hnw⟩ := hFm.1 P.2.1 hp0 (by omega)
  have hnow : moAt h (P.2.2.1 P.2.1) (nowM P) := hnw
  have hB1 := hB.1
  have hT1 := hT.1
  have hT2 := hT.2.1
  refine A.il4_1 d5_portrait_0 ?_
  refine A.if_lt d5_portrait_1 (fun c1 => ?_) (fun c1 => ?_)
  · refine A.bipush d5_portrait_9 ?_
    refine A.iret d5_portrait_11 ?_
    exact rI k (by unfold poRR; rw [if_neg (by omega)])
  · refine A.il4_1 d5_portrait_4 ?_
    refine A.iconst d5_portrait_5 ?_
    refine A.ic_lt d5_portrait_6 (fun c6 => ?_) (fun c6 => ?_)
    · refine A.al4_0 d5_portrait_12 ?_
      refine A.getf d5_portrait_13 ?_ (hc := x0)
      refine A.v0 d5_portrait_16 (s2_now p0 rfl rfl p1 (hg P.2.1 hp0 (by omega)) hp0 (by omega) (kS ?_)) (hc := p0)
      refine A.as4_3 d5_portrait_19 ?_
      refine A.il4_2 d5_portrait_20 ?_
      refine A.if_eq d5_portrait_21 (fun c21 => ?_) (fun c21 => ?_)
      · refine A.al4_3 d5_portrait_33 ?_
        refine A.getf d5_portrait_34 ?_ (hc := hnow.1)
        refine A.il4_1 d5_portrait_37 ?_
        refine A.iald d5_portrait_38 ?_ (hc := hnow.2.1)
        refine A.iret d5_portrait_39 ?_
        first | exact rI k (by unfold poRR; rw [if_pos (by omega), if_pos (by omega)]) | exact rI k (by unfold poRR; rw [if_pos (by omega), if_neg (by omega)])
      · refine A.al4_3 d5_portrait_24 ?_
        refine A.getf d5_portrait_25 ?_ (hc := hnow.1)
        refine A.il4_1 d5_portrait_28 ?_
        refine A.iald d5_portrait_29 ?_ (hc := hnow.2.2)
        refine A.goto d5_portrait_30 ?_
        refine A.iret d5_portrait_39 ?_
        first | exact rI k (by unfold poRR; rw [if_pos (by omega), if_pos (by omega)]) | exact rI k (by unfold poRR; rw [if_pos (by omega), if_neg (by omega)])
    · refine A.bipush d5_portrait_9 ?_
      refine A.iret d5_portrait_11 ?_
      exact rI k (by unfold poRR; rw [if_neg (by omega)])
set_option maxRecDepth 100000 in
set_option maxHeartbeats 4000000 in
theorem s5_count {d : Nat} {h : AH} {R : RP} {w : Int} {x : Nat} {S : SC} {P : PL} {T : TX} {B : FN} (hp : pAt h x S P T) (hB : rScr B S) (hb : plI P) (hT : txI T) (k : R (some (vI (coRR S P T w))) h) : AM m5_count (d + 2) h [vR x, vI w] R := by
  refine AM.of (L := [some (vR x), some (vI w)]) ok_5_count (by decide) (fun G => Nat.le_of_ble_eq_true rfl) rfl ?_
  have hP0 := hp
  obtain ⟨sr, dr, a, n, Sd, re, wc, Cc, Lc, Lo, Wa, Es, m, hsd, x0, hX, hS, hD, hI, hJ, hPl, k0, k1, k2, k3, k4, k5, hm, hC⟩ := hp
  have hPL := hPl
  obtain ⟨g, sg, p0, p1, p2, p3, p4, hg, hsg, hFm, hV⟩ := hPl
  have hb0 := hb
  obtain ⟨⟨hp0, hpk, hk20⟩, hsb, hvb, hn0, hn1⟩ := hb
  obtain ⟨-, -, hnw⟩ := hFm.1 P.2.1 hp0 (by omega)
  have hnow : moAt h (P.2.2.1 P.2.1) (nowM P) := hnw
  have hB1 := hB.1
  have hT1 := hT.1
  have hT2 := hT.2.1
  refine A.il2_1 d5_count_0 ?_
  refine A.tsw7 d5_count_1 (fun c1 => ?_) (fun c1 => ?_) (fun c1 => ?_) (fun c1 => ?_) (fun c1 => ?_) (fun c1 => ?_) (fun c1 => ?_) (fun c1 => ?_)
  · refine A.al2_0 d5_count_44 ?_
    refine A.getf d5_count_45 ?_ (hc := x0)
    refine A.getf d5_count_48 ?_ (hc := hS.1)
    refine A.iret d5_count_51 ?_
    exact rI k (by unfold coRR; rw [if_pos (by omega)])
  · refine A.al2_0 d5_count_52 ?_
    refine A.getf d5_count_53 ?_ (hc := x0)
    refine A.getf d5_count_56 ?_ (hc := p0)
    refine A.iconst d5_count_59 ?_
    refine A.iadd d5_count_60 ?_
    refine A.iret d5_count_61 ?_
    exact rI k (by unfold coRR; rw [if_neg (by omega)]; rw [if_pos (by omega)])
  · refine A.al2_0 d5_count_62 ?_
    refine A.getf d5_count_63 ?_ (hc := x0)
    refine A.getf d5_count_66 ?_ (hc := p0)
    refine A.al2_0 d5_count_69 ?_
    refine A.getf d5_count_70 ?_ (hc := x0)
    refine A.getf d5_count_73 ?_ (hc := p0)
    refine A.isub d5_count_76 ?_
    refine A.iconst d5_count_77 ?_
    refine A.isub d5_count_78 ?_
    refine A.iret d5_count_79 ?_
    exact rI k (by unfold coRR; rw [if_neg (by omega)]; rw [if_neg (by omega)]; rw [if_pos (by omega)])
  · refine A.al2_0 d5_count_80 ?_
    refine A.getf d5_count_81 ?_ (hc := x0)
    refine A.v0 d5_count_84 (s2_seenNodes hPL (kS ?_)) (hc := p0)
    refine A.iret d5_count_87 ?_
    exact rI k (by unfold coRR; rw [if_neg (by omega)]; rw [if_neg (by omega)]; rw [if_neg (by omega)]; rw [if_pos (by omega)])
  · refine A.al2_0 d5_count_88 ?_
    refine A.getf d5_count_89 ?_ (hc := x0)
    refine A.v0 d5_count_92 (s2_usedSlots hPL (kS ?_)) (hc := p0)
    refine A.iret d5_count_95 ?_
    exact rI k (by unfold coRR; rw [if_neg (by omega)]; rw [if_neg (by omega)]; rw [if_neg (by omega)]; rw [if_neg (by omega)]; rw [if_pos (by omega)])
  · refine A.al2_0 d5_count_96 ?_
    refine A.getf d5_count_97 ?_ (hc := x0)
    refine A.v0 d5_count_100 (s0_reachedEnds k0 k1 k2 k3 k4 k5 hC hB (kS ?_)) (hc := k0)
    refine A.iret d5_count_103 ?_
    exact rI k (by unfold coRR; rw [if_neg (by omega)]; rw [if_neg (by omega)]; rw [if_neg (by omega)]; rw [if_neg (by omega)]; rw [if_neg (by omega)]; rw [if_pos (by omega)])
  · refine A.al2_0 d5_count_104 ?_
    refine A.getf d5_count_105 ?_ (hc := x0)
    refine A.getf d5_count_108 ?_ (hc := hX.1)
    refine A.iret d5_count_111 ?_
    exact rI k (by unfold coRR; rw [if_neg (by omega)]; rw [if_neg (by omega)]; rw [if_neg (by omega)]; rw [if_neg (by omega)]; rw [if_neg (by omega)]; rw [if_neg (by omega)]; rw [if_pos (by omega)])
  · refine A.bipush d5_count_112 ?_
    refine A.iret d5_count_114 ?_
    exact rI k (by unfold coRR; rw [if_neg (by omega)]; rw [if_neg (by omega)]; rw [if_neg (by omega)]; rw [if_neg (by omega)]; rw [if_neg (by omega)]; rw [if_neg (by omega)]; rw [if_neg (by omega)])
