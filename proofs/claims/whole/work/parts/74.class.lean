/-! ===== the class as a whole: its digest ===== -/
theorem mx_is (h : Int64) (v : Int) : 31 * h + (Int32.ofInt v).toInt64 = mx h v := rfl
theorem dOps_s (S : SC) (v : Int) (n : Nat) (h : Int64) : dOps S v (n + 1) h = mx (mxl (opRR S v n) 3 (dOps S v n h)) (usRR S v n) := rfl
theorem dNds_s (S : SC) (n : Nat) (h : Int64) : dNds S (n + 1) h = dNd S n (dNds S n h) := rfl
theorem dNds_0 (S : SC) (h : Int64) : dNds S 0 h = h := rfl
theorem dPo_0 (m : MO) (h : Int64) : dPo m 0 h = h := rfl
theorem dPo_s (m : MO) (n : Nat) (h : Int64) : dPo m (n + 1) h = mx (mx (dPo m n h) (poRR m n 0)) (poRR m n 1) := rfl
set_option maxRecDepth 100000 in
set_option maxHeartbeats 4000000 in
theorem s5_digestNode {d : Nat} {h : AH} {R : RP} {v : Int} {b : Int64} {x : Nat} {S : SC} {P : PL} {T : TX} {B : FN} (hp : pAt h x S P T) (hB : rScr B S) (hb : plI P) (hT : txI T) (v0 : 0 ≤ v) (v1 : v < S.1) (k : R (some (vL (dNd S v b))) h) : AM m5_digestNode (d + 5) h [vR x, vL b, vI v] R := by
  refine AM.of (L := [some (vR x), some (vL b), none, some (vI v), none, none, none, none]) ok_5_digestNode (by decide) (fun G => Nat.le_of_ble_eq_true rfl) rfl ?_
  have hP0 := hp
  obtain ⟨sr, dr, a, n, Sd, re, wc, Cc, Lc, Lo, Wa, Es, m, hsd, x0, hX, hS, hD, hI, hJ, hPl, k0, k1, k2, k3, k4, k5, hm, hC⟩ := hp
  have hPL := hPl
  obtain ⟨g, sg, p0, p1, p2, p3, p4, hg, hsg, hFm, hV⟩ := hPl
  have hb0 := hb
  obtain ⟨⟨hp0, hpk, hk20⟩, hsb, hvb, hn0, hn1⟩ := hb
  obtain ⟨-, -, hnw⟩ := hFm.1 P.2.1 hp0 (by omega)
  have hnow : moAt h (P.2.2.1 P.2.1) (nowM P) := hnw
  have hB1 := hB.1
  have hT1 := hT.1
  have hT2 := hT.2.1
  have hco := cO_rng hB v0 v1
  have inner : ∀ (nf : Nat) (c : Nat) (w : Nat) (hcc : (c : Int) < cOpts S v) (hi : w ≤ 3) (kk : AW m5_digestNode (d + 5) (mC m5_digestNode, mS m5_digestNode) 38 [some (vR x), some (vL b), none, some (vI v), some (vL (dOps S v (c + 1) (mxl (noRR S v) 4 b))), none, some (vI ((c : Int) + 1)), some (vI 3)] [] h R) (hn : 3 - w < nf), AW m5_digestNode (d + 5) (mC m5_digestNode, mS m5_digestNode) 54 [some (vR x), some (vL b), none, some (vI v), some (vL (mxl (opRR S v c) w (dOps S v c (mxl (noRR S v) 4 b)))), none, some (vI c), some (vI w)] [] h R := by
    intro nf
    induction nf with
    | zero => intro c  w  hcc hi kk hn; omega
    | succ nf ih =>
      intro c  w  hcc hi kk hn
      refine A.il8_7 d5_digestNode_54 ?_
      refine A.iconst d5_digestNode_56 ?_
      refine A.ic_ge d5_digestNode_57 (fun c57 => ?_) (fun c57 => ?_)
      · have ew : w = 3 := by omega
        subst ew
        refine A.ldc2 d5_digestNode_85 ?_
        refine A.ll8_4 d5_digestNode_88 ?_
        refine A.lmul d5_digestNode_90 ?_
        refine A.al8_0 d5_digestNode_91 ?_
        refine A.il8_3 d5_digestNode_92 ?_
        refine A.il8_6 d5_digestNode_93 ?_
        refine A.v2 d5_digestNode_95 (s5_usable hP0 hB hb0 hT (kS ?_)) (hc := x0)
        refine A.i2l d5_digestNode_98 ?_
        refine A.ladd d5_digestNode_99 ?_
        rw [mx_is, ← dOps_s]
        refine A.ls8_4 d5_digestNode_100 ?_
        refine A.ii8_6 d5_digestNode_102 ?_
        refine A.goto d5_digestNode_105 ?_
        exact kk
      · refine A.ldc2 d5_digestNode_60 ?_
        refine A.ll8_4 d5_digestNode_63 ?_
        refine A.lmul d5_digestNode_65 ?_
        refine A.al8_0 d5_digestNode_66 ?_
        refine A.il8_3 d5_digestNode_67 ?_
        refine A.il8_6 d5_digestNode_68 ?_
        refine A.il8_7 d5_digestNode_70 ?_
        refine A.v3 d5_digestNode_72 (s5_option hP0 hB hb0 hT (kS ?_)) (hc := x0)
        refine A.i2l d5_digestNode_75 ?_
        refine A.ladd d5_digestNode_76 ?_
        rw [mx_is, show mx (mxl (opRR S v c) w (dOps S v c (mxl (noRR S v) 4 b))) (opRR S v c w) = mxl (opRR S v c) (w + 1) (dOps S v c (mxl (noRR S v) 4 b)) from (mxl_s _ _ _).symm]
        refine A.ls8_4 d5_digestNode_77 ?_
        refine A.ii8_7 d5_digestNode_79 ?_
        refine A.goto d5_digestNode_82 ?_
        exact ih c (w + 1) hcc (by omega) kk (by omega)
  have l2 : ∀ (nf : Nat) (c : Nat) (x7 : Option AV) (hi : (c : Int) ≤ cOpts S v) (hn : (cOpts S v).toNat - c < nf), AW m5_digestNode (d + 5) (mC m5_digestNode, mS m5_digestNode) 38 [some (vR x), some (vL b), none, some (vI v), some (vL (dOps S v c (mxl (noRR S v) 4 b))), none, some (vI c), x7] [] h R := by
    intro nf
    induction nf with
    | zero => intro c  x7  hi hn; omega
    | succ nf ih =>
      intro c  x7  hi hn
      refine A.il8_6 d5_digestNode_38 ?_
      refine A.al8_0 d5_digestNode_40 ?_
      refine A.getf d5_digestNode_41 ?_ (hc := x0)
      refine A.il8_3 d5_digestNode_44 ?_
      refine A.v1 d5_digestNode_45 (s3_optionsOf hS (kS ?_)) (hc := hS.1)
      refine A.ic_ge d5_digestNode_48 (fun c48 => ?_) (fun c48 => ?_)
      · refine A.ll8_4 d5_digestNode_108 ?_
        refine A.lret d5_digestNode_110 ?_
        have ec : c = (cOpts S v).toNat := by omega
        subst ec
        exact k
      · refine A.iconst d5_digestNode_51 ?_
        refine A.is8_7 d5_digestNode_52 ?_
        exact inner 4 c 0 (by omega) (by omega) (ih (c + 1) _ (by omega) (by omega)) (by omega)
  have l1 : ∀ (nf : Nat) (c : Nat) (hi : c ≤ 4) (hn : 4 - c < nf), AW m5_digestNode (d + 5) (mC m5_digestNode, mS m5_digestNode) 6 [some (vR x), some (vL b), none, some (vI v), some (vL (mxl (noRR S v) c b)), none, some (vI c), none] [] h R := by
    intro nf
    induction nf with
    | zero => intro c  hi hn; omega
    | succ nf ih =>
      intro c  hi hn
      refine A.il8_6 d5_digestNode_6 ?_
      refine A.iconst d5_digestNode_8 ?_
      refine A.ic_gt d5_digestNode_9 (fun c9 => ?_) (fun c9 => ?_)
      · have ec : c = 4 := by omega
        subst ec
        refine A.iconst d5_digestNode_35 ?_
        refine A.is8_6 d5_digestNode_36 ?_
        exact l2 ((cOpts S v).toNat + 1) 0 _ (by omega) (by omega)
      · refine A.ldc2 d5_digestNode_12 ?_
        refine A.ll8_4 d5_digestNode_15 ?_
        refine A.lmul d5_digestNode_17 ?_
        refine A.al8_0 d5_digestNode_18 ?_
        refine A.il8_3 d5_digestNode_19 ?_
        refine A.il8_6 d5_digestNode_20 ?_
        refine A.v2 d5_digestNode_22 (s5_node hP0 hB hb0 hT (kS ?_)) (hc := x0)
        refine A.i2l d5_digestNode_25 ?_
        refine A.ladd d5_digestNode_26 ?_
        rw [mx_is, show mx (mxl (noRR S v) c b) (noRR S v c) = mxl (noRR S v) (c + 1) b from (mxl_s _ _ _).symm]
        refine A.ls8_4 d5_digestNode_27 ?_
        refine A.ii8_6 d5_digestNode_29 ?_
        refine A.goto d5_digestNode_32 ?_
        exact ih (c + 1) (by omega) (by omega)
  refine A.ll8_1 d5_digestNode_0 ?_
  refine A.ls8_4 d5_digestNode_1 ?_
  refine A.iconst d5_digestNode_3 ?_
  refine A.is8_6 d5_digestNode_4 ?_
  exact l1 5 0 (by omega) (by omega)
set_option maxRecDepth 100000 in
set_option maxHeartbeats 4000000 in
theorem s5_digest {d : Nat} {h : AH} {R : RP} {x : Nat} {S : SC} {P : PL} {T : TX} {B : FN} (hp : pAt h x S P T) (hB : rScr B S) (hb : plI P) (hT : txI T) (k : R (some (vL (dgRR S P T))) h) : AM m5_digest (d + 6) h [vR x] R := by
  refine AM.of (L := [some (vR x), none, none, none]) ok_5_digest (by decide) (fun G => Nat.le_of_ble_eq_true rfl) rfl ?_
  have hP0 := hp
  obtain ⟨sr, dr, a, n, Sd, re, wc, Cc, Lc, Lo, Wa, Es, m, hsd, x0, hX, hS, hD, hI, hJ, hPl, k0, k1, k2, k3, k4, k5, hm, hC⟩ := hp
  have hPL := hPl
  obtain ⟨g, sg, p0, p1, p2, p3, p4, hg, hsg, hFm, hV⟩ := hPl
  have hb0 := hb
  obtain ⟨⟨hp0, hpk, hk20⟩, hsb, hvb, hn0, hn1⟩ := hb
  obtain ⟨-, -, hnw⟩ := hFm.1 P.2.1 hp0 (by omega)
  have hnow : moAt h (P.2.2.1 P.2.1) (nowM P) := hnw
  have hB1 := hB.1
  have hT1 := hT.1
  have hT2 := hT.2.1
  have lg : ∀ (nf : Nat) (c : Nat) (hi : (c : Int) ≤ T.1) (hn : T.1.toNat - c < nf), AW m5_digest (d + 6) (mC m5_digest, mS m5_digest) 170 [some (vR x), some (vL (mxl T.2 c (mxl (stI S) 12 (mx (dNds S S.1.toNat (dPo (nowM P) 3 (mxl (shRR S (nowM P)) 6 (mxl (coRR S P T) 7 163)))) (siRR S (-1)))))), none, some (vI c)] [] h R := by
    intro nf
    induction nf with
    | zero => intro c  hi hn; omega
    | succ nf ih =>
      intro c  hi hn
      refine A.il4_3 d5_digest_170 ?_
      refine A.al4_0 d5_digest_171 ?_
      refine A.getf d5_digest_172 ?_ (hc := x0)
      refine A.getf d5_digest_175 ?_ (hc := hX.1)
      refine A.ic_ge d5_digest_178 (fun c178 => ?_) (fun c178 => ?_)
      · refine A.ll4_1 d5_digest_203 ?_
        refine A.lret d5_digest_204 ?_
        have ec : c = T.1.toNat := by omega
        subst ec
        exact k
      · refine A.ldc2 d5_digest_181 ?_
        refine A.ll4_1 d5_digest_184 ?_
        refine A.lmul d5_digest_185 ?_
        refine A.al4_0 d5_digest_186 ?_
        refine A.getf d5_digest_187 ?_ (hc := x0)
        refine A.il4_3 d5_digest_190 ?_
        refine A.v1 d5_digest_191 (s4_byteAt hX hT (kS ?_)) (hc := hX.1)
        rw [show hv T c = T.2 c from if_pos ⟨by omega, by omega⟩]
        refine A.i2l d5_digest_194 ?_
        refine A.ladd d5_digest_195 ?_
        rw [mx_is, show mx (mxl (T.2) c (mxl (stI S) 12 (mx (dNds S S.1.toNat (dPo (nowM P) 3 (mxl (shRR S (nowM P)) 6 (mxl (coRR S P T) 7 163)))) (siRR S (-1))))) (T.2 c) = mxl (T.2) (c + 1) (mxl (stI S) 12 (mx (dNds S S.1.toNat (dPo (nowM P) 3 (mxl (shRR S (nowM P)) 6 (mxl (coRR S P T) 7 163)))) (siRR S (-1)))) from (mxl_s _ _ _).symm]
        refine A.ls4_1 d5_digest_196 ?_
        refine A.ii4_3 d5_digest_197 ?_
        refine A.goto d5_digest_200 ?_
        exact ih (c + 1) (by omega) (by omega)
  have lf : ∀ (nf : Nat) (c : Nat) (hi : c ≤ 12) (hn : 12 - c < nf), AW m5_digest (d + 6) (mC m5_digest, mS m5_digest) 140 [some (vR x), some (vL (mxl (stI S) c (mx (dNds S S.1.toNat (dPo (nowM P) 3 (mxl (shRR S (nowM P)) 6 (mxl (coRR S P T) 7 163)))) (siRR S (-1))))), none, some (vI c)] [] h R := by
    intro nf
    induction nf with
    | zero => intro c  hi hn; omega
    | succ nf ih =>
      intro c  hi hn
      refine A.il4_3 d5_digest_140 ?_
      refine A.bipush d5_digest_141 ?_
      refine A.ic_ge d5_digest_143 (fun c143 => ?_) (fun c143 => ?_)
      · have ec : c = 12 := by omega
        subst ec
        refine A.iconst d5_digest_168 ?_
        refine A.is4_3 d5_digest_169 ?_
        have g := lg (T.1.toNat + 1) 0 (by omega) (by omega)
        rw [mxl_0] at g
        exact g
      · refine A.ldc2 d5_digest_146 ?_
        refine A.ll4_1 d5_digest_149 ?_
        refine A.lmul d5_digest_150 ?_
        refine A.al4_0 d5_digest_151 ?_
        refine A.getf d5_digest_152 ?_ (hc := x0)
        refine A.il4_3 d5_digest_155 ?_
        refine A.v1 d5_digest_156 (s0_wayLength k0 k1 k2 k3 k4 k5 hC (by omega) (by omega) (kS ?_)) (hc := k0)
        rw [show stR (drawn S) (edI c) = stI S c from rfl]
        refine A.i2l d5_digest_159 ?_
        refine A.ladd d5_digest_160 ?_
        rw [mx_is, show mx (mxl (stI S) c (mx (dNds S S.1.toNat (dPo (nowM P) 3 (mxl (shRR S (nowM P)) 6 (mxl (coRR S P T) 7 163)))) (siRR S (-1)))) (stI S c) = mxl (stI S) (c + 1) (mx (dNds S S.1.toNat (dPo (nowM P) 3 (mxl (shRR S (nowM P)) 6 (mxl (coRR S P T) 7 163)))) (siRR S (-1))) from (mxl_s _ _ _).symm]
        refine A.ls4_1 d5_digest_161 ?_
        refine A.ii4_3 d5_digest_162 ?_
        refine A.goto d5_digest_165 ?_
        exact ih (c + 1) (by omega) (by omega)
  have le : ∀ (nf : Nat) (c : Nat) (hi : (c : Int) ≤ S.1) (hn : S.1.toNat - c < nf), AW m5_digest (d + 6) (mC m5_digest, mS m5_digest) 101 [some (vR x), some (vL (dNds S c (dPo (nowM P) 3 (mxl (shRR S (nowM P)) 6 (mxl (coRR S P T) 7 163))))), none, some (vI c)] [] h R := by
    intro nf
    induction nf with
    | zero => intro c  hi hn; omega
    | succ nf ih =>
      intro c  hi hn
      refine A.il4_3 d5_digest_101 ?_
      refine A.al4_0 d5_digest_102 ?_
      refine A.getf d5_digest_103 ?_ (hc := x0)
      refine A.getf d5_digest_106 ?_ (hc := hS.1)
      refine A.ic_ge d5_digest_109 (fun c109 => ?_) (fun c109 => ?_)
      · have ec : c = S.1.toNat := by omega
        subst ec
        refine A.ldc2 d5_digest_125 ?_
        refine A.ll4_1 d5_digest_128 ?_
        refine A.lmul d5_digest_129 ?_
        refine A.al4_0 d5_digest_130 ?_
        refine A.iconst d5_digest_131 ?_
        refine A.v1 d5_digest_132 (s5_situations hP0 hB hb0 hT (kS ?_)) (hc := x0)
        refine A.i2l d5_digest_135 ?_
        refine A.ladd d5_digest_136 ?_
        rw [mx_is]
        refine A.ls4_1 d5_digest_137 ?_
        refine A.iconst d5_digest_138 ?_
        refine A.is4_3 d5_digest_139 ?_
        have g := lf 13 0 (by omega) (by omega)
        rw [mxl_0] at g
        exact g
      · refine A.al4_0 d5_digest_112 ?_
        refine A.ll4_1 d5_digest_113 ?_
        refine A.il4_3 d5_digest_114 ?_
        refine A.v2 d5_digest_115 (s5_digestNode hP0 hB hb0 hT (by omega) (by omega) (kS ?_)) (hc := x0)
        rw [← dNds_s]
        refine A.ls4_1 d5_digest_118 ?_
        refine A.ii4_3 d5_digest_119 ?_
        refine A.goto d5_digest_122 ?_
        exact ih (c + 1) (by omega) (by omega)
  have lc : ∀ (nf : Nat) (c : Nat) (hi : c ≤ 3) (hn : 3 - c < nf), AW m5_digest (d + 6) (mC m5_digest, mS m5_digest) 60 [some (vR x), some (vL (dPo (nowM P) c (mxl (shRR S (nowM P)) 6 (mxl (coRR S P T) 7 163)))), none, some (vI c)] [] h R := by
    intro nf
    induction nf with
    | zero => intro c  hi hn; omega
    | succ nf ih =>
      intro c  hi hn
      refine A.il4_3 d5_digest_60 ?_
      refine A.iconst d5_digest_61 ?_
      refine A.ic_ge d5_digest_62 (fun c62 => ?_) (fun c62 => ?_)
      · have ec : c = 3 := by omega
        subst ec
        refine A.iconst d5_digest_99 ?_
        refine A.is4_3 d5_digest_100 ?_
        have g := le (S.1.toNat + 1) 0 (by omega) (by omega)
        rw [dNds_0] at g
        exact g
      · refine A.ldc2 d5_digest_65 ?_
        refine A.ll4_1 d5_digest_68 ?_
        refine A.lmul d5_digest_69 ?_
        refine A.al4_0 d5_digest_70 ?_
        refine A.il4_3 d5_digest_71 ?_
        refine A.iconst d5_digest_72 ?_
        refine A.v2 d5_digest_73 (s5_portrait hP0 hB hb0 hT (kS ?_)) (hc := x0)
        refine A.i2l d5_digest_76 ?_
        refine A.ladd d5_digest_77 ?_
        rw [mx_is]
        refine A.ls4_1 d5_digest_78 ?_
        refine A.ldc2 d5_digest_79 ?_
        refine A.ll4_1 d5_digest_82 ?_
        refine A.lmul d5_digest_83 ?_
        refine A.al4_0 d5_digest_84 ?_
        refine A.il4_3 d5_digest_85 ?_
        refine A.iconst d5_digest_86 ?_
        refine A.v2 d5_digest_87 (s5_portrait hP0 hB hb0 hT (kS ?_)) (hc := x0)
        refine A.i2l d5_digest_90 ?_
        refine A.ladd d5_digest_91 ?_
        rw [mx_is, ← dPo_s]
        refine A.ls4_1 d5_digest_92 ?_
        refine A.ii4_3 d5_digest_93 ?_
        refine A.goto d5_digest_96 ?_
        exact ih (c + 1) (by omega) (by omega)
  have lb : ∀ (nf : Nat) (c : Nat) (hi : c ≤ 6) (hn : 6 - c < nf), AW m5_digest (d + 6) (mC m5_digest, mS m5_digest) 33 [some (vR x), some (vL (mxl (shRR S (nowM P)) c (mxl (coRR S P T) 7 163))), none, some (vI c)] [] h R := by
    intro nf
    induction nf with
    | zero => intro c  hi hn; omega
    | succ nf ih =>
      intro c  hi hn
      refine A.il4_3 d5_digest_33 ?_
      refine A.bipush d5_digest_34 ?_
      refine A.ic_ge d5_digest_36 (fun c36 => ?_) (fun c36 => ?_)
      · have ec : c = 6 := by omega
        subst ec
        refine A.iconst d5_digest_58 ?_
        refine A.is4_3 d5_digest_59 ?_
        have g := lc 4 0 (by omega) (by omega)
        rw [dPo_0] at g
        exact g
      · refine A.ldc2 d5_digest_39 ?_
        refine A.ll4_1 d5_digest_42 ?_
        refine A.lmul d5_digest_43 ?_
        refine A.al4_0 d5_digest_44 ?_
        refine A.il4_3 d5_digest_45 ?_
        refine A.v1 d5_digest_46 (s5_shown hP0 hB hb0 hT (kS ?_)) (hc := x0)
        refine A.i2l d5_digest_49 ?_
        refine A.ladd d5_digest_50 ?_
        rw [mx_is, show mx (mxl (shRR S (nowM P)) c (mxl (coRR S P T) 7 163)) (shRR S (nowM P) c) = mxl (shRR S (nowM P)) (c + 1) (mxl (coRR S P T) 7 163) from (mxl_s _ _ _).symm]
        refine A.ls4_1 d5_digest_51 ?_
        refine A.ii4_3 d5_digest_52 ?_
        refine A.goto d5_digest_55 ?_
        exact ih (c + 1) (by omega) (by omega)
  have la : ∀ (nf : Nat) (c : Nat) (hi : c ≤ 7) (hn : 7 - c < nf), AW m5_digest (d + 6) (mC m5_digest, mS m5_digest) 6 [some (vR x), some (vL (mxl (coRR S P T) c 163)), none, some (vI c)] [] h R := by
    intro nf
    induction nf with
    | zero => intro c  hi hn; omega
    | succ nf ih =>
      intro c  hi hn
      refine A.il4_3 d5_digest_6 ?_
      refine A.bipush d5_digest_7 ?_
      refine A.ic_ge d5_digest_9 (fun c9 => ?_) (fun c9 => ?_)
      · have ec : c = 7 := by omega
        subst ec
        refine A.iconst d5_digest_31 ?_
        refine A.is4_3 d5_digest_32 ?_
        have g := lb 7 0 (by omega) (by omega)
        rw [mxl_0] at g
        exact g
      · refine A.ldc2 d5_digest_12 ?_
        refine A.ll4_1 d5_digest_15 ?_
        refine A.lmul d5_digest_16 ?_
        refine A.al4_0 d5_digest_17 ?_
        refine A.il4_3 d5_digest_18 ?_
        refine A.v1 d5_digest_19 (s5_count hP0 hB hb0 hT (kS ?_)) (hc := x0)
        refine A.i2l d5_digest_22 ?_
        refine A.ladd d5_digest_23 ?_
        rw [mx_is, show mx (mxl (coRR S P T) c (163)) (coRR S P T c) = mxl (coRR S P T) (c + 1) (163) from (mxl_s _ _ _).symm]
        refine A.ls4_1 d5_digest_24 ?_
        refine A.ii4_3 d5_digest_25 ?_
        refine A.goto d5_digest_28 ?_
        exact ih (c + 1) (by omega) (by omega)
  refine A.ldc2 d5_digest_0 ?_
  refine A.ls4_1 d5_digest_3 ?_
  refine A.iconst d5_digest_4 ?_
  refine A.is4_3 d5_digest_5 ?_
  have g := la 8 0 (by omega) (by omega)
  rw [mxl_0] at g
  exact g
