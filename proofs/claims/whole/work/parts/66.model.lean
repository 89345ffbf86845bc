/-! ===== the reference: its digest ===== -/
theorem cO_rng {S : SC} {B : Int → Int} {v : Int} (hB : rScr B S) (h0 : 0 ≤ v) (h1 : v < S.1) : 0 ≤ cOpts S v ∧ cOpts S v ≤ 4 := by
  have g := hB.2 v h0 h1
  by_cases c : cKind S v = 6
  · exact (g.r6 c).2.1
  · rw [g.ro c]; decide
set_option maxRecDepth 100000 in
set_option maxHeartbeats 4000000 in
theorem s6_mixesNode {d : Nat} {h : AH} {R : RP} {v : Int} {q : Nat} {S : SC} {P : PL} {T : TX} {rd fi co ah se ps fa fl ch : Int} {hx : Int64} {B Rd Mo Sv Iv V F Re Ch Fm By Ie Ef Eb : FN} (w0 : h.2 q = some (mobj q S.1 rd fi co ah se T.1 ps fa fl ch hx)) (w1 : h.2 (q + 1) = some (kA 0 348 B)) (w2 : h.2 (q + 2) = some (kA 0 348 Rd)) (w3 : h.2 (q + 3) = some (kA 0 160 Mo)) (w4 : h.2 (q + 4) = some (kA 0 24 Sv)) (w5 : h.2 (q + 5) = some (kA 2 3 Iv)) (w6 : h.2 (q + 6) = some (kA 0 100 T.2)) (w7 : h.2 (q + 7) = some (kA 0 3 V)) (w8 : h.2 (q + 8) = some (kA 0 3 F)) (w9 : h.2 (q + 9) = some (kA 2 1984 Re)) (w10 : h.2 (q + 10) = some (kA 0 1984 Ch)) (w11 : h.2 (q + 11) = some (kA 0 1984 Fm)) (w12 : h.2 (q + 12) = some (kA 0 1984 By)) (w13 : h.2 (q + 13) = some (kA 2 13 Ie)) (w14 : h.2 (q + 14) = some (kA 0 13 Ef)) (w15 : h.2 (q + 15) = some (kA 0 13 Eb)) (hB : rScr B S) (hP : plR S P fi co ah se Mo Sv Iv) (hT : txI T) (hc : cR (drawn S) ch Re Ch Fm By Ie Ef Eb) (v0 : 0 ≤ v) (v1 : v < S.1) (k : ∀ h', h'.2 q = some (mobj q S.1 rd fi co ah se T.1 ps fa fl ch (dNd S v hx)) → Fr h h' q 1 → R none h') : AM m6_mixesNode (d + 4) h [vR q, vI v] R := by
  refine AM.of (L := [some (vR q), some (vI v), none, none]) ok_6_mixesNode (by decide) (fun G => Nat.le_of_ble_eq_true rfl) rfl ?_
  have hB1 := hB.1
  have hco := cO_rng hB v0 v1
  have g := hB.2 v v0 v1
  have hX : chI S (drawn S) := chI_out hB 1984
  have inner : ∀ (nf : Nat) (c : Nat) (w : Nat) (h1 : AH) (hk6 : cKind S v = 6) (hcc : (c : Int) < cOpts S v) (hi : w ≤ 3) (w0 : h1.2 q = some (mobj q S.1 rd fi co ah se T.1 ps fa fl ch (mxl (opRR S v c) w (dOps S v c (mxl (noRR S v) 4 hx))))) (hF : Fr h h1 q 1) (kk : ∀ h2, h2.2 q = some (mobj q S.1 rd fi co ah se T.1 ps fa fl ch (dOps S v (c + 1) (mxl (noRR S v) 4 hx))) → Fr h h2 q 1 → AW m6_mixesNode (d + 4) (mC m6_mixesNode, mS m6_mixesNode) 25 [some (vR q), some (vI v), some (vI ((c : Int) + 1)), some (vI 3)] [] h2 R) (hn : 3 - w < nf), AW m6_mixesNode (d + 4) (mC m6_mixesNode, mS m6_mixesNode) 48 [some (vR q), some (vI v), some (vI c), some (vI w)] [] h1 R := by
    intro nf
    induction nf with
    | zero => intro c  w  h1  hk6 hcc hi w0 hF kk hn; omega
    | succ nf ih =>
      intro c  w  h1  hk6 hcc hi w0 hF kk hn
      have w1 := hF.get w1 (by omega)
      have w2 := hF.get w2 (by omega)
      have w3 := hF.get w3 (by omega)
      have w4 := hF.get w4 (by omega)
      have w5 := hF.get w5 (by omega)
      have w6 := hF.get w6 (by omega)
      have w7 := hF.get w7 (by omega)
      have w8 := hF.get w8 (by omega)
      have w9 := hF.get w9 (by omega)
      have w10 := hF.get w10 (by omega)
      have w11 := hF.get w11 (by omega)
      have w12 := hF.get w12 (by omega)
      have w13 := hF.get w13 (by omega)
      have w14 := hF.get w14 (by omega)
      have w15 := hF.get w15 (by omega)
      have hM2 : mAt h1 q S P T := ⟨_, _, _, _, _, _, _, _, _, _, _, _, _, _, _, _, _, _, _, _, _, _, _, _, w0, w1, w2, w3, w4, w5, w6, w7, w8, w9, w10, w11, w12, w13, w14, w15, hB, hP, hT⟩
      refine A.il4_3 d6_mixesNode_48 ?_
      refine A.iconst d6_mixesNode_49 ?_
      refine A.ic_ge d6_mixesNode_50 (fun c50 => ?_) (fun c50 => ?_)
      · have ew : w = 3 := by omega
        subst ew
        refine A.al4_0 d6_mixesNode_70 ?_
        refine A.al4_0 d6_mixesNode_71 ?_
        refine A.il4_1 d6_mixesNode_72 ?_
        refine A.il4_2 d6_mixesNode_73 ?_
        refine A.v2 d6_mixesNode_74 (s6_isUsable w0 w1 hB w9 w10 w11 w12 w13 w14 w15 hX hc hk6 (by omega) (by omega) (kS ?_)) (hc := w0)
        rw [show bi (usR S (drawn S) v c) = usRR S v c from (if_pos ⟨hk6, by omega, hcc⟩ : usRR S v c = _).symm]
        refine A.v1 d6_mixesNode_77 (s6_mixes w0 (fun h77 e77 f77 => kN ?_)) (hc := w0)
        refine A.ii4_2 d6_mixesNode_80 ?_
        refine A.goto d6_mixesNode_83 ?_
        exact kk _ e77 (hF.then f77 (by omega) (by omega))
      · refine A.al4_0 d6_mixesNode_53 ?_
        refine A.al4_0 d6_mixesNode_54 ?_
        refine A.il4_1 d6_mixesNode_55 ?_
        refine A.il4_2 d6_mixesNode_56 ?_
        refine A.il4_3 d6_mixesNode_57 ?_
        refine A.v3 d6_mixesNode_58 (s6_option hM2 (kS ?_)) (hc := w0)
        refine A.v1 d6_mixesNode_61 (s6_mixes w0 (fun h61 e61 f61 => kN ?_)) (hc := w0)
        refine A.ii4_3 d6_mixesNode_64 ?_
        refine A.goto d6_mixesNode_67 ?_
        exact ih c (w + 1) _ hk6 hcc (by omega) e61 (hF.then f61 (by omega) (by omega)) kk (by omega)
  have outer : ∀ (nf : Nat) (c : Nat) (x3 : Option AV) (h1 : AH) (hi : (c : Int) ≤ cOpts S v) (w0 : h1.2 q = some (mobj q S.1 rd fi co ah se T.1 ps fa fl ch (dOps S v c (mxl (noRR S v) 4 hx)))) (hF : Fr h h1 q 1) (hn : (cOpts S v).toNat - c < nf), AW m6_mixesNode (d + 4) (mC m6_mixesNode, mS m6_mixesNode) 25 [some (vR q), some (vI v), some (vI c), x3] [] h1 R := by
    intro nf
    induction nf with
    | zero => intro c  x3  h1  hi w0 hF hn; omega
    | succ nf ih =>
      intro c  x3  h1  hi w0 hF hn
      have w1 := hF.get w1 (by omega)
      have w2 := hF.get w2 (by omega)
      have w3 := hF.get w3 (by omega)
      have w4 := hF.get w4 (by omega)
      have w5 := hF.get w5 (by omega)
      have w6 := hF.get w6 (by omega)
      have w7 := hF.get w7 (by omega)
      have w8 := hF.get w8 (by omega)
      have w9 := hF.get w9 (by omega)
      have w10 := hF.get w10 (by omega)
      have w11 := hF.get w11 (by omega)
      have w12 := hF.get w12 (by omega)
      have w13 := hF.get w13 (by omega)
      have w14 := hF.get w14 (by omega)
      have w15 := hF.get w15 (by omega)
      refine A.al4_0 d6_mixesNode_25 ?_
      refine A.il4_1 d6_mixesNode_26 ?_
      refine A.iconst d6_mixesNode_27 ?_
      refine A.v2 d6_mixesNode_28 (s6_of w0 w1 hB (by omega) (by omega) (by omega) (by omega) (kS ?_)) (hc := w0)
      rw [Int.add_zero, g.kd]
      refine A.bipush d6_mixesNode_31 ?_
      refine A.ic_ne d6_mixesNode_33 (fun c33 => ?_) (fun c33 => ?_)
      · refine A.vret d6_mixesNode_86 ?_
        have ec : c = (cOpts S v).toNat := by
          first
            | (have z := g.ro (by omega); omega)
            | (have z := g.r6 (by omega); omega)
        subst ec
        exact k _ w0 hF
      · refine A.il4_2 d6_mixesNode_36 ?_
        refine A.al4_0 d6_mixesNode_37 ?_
        refine A.il4_1 d6_mixesNode_38 ?_
        refine A.iconst d6_mixesNode_39 ?_
        refine A.v2 d6_mixesNode_40 (s6_of w0 w1 hB (by omega) (by omega) (by omega) (by omega) (kS ?_)) (hc := w0)
        rw [g.n0]
        refine A.ic_ge d6_mixesNode_43 (fun c43 => ?_) (fun c43 => ?_)
        · refine A.vret d6_mixesNode_86 ?_
          have ec : c = (cOpts S v).toNat := by
            first
              | (have z := g.ro (by omega); omega)
              | (have z := g.r6 (by omega); omega)
          subst ec
          exact k _ w0 hF
        · have ga := (g.r6 c33).1
          refine A.iconst d6_mixesNode_46 ?_
          refine A.is4_3 d6_mixesNode_47 ?_
          exact inner 4 c 0 _ c33 (by omega) (by omega) w0 hF (fun h2 e2 f2 => ih (c + 1) _ _ (by omega) e2 f2 (by omega)) (by omega)
  have l1 : ∀ (nf : Nat) (c : Nat) (h1 : AH) (hi : c ≤ 4) (w0 : h1.2 q = some (mobj q S.1 rd fi co ah se T.1 ps fa fl ch (mxl (noRR S v) c hx))) (hF : Fr h h1 q 1) (hn : 4 - c < nf), AW m6_mixesNode (d + 4) (mC m6_mixesNode, mS m6_mixesNode) 2 [some (vR q), some (vI v), some (vI c), none] [] h1 R := by
    intro nf
    induction nf with
    | zero => intro c  h1  hi w0 hF hn; omega
    | succ nf ih =>
      intro c  h1  hi w0 hF hn
      have w1 := hF.get w1 (by omega)
      have w2 := hF.get w2 (by omega)
      have w3 := hF.get w3 (by omega)
      have w4 := hF.get w4 (by omega)
      have w5 := hF.get w5 (by omega)
      have w6 := hF.get w6 (by omega)
      have w7 := hF.get w7 (by omega)
      have w8 := hF.get w8 (by omega)
      have w9 := hF.get w9 (by omega)
      have w10 := hF.get w10 (by omega)
      have w11 := hF.get w11 (by omega)
      have w12 := hF.get w12 (by omega)
      have w13 := hF.get w13 (by omega)
      have w14 := hF.get w14 (by omega)
      have w15 := hF.get w15 (by omega)
      refine A.il4_2 d6_mixesNode_2 ?_
      refine A.iconst d6_mixesNode_3 ?_
      refine A.ic_ge d6_mixesNode_4 (fun c4 => ?_) (fun c4 => ?_)
      · refine A.iconst d6_mixesNode_23 ?_
        refine A.is4_2 d6_mixesNode_24 ?_
        have ec : c = 4 := by omega
        subst ec
        exact outer ((cOpts S v).toNat + 1) 0 _ _ (by have := cO_rng hB v0 v1; omega) w0 hF (by omega)
      · refine A.al4_0 d6_mixesNode_7 ?_
        refine A.al4_0 d6_mixesNode_8 ?_
        refine A.il4_1 d6_mixesNode_9 ?_
        refine A.il4_2 d6_mixesNode_10 ?_
        refine A.v2 d6_mixesNode_11 (s6_of w0 w1 hB (by omega) (by omega) (by omega) (by omega) (kS ?_)) (hc := w0)
        rw [no_of hB v0 v1 (by omega) (by omega)]
        refine A.v1 d6_mixesNode_14 (s6_mixes w0 (fun h14 e14 f14 => kN ?_)) (hc := w0)
        refine A.ii4_2 d6_mixesNode_17 ?_
        refine A.goto d6_mixesNode_20 ?_
        exact ih (c + 1) _ (by omega) e14 (hF.then f14 (by omega) (by omega)) (by omega)
  refine A.iconst d6_mixesNode_0 ?_
  refine A.is4_2 d6_mixesNode_1 ?_
  exact l1 5 0 _ (by omega) w0 Fr.rfl (by omega)
set_option maxRecDepth 100000 in
set_option maxHeartbeats 4000000 in
theorem s6_digT {d : Nat} {h : AH} {R : RP} {q : Nat} {S : SC} {P : PL} {T : TX} {rd fi co ah se ps fa fl ch : Int} {hx : Int64} {B Rd Mo Sv Iv V F Re Ch Fm By Ie Ef Eb : FN} (w0 : h.2 q = some (mobj q S.1 rd fi co ah se T.1 ps fa fl ch hx)) (w1 : h.2 (q + 1) = some (kA 0 348 B)) (w2 : h.2 (q + 2) = some (kA 0 348 Rd)) (w3 : h.2 (q + 3) = some (kA 0 160 Mo)) (w4 : h.2 (q + 4) = some (kA 0 24 Sv)) (w5 : h.2 (q + 5) = some (kA 2 3 Iv)) (w6 : h.2 (q + 6) = some (kA 0 100 T.2)) (w7 : h.2 (q + 7) = some (kA 0 3 V)) (w8 : h.2 (q + 8) = some (kA 0 3 F)) (w9 : h.2 (q + 9) = some (kA 2 1984 Re)) (w10 : h.2 (q + 10) = some (kA 0 1984 Ch)) (w11 : h.2 (q + 11) = some (kA 0 1984 Fm)) (w12 : h.2 (q + 12) = some (kA 0 1984 By)) (w13 : h.2 (q + 13) = some (kA 2 13 Ie)) (w14 : h.2 (q + 14) = some (kA 0 13 Ef)) (w15 : h.2 (q + 15) = some (kA 0 13 Eb)) (hB : rScr B S) (hP : plR S P fi co ah se Mo Sv Iv) (hT : txI T) (hc : cR (drawn S) ch Re Ch Fm By Ie Ef Eb) {x1 : Option AV} (k : ∀ h', h'.2 q = some (mobj q S.1 rd fi co ah se T.1 ps fa fl ch (dgTl S T hx)) → Fr h h' q 1 → R (some (vL (dgTl S T hx))) h') : AW m6_digest (d + 7) (mC m6_digest, mS m6_digest) 90 [some (vR q), x1] [] h R := by
  have hB1 := hB.1
  have hX : chI S (drawn S) := chI_out hB 1984
  have hT1 := hT.1
  have hT2 := hT.2.1
  have l6 : ∀ (nf : Nat) (c : Nat) (h1 : AH) (hi : (c : Int) ≤ T.1) (w0 : h1.2 q = some (mobj q S.1 rd fi co ah se T.1 ps fa fl ch (mxl T.2 c (mxl (stI S) 12 (mx (dNds S S.1.toNat hx) (siRR S (-1))))))) (hF : Fr h h1 q 1) (hn : T.1.toNat - c < nf), AW m6_digest (d + 7) (mC m6_digest, mS m6_digest) 151 [some (vR q), some (vI c)] [] h1 R := by
    intro nf
    induction nf with
    | zero => intro c  h1  hi w0 hF hn; omega
    | succ nf ih =>
      intro c  h1  hi w0 hF hn
      have w1 := hF.get w1 (by omega)
      have w2 := hF.get w2 (by omega)
      have w3 := hF.get w3 (by omega)
      have w4 := hF.get w4 (by omega)
      have w5 := hF.get w5 (by omega)
      have w6 := hF.get w6 (by omega)
      have w7 := hF.get w7 (by omega)
      have w8 := hF.get w8 (by omega)
      have w9 := hF.get w9 (by omega)
      have w10 := hF.get w10 (by omega)
      have w11 := hF.get w11 (by omega)
      have w12 := hF.get w12 (by omega)
      have w13 := hF.get w13 (by omega)
      have w14 := hF.get w14 (by omega)
      have w15 := hF.get w15 (by omega)
      refine A.il2_1 d6_digest_151 ?_
      refine A.al2_0 d6_digest_152 ?_
      refine A.getf d6_digest_153 ?_ (hc := w0)
      refine A.ic_ge d6_digest_156 (fun c156 => ?_) (fun c156 => ?_)
      · refine A.al2_0 d6_digest_175 ?_
        refine A.getf d6_digest_176 ?_ (hc := w0)
        refine A.lret d6_digest_179 ?_
        have ec : c = T.1.toNat := by omega
        subst ec
        exact k _ w0 hF
      · refine A.al2_0 d6_digest_159 ?_
        refine A.al2_0 d6_digest_160 ?_
        refine A.getf d6_digest_161 ?_ (hc := w0)
        refine A.il2_1 d6_digest_164 ?_
        refine A.iald d6_digest_165 ?_ (hc := w6)
        refine A.v1 d6_digest_166 (s6_mixes w0 (fun h166 e166 f166 => kN ?_)) (hc := w0)
        refine A.ii2_1 d6_digest_169 ?_
        refine A.goto d6_digest_172 ?_
        exact ih (c + 1) _ (by omega) (by rw [mxl_s]; exact e166) (hF.then f166 (by omega) (by omega)) (by omega)
  have l5 : ∀ (nf : Nat) (c n : Nat) (e : Int) (h1 : AH) (hi : c ≤ 13) (he : e = (c : Int) - 3) (hn1 : n = if c ≤ 2 then c else c - 1) (w0 : h1.2 q = some (mobj q S.1 rd fi co ah se T.1 ps fa fl ch (mxl (stI S) n (mx (dNds S S.1.toNat hx) (siRR S (-1)))))) (hF : Fr h h1 q 1) (hn : 13 - c < nf), AW m6_digest (d + 7) (mC m6_digest, mS m6_digest) 123 [some (vR q), some (vI e)] [] h1 R := by
    intro nf
    induction nf with
    | zero => intro c n  e  h1  hi he hn1 w0 hF hn; omega
    | succ nf ih =>
      intro c n  e  h1  hi he hn1 w0 hF hn
      have w1 := hF.get w1 (by omega)
      have w2 := hF.get w2 (by omega)
      have w3 := hF.get w3 (by omega)
      have w4 := hF.get w4 (by omega)
      have w5 := hF.get w5 (by omega)
      have w6 := hF.get w6 (by omega)
      have w7 := hF.get w7 (by omega)
      have w8 := hF.get w8 (by omega)
      have w9 := hF.get w9 (by omega)
      have w10 := hF.get w10 (by omega)
      have w11 := hF.get w11 (by omega)
      have w12 := hF.get w12 (by omega)
      have w13 := hF.get w13 (by omega)
      have w14 := hF.get w14 (by omega)
      have w15 := hF.get w15 (by omega)
      refine A.il2_1 d6_digest_123 ?_
      refine A.bipush d6_digest_124 ?_
      refine A.ic_ge d6_digest_126 (fun c126 => ?_) (fun c126 => ?_)
      · have ec : n = 12 := by
          split at hn1 <;> omega
        subst ec
        refine A.iconst d6_digest_149 ?_
        refine A.is2_1 d6_digest_150 ?_
        exact l6 (T.1.toNat + 1) 0 _ (by omega) (by rw [mxl_0]; exact w0) hF (by omega)
      · refine A.il2_1 d6_digest_129 ?_
        refine A.iconst d6_digest_130 ?_
        refine A.ic_eq d6_digest_131 (fun c131 => ?_) (fun c131 => ?_)
        · refine A.ii2_1 d6_digest_143 ?_
          refine A.goto d6_digest_146 ?_
          first
            | exact ih (c + 1) (n + 1) (e + 1) _ (by omega) (by omega) (by split at hn1 <;> split <;> omega) (by rw [mxl_s]; exact e140) (hF.then f140 (by omega) (by omega)) (by omega)
            | exact ih (c + 1) n (e + 1) _ (by omega) (by omega) (by split at hn1 <;> split <;> omega) w0 hF (by omega)
        · refine A.al2_0 d6_digest_134 ?_
          refine A.al2_0 d6_digest_135 ?_
          refine A.il2_1 d6_digest_136 ?_
          refine A.v1 d6_digest_137 (s6_stepsTo w0 w1 hB w9 w10 w11 w12 w13 w14 w15 hX hc (by unfold isE; omega) (kS ?_)) (hc := w0)
          have ee : edI n = e := by
            unfold edI
            split at hn1 <;> (repeat' split) <;> omega
          rw [show stR (drawn S) e = stI S n by unfold stI; rw [ee]]
          refine A.v1 d6_digest_140 (s6_mixes w0 (fun h140 e140 f140 => kN ?_)) (hc := w0)
          refine A.ii2_1 d6_digest_143 ?_
          refine A.goto d6_digest_146 ?_
          first
            | exact ih (c + 1) (n + 1) (e + 1) _ (by omega) (by omega) (by split at hn1 <;> split <;> omega) (by rw [mxl_s]; exact e140) (hF.then f140 (by omega) (by omega)) (by omega)
            | exact ih (c + 1) n (e + 1) _ (by omega) (by omega) (by split at hn1 <;> split <;> omega) w0 hF (by omega)
  have l4 : ∀ (nf : Nat) (c : Nat) (h1 : AH) (hi : (c : Int) ≤ S.1) (w0 : h1.2 q = some (mobj q S.1 rd fi co ah se T.1 ps fa fl ch (dNds S c hx))) (hF : Fr h h1 q 1) (hn : S.1.toNat - c < nf), AW m6_digest (d + 7) (mC m6_digest, mS m6_digest) 92 [some (vR q), some (vI c)] [] h1 R := by
    intro nf
    induction nf with
    | zero => intro c  h1  hi w0 hF hn; omega
    | succ nf ih =>
      intro c  h1  hi w0 hF hn
      have w1 := hF.get w1 (by omega)
      have w2 := hF.get w2 (by omega)
      have w3 := hF.get w3 (by omega)
      have w4 := hF.get w4 (by omega)
      have w5 := hF.get w5 (by omega)
      have w6 := hF.get w6 (by omega)
      have w7 := hF.get w7 (by omega)
      have w8 := hF.get w8 (by omega)
      have w9 := hF.get w9 (by omega)
      have w10 := hF.get w10 (by omega)
      have w11 := hF.get w11 (by omega)
      have w12 := hF.get w12 (by omega)
      have w13 := hF.get w13 (by omega)
      have w14 := hF.get w14 (by omega)
      have w15 := hF.get w15 (by omega)
      refine A.il2_1 d6_digest_92 ?_
      refine A.al2_0 d6_digest_93 ?_
      refine A.getf d6_digest_94 ?_ (hc := w0)
      refine A.ic_ge d6_digest_97 (fun c97 => ?_) (fun c97 => ?_)
      · have ec : c = S.1.toNat := by omega
        subst ec
        refine A.al2_0 d6_digest_111 ?_
        refine A.al2_0 d6_digest_112 ?_
        refine A.iconst d6_digest_113 ?_
        refine A.v1 d6_digest_114 (s6_situationsOf w0 w1 hB w9 w10 w11 w12 w13 w14 w15 hX hc (kS ?_)) (hc := w0)
        rw [show cntW (drawn S).1 (-1) 1984 = siRR S (-1) from (if_pos (by decide) : siRR S (-1) = _).symm]
        refine A.v1 d6_digest_117 (s6_mixes w0 (fun h117 e117 f117 => kN ?_)) (hc := w0)
        refine A.bipush d6_digest_120 ?_
        refine A.is2_1 d6_digest_122 ?_
        exact l5 14 0 0 (-3) _ (by omega) (by omega) (by rw [if_pos (by omega)]) (by rw [mxl_0]; exact e117) (hF.then f117 (by omega) (by omega)) (by omega)
      · refine A.al2_0 d6_digest_100 ?_
        refine A.il2_1 d6_digest_101 ?_
        refine A.v1 d6_digest_102 (s6_mixesNode w0 w1 w2 w3 w4 w5 w6 w7 w8 w9 w10 w11 w12 w13 w14 w15 hB hP hT hc (by omega) (by omega) (fun h102 e102 f102 => kN ?_)) (hc := w0)
        refine A.ii2_1 d6_digest_105 ?_
        refine A.goto d6_digest_108 ?_
        exact ih (c + 1) _ (by omega) e102 (hF.then f102 (by omega) (by omega)) (by omega)
  refine A.iconst d6_digest_90 ?_
  refine A.is2_1 d6_digest_91 ?_
  exact l4 (S.1.toNat + 1) 0 _ (by omega) w0 Fr.rfl (by omega)
set_option maxRecDepth 100000 in
set_option maxHeartbeats 4000000 in
theorem s6_digest {d : Nat} {h : AH} {R : RP} {q : Nat} {S : SC} {P : PL} {T : TX} (hM : mAt h q S P T) (k : ∀ h', mAt h' q S P T → Fr h h' q 16 → R (some (vL (dgRR S P T))) h') : AM m6_digest (d + 7) h [vR q] R := by
  refine AM.of (L := [some (vR q), none]) ok_6_digest (by decide) (fun G => Nat.le_of_ble_eq_true rfl) rfl ?_
  obtain ⟨rd, fi, co, ah, se, ps, fa, fl, ch, hx, B, Rd, Mo, Sv, Iv, V, F, Re, Ch, Fm, By, Ie, Ef, Eb, w0, w1, w2, w3, w4, w5, w6, w7, w8, w9, w10, w11, w12, w13, w14, w15, hB, hP, hT⟩ := hM
  have d3 : ∀ (nf : Nat) (c : Nat) (h1 : AH) (hi : c ≤ 3) (hM : mAtx h1 q S P T (dPo (nowM P) c (mxl (shRR S (nowM P)) 6 (mxl (coRR S P T) 7 163)))) (hF : Fr h h1 q 16) (hn : 3 - c < nf), AW m6_digest (d + 7) (mC m6_digest, mS m6_digest) 55 [some (vR q), some (vI c)] [] h1 R := by
    intro nf
    induction nf with
    | zero => intro c  h1  hi hM hF hn; omega
    | succ nf ih =>
      intro c  h1  hi hM hF hn
      have hM2 := hM
      obtain ⟨rd, fi, co, ah, se, ps, fa, fl, ch, B, Rd, Mo, Sv, Iv, V, F, Re, Ch, Fm, By, Ie, Ef, Eb, w0, w1, w2, w3, w4, w5, w6, w7, w8, w9, w10, w11, w12, w13, w14, w15, hB, hP, hT⟩ := hM
      refine A.il2_1 d6_digest_55 ?_
      refine A.iconst d6_digest_56 ?_
      refine A.ic_ge d6_digest_57 (fun c57 => ?_) (fun c57 => ?_)
      · have ec : c = 3 := by omega
        subst ec
        refine A.al2_0 d6_digest_86 ?_
        refine A.v0 d6_digest_87 (s6_charts w0 w1 hB w7 w8 w9 w10 w11 w12 w13 w14 w15 (fun h87 fl87 ch87 V87 F87x Re87 Ch87 Fm87 By87 Ie87 Ef87 Eb87 m87 e87 y87_7 y87_8 y87_9 y87_10 y87_11 y87_12 y87_13 y87_14 y87_15 sr87 cr87 f87 => kN ?_)) (hc := w0)
        have w0 := e87
        have w7 := y87_7
        have w8 := y87_8
        have w9 := y87_9
        have w10 := y87_10
        have w11 := y87_11
        have w12 := y87_12
        have w13 := y87_13
        have w14 := y87_14
        have w15 := y87_15
        have w1 := f87.get w1
        have w2 := f87.get w2
        have w3 := f87.get w3
        have w4 := f87.get w4
        have w5 := f87.get w5
        have w6 := f87.get w6
        have F87 := Fr.then hF f87.fr (by omega) (by omega)
        have hX := chI_out hB 1984
        have hc : cR (drawn S) ch87 Re87 Ch87 Fm87 By87 Ie87 Ef87 Eb87 := cr87
        have hX : chI S (drawn S) := hX
        exact s6_digT (d := d) w0 w1 w2 w3 w4 w5 w6 w7 w8 w9 w10 w11 w12 w13 w14 w15 hB hP hT hc (fun h' e f => k h' (mAtx.to (hx := dgRR S P T) (by
          have w0 := e
          have w1 := f.get w1 (by omega)
          have w2 := f.get w2 (by omega)
          have w3 := f.get w3 (by omega)
          have w4 := f.get w4 (by omega)
          have w5 := f.get w5 (by omega)
          have w6 := f.get w6 (by omega)
          have w7 := f.get w7 (by omega)
          have w8 := f.get w8 (by omega)
          have w9 := f.get w9 (by omega)
          have w10 := f.get w10 (by omega)
          have w11 := f.get w11 (by omega)
          have w12 := f.get w12 (by omega)
          have w13 := f.get w13 (by omega)
          have w14 := f.get w14 (by omega)
          have w15 := f.get w15 (by omega)
          exact ⟨_, _, _, _, _, _, _, _, _, _, _, _, _, _, _, _, _, _, _, _, _, _, _, w0, w1, w2, w3, w4, w5, w6, w7, w8, w9, w10, w11, w12, w13, w14, w15, hB, hP, hT⟩)) (F87.then f (by omega) (by omega)))
      · refine A.al2_0 d6_digest_60 ?_
        refine A.al2_0 d6_digest_61 ?_
        refine A.il2_1 d6_digest_62 ?_
        refine A.iconst d6_digest_63 ?_
        refine A.v2 d6_digest_64 (s6_portrait hM2.to (kS ?_)) (hc := w0)
        refine A.v1 d6_digest_67 (s6_mixesX hM2 (fun h67 hM67 F67 => kN ?_)) (hc := w0)
        have hM := hM67
        have hM2 := hM
        obtain ⟨rd, fi, co, ah, se, ps, fa, fl, ch, B, Rd, Mo, Sv, Iv, V, F, Re, Ch, Fm, By, Ie, Ef, Eb, w0, w1, w2, w3, w4, w5, w6, w7, w8, w9, w10, w11, w12, w13, w14, w15, hB, hP, hT⟩ := hM
        refine A.al2_0 d6_digest_70 ?_
        refine A.al2_0 d6_digest_71 ?_
        refine A.il2_1 d6_digest_72 ?_
        refine A.iconst d6_digest_73 ?_
        refine A.v2 d6_digest_74 (s6_portrait hM2.to (kS ?_)) (hc := w0)
        refine A.v1 d6_digest_77 (s6_mixesX hM2 (fun h77 hM77 F77 => kN ?_)) (hc := w0)
        have hM := hM77
        have hM2 := hM
        obtain ⟨rd, fi, co, ah, se, ps, fa, fl, ch, B, Rd, Mo, Sv, Iv, V, F, Re, Ch, Fm, By, Ie, Ef, Eb, w0, w1, w2, w3, w4, w5, w6, w7, w8, w9, w10, w11, w12, w13, w14, w15, hB, hP, hT⟩ := hM
        refine A.ii2_1 d6_digest_80 ?_
        refine A.goto d6_digest_83 ?_
        exact ih (c + 1) _ (by omega) hM2 ((hF.then F67 (by omega) (by omega)).then F77 (by omega) (by omega)) (by omega)
  have d2 : ∀ (nf : Nat) (c : Nat) (h1 : AH) (hi : c ≤ 6) (hM : mAtx h1 q S P T (mxl (shRR S (nowM P)) c (mxl (coRR S P T) 7 163))) (hF : Fr h h1 q 16) (hn : 6 - c < nf), AW m6_digest (d + 7) (mC m6_digest, mS m6_digest) 32 [some (vR q), some (vI c)] [] h1 R := by
    intro nf
    induction nf with
    | zero => intro c  h1  hi hM hF hn; omega
    | succ nf ih =>
      intro c  h1  hi hM hF hn
      have hM2 := hM
      obtain ⟨rd, fi, co, ah, se, ps, fa, fl, ch, B, Rd, Mo, Sv, Iv, V, F, Re, Ch, Fm, By, Ie, Ef, Eb, w0, w1, w2, w3, w4, w5, w6, w7, w8, w9, w10, w11, w12, w13, w14, w15, hB, hP, hT⟩ := hM
      refine A.il2_1 d6_digest_32 ?_
      refine A.bipush d6_digest_33 ?_
      refine A.ic_ge d6_digest_35 (fun c35 => ?_) (fun c35 => ?_)
      · have ec : c = 6 := by omega
        subst ec
        refine A.iconst d6_digest_53 ?_
        refine A.is2_1 d6_digest_54 ?_
        exact d3 4 0 _ (by omega) hM2 hF (by omega)
      · refine A.al2_0 d6_digest_38 ?_
        refine A.al2_0 d6_digest_39 ?_
        refine A.il2_1 d6_digest_40 ?_
        refine A.v1 d6_digest_41 (s6_shown hM2.to (kS ?_)) (hc := w0)
        refine A.v1 d6_digest_44 (s6_mixesX hM2 (fun h44 hM44 F44 => kN ?_)) (hc := w0)
        refine A.ii2_1 d6_digest_47 ?_
        refine A.goto d6_digest_50 ?_
        exact ih (c + 1) _ (by omega) hM44 (hF.then F44 (by omega) (by omega)) (by omega)
  have d1 : ∀ (nf : Nat) (c : Nat) (h1 : AH) (hi : c ≤ 7) (hM : mAtx h1 q S P T (mxl (coRR S P T) c 163)) (hF : Fr h h1 q 16) (hn : 7 - c < nf), AW m6_digest (d + 7) (mC m6_digest, mS m6_digest) 9 [some (vR q), some (vI c)] [] h1 R := by
    intro nf
    induction nf with
    | zero => intro c  h1  hi hM hF hn; omega
    | succ nf ih =>
      intro c  h1  hi hM hF hn
      have hM2 := hM
      obtain ⟨rd, fi, co, ah, se, ps, fa, fl, ch, B, Rd, Mo, Sv, Iv, V, F, Re, Ch, Fm, By, Ie, Ef, Eb, w0, w1, w2, w3, w4, w5, w6, w7, w8, w9, w10, w11, w12, w13, w14, w15, hB, hP, hT⟩ := hM
      refine A.il2_1 d6_digest_9 ?_
      refine A.bipush d6_digest_10 ?_
      refine A.ic_ge d6_digest_12 (fun c12 => ?_) (fun c12 => ?_)
      · have ec : c = 7 := by omega
        subst ec
        refine A.iconst d6_digest_30 ?_
        refine A.is2_1 d6_digest_31 ?_
        exact d2 7 0 _ (by omega) hM2 hF (by omega)
      · refine A.al2_0 d6_digest_15 ?_
        refine A.al2_0 d6_digest_16 ?_
        refine A.il2_1 d6_digest_17 ?_
        refine A.v1 d6_digest_18 (s6_countX hM2 (fun h18 hM18 F18 => kS ?_)) (hc := w0)
        have hM := hM18
        have hM2 := hM
        obtain ⟨rd, fi, co, ah, se, ps, fa, fl, ch, B, Rd, Mo, Sv, Iv, V, F, Re, Ch, Fm, By, Ie, Ef, Eb, w0, w1, w2, w3, w4, w5, w6, w7, w8, w9, w10, w11, w12, w13, w14, w15, hB, hP, hT⟩ := hM
        refine A.v1 d6_digest_21 (s6_mixesX hM2 (fun h21 hM21 F21 => kN ?_)) (hc := w0)
        refine A.ii2_1 d6_digest_24 ?_
        refine A.goto d6_digest_27 ?_
        exact ih (c + 1) _ (by omega) hM21 ((hF.then F18 (by omega) (by omega)).then F21 (by omega) (by omega)) (by omega)
  refine A.al2_0 d6_digest_0 ?_
  refine A.ldc2 d6_digest_1 ?_
  refine A.putf d6_digest_4 (fun h4 e4 f4 => ?_) (hc := w0) (hk := blt_ok rfl)
  first | (have w0 := (f4.2 _ (by omega)).trans w0) | (have w0 := e4)
  first | (have w1 := (f4.2 _ (by omega)).trans w1) | (have w1 := e4)
  first | (have w2 := (f4.2 _ (by omega)).trans w2) | (have w2 := e4)
  first | (have w3 := (f4.2 _ (by omega)).trans w3) | (have w3 := e4)
  first | (have w4 := (f4.2 _ (by omega)).trans w4) | (have w4 := e4)
  first | (have w5 := (f4.2 _ (by omega)).trans w5) | (have w5 := e4)
  first | (have w6 := (f4.2 _ (by omega)).trans w6) | (have w6 := e4)
  first | (have w7 := (f4.2 _ (by omega)).trans w7) | (have w7 := e4)
  first | (have w8 := (f4.2 _ (by omega)).trans w8) | (have w8 := e4)
  first | (have w9 := (f4.2 _ (by omega)).trans w9) | (have w9 := e4)
  first | (have w10 := (f4.2 _ (by omega)).trans w10) | (have w10 := e4)
  first | (have w11 := (f4.2 _ (by omega)).trans w11) | (have w11 := e4)
  first | (have w12 := (f4.2 _ (by omega)).trans w12) | (have w12 := e4)
  first | (have w13 := (f4.2 _ (by omega)).trans w13) | (have w13 := e4)
  first | (have w14 := (f4.2 _ (by omega)).trans w14) | (have w14 := e4)
  first | (have w15 := (f4.2 _ (by omega)).trans w15) | (have w15 := e4)
  have F4 := (Fr.rfl (h := h) (a := q) (n := 16)).then f4 (by omega) (by omega)
  refine A.iconst d6_digest_7 ?_
  refine A.is2_1 d6_digest_8 ?_
  exact d1 8 0 _ (by omega) ⟨_, _, _, _, _, _, _, _, _, _, _, _, _, _, _, _, _, _, _, _, _, _, _, w0, w1, w2, w3, w4, w5, w6, w7, w8, w9, w10, w11, w12, w13, w14, w15, hB, hP, hT⟩ F4 (by omega)
