/-! ===== the reference: what follows a node ===== -/
set_option maxRecDepth 100000 in
set_option maxHeartbeats 4000000 in
theorem s6_follows {d : Nat} {h : AH} {R : RP} {v pa op : Int} {X : CH} {m : MO} {V F : FN} {q : Nat} {rd fi co ah se tl ps fa fl ch : Int} {hx : Int64} {S : SC} {B : Int → Int} (w0 : h.2 q = some (mobj q S.1 rd fi co ah se tl ps fa fl ch hx)) (w1 : h.2 (q + 1) = some (kA 0 348 B)) (hB : rScr B S) (w7 : h.2 (q + 7) = some (kA 0 3 V)) (w8 : h.2 (q + 8) = some (kA 0 3 F)) {Re Ch Fm By Ie Ef Eb : FN} (w9 : h.2 (q + 9) = some (kA 2 1984 Re)) (w10 : h.2 (q + 10) = some (kA 0 1984 Ch)) (w11 : h.2 (q + 11) = some (kA 0 1984 Fm)) (w12 : h.2 (q + 12) = some (kA 0 1984 By)) (w13 : h.2 (q + 13) = some (kA 2 13 Ie)) (w14 : h.2 (q + 14) = some (kA 0 13 Ef)) (w15 : h.2 (q + 15) = some (kA 0 13 Eb)) (hs : scrR m fl V F) (v0 : 0 ≤ v) (v1 : v ≤ 30) (hX : chI S X) (hc : cR X ch Re Ch Fm By Ie Ef Eb) (hp : pa = -11 ∨ (0 ≤ pa ∧ pa < X.2.1)) (k : ∀ h' fl' ch' V' F' Re' Ch' Fm' By' Ie' Ef' Eb' m', h'.2 q = some (mobj q S.1 rd fi co ah se tl ps fa fl' ch' hx) → h'.2 (q + 7) = some (kA 0 3 V') → h'.2 (q + 8) = some (kA 0 3 F') → h'.2 (q + 9) = some (kA 2 1984 Re') → h'.2 (q + 10) = some (kA 0 1984 Ch') → h'.2 (q + 11) = some (kA 0 1984 Fm') → h'.2 (q + 12) = some (kA 0 1984 By') → h'.2 (q + 13) = some (kA 2 13 Ie') → h'.2 (q + 14) = some (kA 0 13 Ef') → h'.2 (q + 15) = some (kA 0 13 Eb') → scrR m' fl' V' F' → cR (fo S X fl v pa op) ch' Re' Ch' Fm' By' Ie' Ef' Eb' → Fp h h' q [0, 7, 8, 9, 10, 11, 12, 13, 14, 15] → R none h') : AM m6_follows (d + 3) h [vR q, vI v, vI pa, vI op] R := by
  refine AM.of (L := [some (vR q), some (vI v), some (vI pa), some (vI op), none, none, none]) ok_6_follows (by decide) (fun G => Nat.le_of_ble_eq_true rfl) rfl ?_
  have fin : ∀ (X1 : CH) (nd fl1 ch1 : Int) (m1 : MO) (V1 F1 Re1 Ch1 Fm1 By1 Ie1 Ef1 Eb1 : FN) (x6 : Option AV) (h1 : AH) (w0 : h1.2 q = some (mobj q S.1 rd fi co ah se tl ps fa fl1 ch1 hx)) (w1 : h1.2 (q + 1) = some (kA 0 348 B)) (w7 : h1.2 (q + 7) = some (kA 0 3 V1)) (w8 : h1.2 (q + 8) = some (kA 0 3 F1)) (w9 : h1.2 (q + 9) = some (kA 2 1984 Re1)) (w10 : h1.2 (q + 10) = some (kA 0 1984 Ch1)) (w11 : h1.2 (q + 11) = some (kA 0 1984 Fm1)) (w12 : h1.2 (q + 12) = some (kA 0 1984 By1)) (w13 : h1.2 (q + 13) = some (kA 2 13 Ie1)) (w14 : h1.2 (q + 14) = some (kA 0 13 Ef1)) (w15 : h1.2 (q + 15) = some (kA 0 13 Eb1)) (hs : scrR m1 fl1 V1 F1) (hc : cR X1 ch1 Re1 Ch1 Fm1 By1 Ie1 Ef1 Eb1) (hF : Fp h h1 q [0, 7, 8, 9, 10, 11, 12, 13, 14, 15]) (he : fo S X fl v pa op = X1), AW m6_follows (d + 3) (mC m6_follows, mS m6_follows) 32 [some (vR q), some (vI v), some (vI pa), some (vI op), some (vI nd), some (vI 0), x6] [] h1 R := by
    intro X1  nd fl1 ch1  m1  V1 F1 Re1 Ch1 Fm1 By1 Ie1 Ef1 Eb1  x6  h1  w0 w1 w7 w8 w9 w10 w11 w12 w13 w14 w15 hs hc hF he
    refine A.il7_5 d6_follows_32 ?_
    refine A.if_eq d6_follows_34 (fun c34 => ?_) (fun c34 => absurd rfl c34)
    refine A.vret d6_follows_231 ?_
    exact k _ _ _ _ _ _ _ _ _ _ _ _ _ w0 w7 w8 w9 w10 w11 w12 w13 w14 w15 hs (by rw [he]; exact hc) hF
  have loop : ∀ (nf : Nat) (kf : Nat) (X1 : CH) (nd fl1 ch1 f : Int) (m1 : MO) (V1 F1 Re1 Ch1 Fm1 By1 Ie1 Ef1 Eb1 : FN) (x6 : Option AV) (h1 : AH) (h0 : 0 ≤ nd) (h1' : nd ≤ 30) (hsh : cShown S nd) (w0 : h1.2 q = some (mobj q S.1 rd fi co ah se tl ps fa fl1 ch1 hx)) (w1 : h1.2 (q + 1) = some (kA 0 348 B)) (w7 : h1.2 (q + 7) = some (kA 0 3 V1)) (w8 : h1.2 (q + 8) = some (kA 0 3 F1)) (w9 : h1.2 (q + 9) = some (kA 2 1984 Re1)) (w10 : h1.2 (q + 10) = some (kA 0 1984 Ch1)) (w11 : h1.2 (q + 11) = some (kA 0 1984 Fm1)) (w12 : h1.2 (q + 12) = some (kA 0 1984 By1)) (w13 : h1.2 (q + 13) = some (kA 2 13 Ie1)) (w14 : h1.2 (q + 14) = some (kA 0 13 Ef1)) (w15 : h1.2 (q + 15) = some (kA 0 13 Eb1)) (hs : scrR m1 fl1 V1 F1) (hX : chI S X1) (hc : cR X1 ch1 Re1 Ch1 Fm1 By1 Ie1 Ef1 Eb1) (hp : pa = -11 ∨ (0 ≤ pa ∧ pa < X1.2.1)) (he : fo S X fl v pa op = fol S kf X1 nd fl1 pa op) (hk : 1984 - cntN X1.1 1984 < kf) (hf : (f = 1 ∧ X1.1 (sit nd fl1) = 0) ∨ (f = 0 ∧ X1.1 (sit nd fl1) = 1)) (hF : Fp h h1 q [0, 7, 8, 9, 10, 11, 12, 13, 14, 15]) (hn : kf < nf), AW m6_follows (d + 3) (mC m6_follows, mS m6_follows) 32 [some (vR q), some (vI v), some (vI pa), some (vI op), some (vI nd), some (vI f), x6] [] h1 R := by
    intro nf
    induction nf with
    | zero => intro kf  X1  nd fl1 ch1 f  m1  V1 F1 Re1 Ch1 Fm1 By1 Ie1 Ef1 Eb1  x6  h1  h0 h1' hsh w0 w1 w7 w8 w9 w10 w11 w12 w13 w14 w15 hs hX hc hp he hk hf hF hn; omega
    | succ nf ih =>
      intro kf  X1  nd fl1 ch1 f  m1  V1 F1 Re1 Ch1 Fm1 By1 Ie1 Ef1 Eb1  x6  h1  h0 h1' hsh w0 w1 w7 w8 w9 w10 w11 w12 w13 w14 w15 hs hX hc hp he hk hf hF hn
      have skr : cSK S nd = 0 ∨ cSK S nd = 1 ∨ cSK S nd = 2 := by unfold cSK; (repeat' split) <;> omega
      have hsk : rSK S nd = cSK S nd := pif_t hsh
      have hb := hs.2.1
      have hcl := (cntN_le X1.1 1984).2
      refine A.il7_5 d6_follows_32 ?_
      refine A.if_eq d6_follows_34 (fun c34 => ?_) (fun c34 => ?_)
      · refine A.vret d6_follows_231 ?_
        have hd : fo S X fl v pa op = X1 := he.trans (fol_done (by omega))
        exact k _ _ _ _ _ _ _ _ _ _ _ _ _ w0 w7 w8 w9 w10 w11 w12 w13 w14 w15 hs (by rw [hd]; exact hc) hF
      · have hz : X1.1 (sit nd fl1) = 0 := by omega
        have hst : 0 ≤ sit nd fl1 ∧ sit nd fl1 < 1984 := by unfold sit; omega
        have hcs := cntN_set hst.1 hz 1984 hst.2
        have hcs2 := (cntN_le (fset X1.1 (sit nd fl1) 1) 1984).2
        have hX1 := hX.1
        have hcn := hc.1
        have hmk := chI_mk (op := op) hB hX h0 h1' hb.1 hb.2 hsh hz hp
        obtain ⟨j, rfl⟩ : ∃ j, kf = j + 1 := ⟨kf - 1, by omega⟩
        refine A.al7_0 d6_follows_37 ?_
        refine A.getf d6_follows_38 ?_ (hc := w0)
        refine A.bipush d6_follows_41 ?_
        refine A.il7_4 d6_follows_43 ?_
        refine A.imul d6_follows_45 ?_
        refine A.al7_0 d6_follows_46 ?_
        refine A.getf d6_follows_47 ?_ (hc := w0)
        refine A.iadd d6_follows_50 ?_
        refine A.iconst d6_follows_51 ?_
        refine A.bast d6_follows_52 (fun h52 e52 f52 => ?_) (hc := w9)
        first | (have w0 := (f52.2 _ (by omega)).trans w0) | (have w0 := e52)
        first | (have w1 := (f52.2 _ (by omega)).trans w1) | (have w1 := e52)
        first | (have w7 := (f52.2 _ (by omega)).trans w7) | (have w7 := e52)
        first | (have w8 := (f52.2 _ (by omega)).trans w8) | (have w8 := e52)
        first | (have w9 := (f52.2 _ (by omega)).trans w9) | (have w9 := e52)
        first | (have w10 := (f52.2 _ (by omega)).trans w10) | (have w10 := e52)
        first | (have w11 := (f52.2 _ (by omega)).trans w11) | (have w11 := e52)
        first | (have w12 := (f52.2 _ (by omega)).trans w12) | (have w12 := e52)
        first | (have w13 := (f52.2 _ (by omega)).trans w13) | (have w13 := e52)
        first | (have w14 := (f52.2 _ (by omega)).trans w14) | (have w14 := e52)
        first | (have w15 := (f52.2 _ (by omega)).trans w15) | (have w15 := e52)
        refine A.al7_0 d6_follows_53 ?_
        refine A.il7_4 d6_follows_54 ?_
        refine A.v1 d6_follows_56 (s6_shownKind w0 w1 hB h0 (kS ?_)) (hc := w0)
        rw [hsk]
        refine A.is7_6 d6_follows_59 ?_
        refine A.il7_6 d6_follows_61 ?_
        refine A.iconst d6_follows_63 ?_
        refine A.ic_ne d6_follows_64 (fun c64 => ?_) (fun c64 => ?_)
        · refine A.il7_6 d6_follows_119 ?_
          refine A.iconst d6_follows_121 ?_
          refine A.ic_ne d6_follows_122 (fun c122 => ?_) (fun c122 => ?_)
          · refine A.il7_6 d6_follows_183 ?_
            refine A.if_ne d6_follows_185 (fun c185 => absurd (by omega) c185) (fun c185 => ?_)
            have hkl := kd_lt (S := S) (v := nd) (by rw [sk_line c185]; decide)
            have hB1 := hB.1
            refine A.al7_0 d6_follows_188 ?_
            refine A.il7_4 d6_follows_189 ?_
            refine A.iconst d6_follows_191 ?_
            refine A.iadd d6_follows_192 ?_
            refine A.v1 d6_follows_193 (s6_carries w0 w1 hB w7 w8 hs (by omega) (by omega) (fun h193 fl193 V193 F193 e193 x193 y193 hs193 f193 => kS ?_)) (hc := w0)
            have w0 := e193
            have w1 := f193.get w1 (by omega) (by omega)
            have w9 := f193.get w9 (by omega) (by omega)
            have w10 := f193.get w10 (by omega) (by omega)
            have w11 := f193.get w11 (by omega) (by omega)
            have w12 := f193.get w12 (by omega) (by omega)
            have w13 := f193.get w13 (by omega) (by omega)
            have w14 := f193.get w14 (by omega) (by omega)
            have w15 := f193.get w15 (by omega) (by omega)
            have w7 := x193
            have w8 := y193
            have e2 : fl193 = cfl S fl1 (nd + 1) := hs193.1.symm.trans ((cCome_fl m1 (nd + 1)).2.trans (by rw [hs.1]))
            subst e2
            have e3 : (cCome S m1 (nd + 1)).1 = cn S fl1 (nd + 1) := (cCome_fl m1 (nd + 1)).1.trans (by rw [hs.1])
            have hcr := cCome_rng hB m1 (v := nd + 1) (by omega) (by omega)
            rw [e3] at hcr ⊢
            have hb2 := hs193.2.1
            have hst2 : 0 ≤ sit (cn S fl1 (nd + 1)) (cfl S fl1 (nd + 1)) ∧ sit (cn S fl1 (nd + 1)) (cfl S fl1 (nd + 1)) < 1984 := by unfold sit; omega
            refine A.goto d6_follows_196 ?_
            refine A.is7_4 d6_follows_201 ?_
            refine A.al7_0 d6_follows_203 ?_
            refine A.getf d6_follows_204 ?_ (hc := w0)
            refine A.bipush d6_follows_207 ?_
            refine A.il7_4 d6_follows_209 ?_
            refine A.imul d6_follows_211 ?_
            refine A.al7_0 d6_follows_212 ?_
            refine A.getf d6_follows_213 ?_ (hc := w0)
            refine A.iadd d6_follows_216 ?_
            refine A.bald d6_follows_217 ?_ (hc := w9)
            refine A.if_ne d6_follows_218 (fun c218 => ?_) (fun c218 => ?_)
            · refine A.iconst d6_follows_225 ?_
              refine A.is7_5 d6_follows_226 ?_
              refine A.goto d6_follows_228 ?_
              have hc2 := cR_mark (s := sit nd fl1) hc
              rw [← mk0 (X := X1) (fl := fl1) (pa := pa) (op := op) c185] at hc2
              have hr2 := hmk.1.2.1 _ hst2.1 hst2.2
              have hr5 : fset Re1 (64 * nd + fl1) 1 (64 * cn S fl1 (nd + 1) + cfl S fl1 (nd + 1)) = (mk S X1 nd fl1 pa op).1 (sit (cn S fl1 (nd + 1)) (cfl S fl1 (nd + 1))) := hc2.2.1 _ hst2.1 hst2.2
              exact ih j _ _ _ _ _ _ _ _ _ _ _ _ _ _ _ _ _ hcr.1.1 hcr.1.2 hcr.2 w0 w1 w7 w8 w9 w10 w11 w12 w13 w14 w15 hs193 hmk.1 hc2 (by rcases hp with z | z; exact Or.inl z; exact Or.inr ⟨z.1, by have := hmk.2; omega⟩) (he.trans (fol_line hz c185)) (by rw [mk_R]; omega) (by omega) (((hF.trans (Fp.of f52)).trans (Fp.ofs f193))) (by omega)
            · refine A.iconst d6_follows_221 ?_
              refine A.goto d6_follows_222 ?_
              refine A.is7_5 d6_follows_226 ?_
              refine A.goto d6_follows_228 ?_
              have hc2 := cR_mark (s := sit nd fl1) hc
              rw [← mk0 (X := X1) (fl := fl1) (pa := pa) (op := op) c185] at hc2
              have hr2 := hmk.1.2.1 _ hst2.1 hst2.2
              have hr5 : fset Re1 (64 * nd + fl1) 1 (64 * cn S fl1 (nd + 1) + cfl S fl1 (nd + 1)) = (mk S X1 nd fl1 pa op).1 (sit (cn S fl1 (nd + 1)) (cfl S fl1 (nd + 1))) := hc2.2.1 _ hst2.1 hst2.2
              exact ih j _ _ _ _ _ _ _ _ _ _ _ _ _ _ _ _ _ hcr.1.1 hcr.1.2 hcr.2 w0 w1 w7 w8 w9 w10 w11 w12 w13 w14 w15 hs193 hmk.1 hc2 (by rcases hp with z | z; exact Or.inl z; exact Or.inr ⟨z.1, by have := hmk.2; omega⟩) (he.trans (fol_line hz c185)) (by rw [mk_R]; omega) (by omega) (((hF.trans (Fp.of f52)).trans (Fp.ofs f193))) (by omega)
          · have hrg := cSN_rng hB c122 hsh
            obtain ⟨hie, hie2⟩ := hc.2.2.2 (3 + cSN S nd) (by omega) (by omega)
            refine A.al7_0 d6_follows_125 ?_
            refine A.getf d6_follows_126 ?_ (hc := w0)
            refine A.iconst d6_follows_129 ?_
            refine A.al7_0 d6_follows_130 ?_
            refine A.il7_4 d6_follows_131 ?_
            refine A.v1 d6_follows_133 (s6_endOf w0 w1 hB h0 (fun z => (fun (y : cSK S nd = 0) => by omega) (if_pos z)) (kS ?_)) (hc := w0)
            refine A.iadd d6_follows_136 ?_
            refine A.bald d6_follows_137 ?_ (hc := w13)
            refine A.if_ne d6_follows_138 (fun c138 => ?_) (fun c138 => ?_)
            · refine A.il7_6 d6_follows_183 ?_
              refine A.if_ne d6_follows_185 (fun c185 => ?_) (fun c185 => absurd c185 (by omega))
              refine A.il7_4 d6_follows_199 ?_
              refine A.is7_4 d6_follows_201 ?_
              refine A.al7_0 d6_follows_203 ?_
              refine A.getf d6_follows_204 ?_ (hc := w0)
              refine A.bipush d6_follows_207 ?_
              refine A.il7_4 d6_follows_209 ?_
              refine A.imul d6_follows_211 ?_
              refine A.al7_0 d6_follows_212 ?_
              refine A.getf d6_follows_213 ?_ (hc := w0)
              refine A.iadd d6_follows_216 ?_
              refine A.bald d6_follows_217 ?_ (hc := w9)
              refine A.if_ne d6_follows_218 (fun c218 => ?_) (fun c218 => absurd ((fs_at rfl).symm.trans c218) (by decide))
              refine A.iconst d6_follows_225 ?_
              refine A.is7_5 d6_follows_226 ?_
              refine A.goto d6_follows_228 ?_
              first
                | exact fin _ _ _ _ _ _ _ _ _ _ _ _ _ _ _ _ w0 w1 w7 w8 w9 w10 w11 w12 w13 w14 w15 hs hc2 (((((hF.trans (Fp.of f52)).trans (Fp.of f154)).trans (Fp.of f168)).trans (Fp.of f182))) he
                | (have hc2 := cR_mark (s := sit nd fl1) hc
                   rw [← mk2n (X := X1) (fl := fl1) (pa := pa) (op := op) c122 (by omega), ← fol_stop (S := S) (k := j) (nd := nd) (pa := pa) (op := op) hz (by omega)] at hc2
                   exact fin _ _ _ _ _ _ _ _ _ _ _ _ _ _ _ _ w0 w1 w7 w8 w9 w10 w11 w12 w13 w14 w15 hs hc2 ((hF.trans (Fp.of f52))) he)
            · have hc2 := cR_end (fl := fl1) (pa := pa) (op := op) hc c122 (by omega)
              rw [← fol_stop (S := S) (k := j) (nd := nd) (pa := pa) (op := op) hz (by omega)] at hc2
              refine A.al7_0 d6_follows_141 ?_
              refine A.getf d6_follows_142 ?_ (hc := w0)
              refine A.iconst d6_follows_145 ?_
              refine A.al7_0 d6_follows_146 ?_
              refine A.il7_4 d6_follows_147 ?_
              refine A.v1 d6_follows_149 (s6_endOf w0 w1 hB h0 (fun z => (fun (y : cSK S nd = 0) => by omega) (if_pos z)) (kS ?_)) (hc := w0)
              refine A.iadd d6_follows_152 ?_
              refine A.iconst d6_follows_153 ?_
              refine A.bast d6_follows_154 (fun h154 e154 f154 => ?_) (hc := w13)
              first | (have w0 := (f154.2 _ (by omega)).trans w0) | (have w0 := e154)
              first | (have w1 := (f154.2 _ (by omega)).trans w1) | (have w1 := e154)
              first | (have w7 := (f154.2 _ (by omega)).trans w7) | (have w7 := e154)
              first | (have w8 := (f154.2 _ (by omega)).trans w8) | (have w8 := e154)
              first | (have w9 := (f154.2 _ (by omega)).trans w9) | (have w9 := e154)
              first | (have w10 := (f154.2 _ (by omega)).trans w10) | (have w10 := e154)
              first | (have w11 := (f154.2 _ (by omega)).trans w11) | (have w11 := e154)
              first | (have w12 := (f154.2 _ (by omega)).trans w12) | (have w12 := e154)
              first | (have w13 := (f154.2 _ (by omega)).trans w13) | (have w13 := e154)
              first | (have w14 := (f154.2 _ (by omega)).trans w14) | (have w14 := e154)
              first | (have w15 := (f154.2 _ (by omega)).trans w15) | (have w15 := e154)
              refine A.al7_0 d6_follows_155 ?_
              refine A.getf d6_follows_156 ?_ (hc := w0)
              refine A.iconst d6_follows_159 ?_
              refine A.al7_0 d6_follows_160 ?_
              refine A.il7_4 d6_follows_161 ?_
              refine A.v1 d6_follows_163 (s6_endOf w0 w1 hB h0 (fun z => (fun (y : cSK S nd = 0) => by omega) (if_pos z)) (kS ?_)) (hc := w0)
              refine A.iadd d6_follows_166 ?_
              refine A.il7_2 d6_follows_167 ?_
              refine A.iast d6_follows_168 (fun h168 e168 f168 => ?_) (hc := w14)
              first | (have w0 := (f168.2 _ (by omega)).trans w0) | (have w0 := e168)
              first | (have w1 := (f168.2 _ (by omega)).trans w1) | (have w1 := e168)
              first | (have w7 := (f168.2 _ (by omega)).trans w7) | (have w7 := e168)
              first | (have w8 := (f168.2 _ (by omega)).trans w8) | (have w8 := e168)
              first | (have w9 := (f168.2 _ (by omega)).trans w9) | (have w9 := e168)
              first | (have w10 := (f168.2 _ (by omega)).trans w10) | (have w10 := e168)
              first | (have w11 := (f168.2 _ (by omega)).trans w11) | (have w11 := e168)
              first | (have w12 := (f168.2 _ (by omega)).trans w12) | (have w12 := e168)
              first | (have w13 := (f168.2 _ (by omega)).trans w13) | (have w13 := e168)
              first | (have w14 := (f168.2 _ (by omega)).trans w14) | (have w14 := e168)
              first | (have w15 := (f168.2 _ (by omega)).trans w15) | (have w15 := e168)
              refine A.al7_0 d6_follows_169 ?_
              refine A.getf d6_follows_170 ?_ (hc := w0)
              refine A.iconst d6_follows_173 ?_
              refine A.al7_0 d6_follows_174 ?_
              refine A.il7_4 d6_follows_175 ?_
              refine A.v1 d6_follows_177 (s6_endOf w0 w1 hB h0 (fun z => (fun (y : cSK S nd = 0) => by omega) (if_pos z)) (kS ?_)) (hc := w0)
              refine A.iadd d6_follows_180 ?_
              refine A.il7_3 d6_follows_181 ?_
              refine A.iast d6_follows_182 (fun h182 e182 f182 => ?_) (hc := w15)
              first | (have w0 := (f182.2 _ (by omega)).trans w0) | (have w0 := e182)
              first | (have w1 := (f182.2 _ (by omega)).trans w1) | (have w1 := e182)
              first | (have w7 := (f182.2 _ (by omega)).trans w7) | (have w7 := e182)
              first | (have w8 := (f182.2 _ (by omega)).trans w8) | (have w8 := e182)
              first | (have w9 := (f182.2 _ (by omega)).trans w9) | (have w9 := e182)
              first | (have w10 := (f182.2 _ (by omega)).trans w10) | (have w10 := e182)
              first | (have w11 := (f182.2 _ (by omega)).trans w11) | (have w11 := e182)
              first | (have w12 := (f182.2 _ (by omega)).trans w12) | (have w12 := e182)
              first | (have w13 := (f182.2 _ (by omega)).trans w13) | (have w13 := e182)
              first | (have w14 := (f182.2 _ (by omega)).trans w14) | (have w14 := e182)
              first | (have w15 := (f182.2 _ (by omega)).trans w15) | (have w15 := e182)
              refine A.il7_6 d6_follows_183 ?_
              refine A.if_ne d6_follows_185 (fun c185 => ?_) (fun c185 => absurd c185 (by omega))
              refine A.il7_4 d6_follows_199 ?_
              refine A.is7_4 d6_follows_201 ?_
              refine A.al7_0 d6_follows_203 ?_
              refine A.getf d6_follows_204 ?_ (hc := w0)
              refine A.bipush d6_follows_207 ?_
              refine A.il7_4 d6_follows_209 ?_
              refine A.imul d6_follows_211 ?_
              refine A.al7_0 d6_follows_212 ?_
              refine A.getf d6_follows_213 ?_ (hc := w0)
              refine A.iadd d6_follows_216 ?_
              refine A.bald d6_follows_217 ?_ (hc := w9)
              refine A.if_ne d6_follows_218 (fun c218 => ?_) (fun c218 => absurd ((fs_at rfl).symm.trans c218) (by decide))
              refine A.iconst d6_follows_225 ?_
              refine A.is7_5 d6_follows_226 ?_
              refine A.goto d6_follows_228 ?_
              first
                | exact fin _ _ _ _ _ _ _ _ _ _ _ _ _ _ _ _ w0 w1 w7 w8 w9 w10 w11 w12 w13 w14 w15 hs hc2 (((((hF.trans (Fp.of f52)).trans (Fp.of f154)).trans (Fp.of f168)).trans (Fp.of f182))) he
                | (have hc2 := cR_mark (s := sit nd fl1) hc
                   rw [← mk2n (X := X1) (fl := fl1) (pa := pa) (op := op) c122 (by omega), ← fol_stop (S := S) (k := j) (nd := nd) (pa := pa) (op := op) hz (by omega)] at hc2
                   exact fin _ _ _ _ _ _ _ _ _ _ _ _ _ _ _ _ w0 w1 w7 w8 w9 w10 w11 w12 w13 w14 w15 hs hc2 ((hF.trans (Fp.of f52))) he)
        · have hc2 := cR_push (fl := fl1) (pa := pa) (op := op) hc c64
          rw [← fol_stop (S := S) (k := j) (nd := nd) (pa := pa) (op := op) hz (by omega)] at hc2
          refine A.al7_0 d6_follows_67 ?_
          refine A.getf d6_follows_68 ?_ (hc := w0)
          refine A.al7_0 d6_follows_71 ?_
          refine A.getf d6_follows_72 ?_ (hc := w0)
          refine A.bipush d6_follows_75 ?_
          refine A.il7_4 d6_follows_77 ?_
          refine A.imul d6_follows_79 ?_
          refine A.al7_0 d6_follows_80 ?_
          refine A.getf d6_follows_81 ?_ (hc := w0)
          refine A.iadd d6_follows_84 ?_
          refine A.iast d6_follows_85 (fun h85 e85 f85 => ?_) (hc := w10)
          first | (have w0 := (f85.2 _ (by omega)).trans w0) | (have w0 := e85)
          first | (have w1 := (f85.2 _ (by omega)).trans w1) | (have w1 := e85)
          first | (have w7 := (f85.2 _ (by omega)).trans w7) | (have w7 := e85)
          first | (have w8 := (f85.2 _ (by omega)).trans w8) | (have w8 := e85)
          first | (have w9 := (f85.2 _ (by omega)).trans w9) | (have w9 := e85)
          first | (have w10 := (f85.2 _ (by omega)).trans w10) | (have w10 := e85)
          first | (have w11 := (f85.2 _ (by omega)).trans w11) | (have w11 := e85)
          first | (have w12 := (f85.2 _ (by omega)).trans w12) | (have w12 := e85)
          first | (have w13 := (f85.2 _ (by omega)).trans w13) | (have w13 := e85)
          first | (have w14 := (f85.2 _ (by omega)).trans w14) | (have w14 := e85)
          first | (have w15 := (f85.2 _ (by omega)).trans w15) | (have w15 := e85)
          refine A.al7_0 d6_follows_86 ?_
          refine A.getf d6_follows_87 ?_ (hc := w0)
          refine A.al7_0 d6_follows_90 ?_
          refine A.getf d6_follows_91 ?_ (hc := w0)
          refine A.il7_2 d6_follows_94 ?_
          refine A.iast d6_follows_95 (fun h95 e95 f95 => ?_) (hc := w11)
          first | (have w0 := (f95.2 _ (by omega)).trans w0) | (have w0 := e95)
          first | (have w1 := (f95.2 _ (by omega)).trans w1) | (have w1 := e95)
          first | (have w7 := (f95.2 _ (by omega)).trans w7) | (have w7 := e95)
          first | (have w8 := (f95.2 _ (by omega)).trans w8) | (have w8 := e95)
          first | (have w9 := (f95.2 _ (by omega)).trans w9) | (have w9 := e95)
          first | (have w10 := (f95.2 _ (by omega)).trans w10) | (have w10 := e95)
          first | (have w11 := (f95.2 _ (by omega)).trans w11) | (have w11 := e95)
          first | (have w12 := (f95.2 _ (by omega)).trans w12) | (have w12 := e95)
          first | (have w13 := (f95.2 _ (by omega)).trans w13) | (have w13 := e95)
          first | (have w14 := (f95.2 _ (by omega)).trans w14) | (have w14 := e95)
          first | (have w15 := (f95.2 _ (by omega)).trans w15) | (have w15 := e95)
          refine A.al7_0 d6_follows_96 ?_
          refine A.getf d6_follows_97 ?_ (hc := w0)
          refine A.al7_0 d6_follows_100 ?_
          refine A.getf d6_follows_101 ?_ (hc := w0)
          refine A.il7_3 d6_follows_104 ?_
          refine A.iast d6_follows_105 (fun h105 e105 f105 => ?_) (hc := w12)
          first | (have w0 := (f105.2 _ (by omega)).trans w0) | (have w0 := e105)
          first | (have w1 := (f105.2 _ (by omega)).trans w1) | (have w1 := e105)
          first | (have w7 := (f105.2 _ (by omega)).trans w7) | (have w7 := e105)
          first | (have w8 := (f105.2 _ (by omega)).trans w8) | (have w8 := e105)
          first | (have w9 := (f105.2 _ (by omega)).trans w9) | (have w9 := e105)
          first | (have w10 := (f105.2 _ (by omega)).trans w10) | (have w10 := e105)
          first | (have w11 := (f105.2 _ (by omega)).trans w11) | (have w11 := e105)
          first | (have w12 := (f105.2 _ (by omega)).trans w12) | (have w12 := e105)
          first | (have w13 := (f105.2 _ (by omega)).trans w13) | (have w13 := e105)
          first | (have w14 := (f105.2 _ (by omega)).trans w14) | (have w14 := e105)
          first | (have w15 := (f105.2 _ (by omega)).trans w15) | (have w15 := e105)
          refine A.al7_0 d6_follows_106 ?_
          refine A.dup d6_follows_107 ?_
          refine A.getf d6_follows_108 ?_ (hc := w0)
          refine A.iconst d6_follows_111 ?_
          refine A.iadd d6_follows_112 ?_
          refine A.putf d6_follows_113 (fun h113 e113 f113 => ?_) (hc := w0) (hk := blt_ok rfl)
          first | (have w0 := (f113.2 _ (by omega)).trans w0) | (have w0 := e113)
          first | (have w1 := (f113.2 _ (by omega)).trans w1) | (have w1 := e113)
          first | (have w7 := (f113.2 _ (by omega)).trans w7) | (have w7 := e113)
          first | (have w8 := (f113.2 _ (by omega)).trans w8) | (have w8 := e113)
          first | (have w9 := (f113.2 _ (by omega)).trans w9) | (have w9 := e113)
          first | (have w10 := (f113.2 _ (by omega)).trans w10) | (have w10 := e113)
          first | (have w11 := (f113.2 _ (by omega)).trans w11) | (have w11 := e113)
          first | (have w12 := (f113.2 _ (by omega)).trans w12) | (have w12 := e113)
          first | (have w13 := (f113.2 _ (by omega)).trans w13) | (have w13 := e113)
          first | (have w14 := (f113.2 _ (by omega)).trans w14) | (have w14 := e113)
          first | (have w15 := (f113.2 _ (by omega)).trans w15) | (have w15 := e113)
          refine A.goto d6_follows_116 ?_
          refine A.il7_6 d6_follows_183 ?_
          refine A.if_ne d6_follows_185 (fun c185 => ?_) (fun c185 => absurd c185 (by omega))
          refine A.il7_4 d6_follows_199 ?_
          refine A.is7_4 d6_follows_201 ?_
          refine A.al7_0 d6_follows_203 ?_
          refine A.getf d6_follows_204 ?_ (hc := w0)
          refine A.bipush d6_follows_207 ?_
          refine A.il7_4 d6_follows_209 ?_
          refine A.imul d6_follows_211 ?_
          refine A.al7_0 d6_follows_212 ?_
          refine A.getf d6_follows_213 ?_ (hc := w0)
          refine A.iadd d6_follows_216 ?_
          refine A.bald d6_follows_217 ?_ (hc := w9)
          refine A.if_ne d6_follows_218 (fun c218 => ?_) (fun c218 => absurd ((fs_at rfl).symm.trans c218) (by decide))
          refine A.iconst d6_follows_225 ?_
          refine A.is7_5 d6_follows_226 ?_
          refine A.goto d6_follows_228 ?_
          exact fin _ _ _ _ _ _ _ _ _ _ _ _ _ _ _ _ w0 w1 w7 w8 w9 w10 w11 w12 w13 w14 w15 hs hc2 ((((((hF.trans (Fp.of f52)).trans (Fp.of f85)).trans (Fp.of f95)).trans (Fp.of f105)).trans (Fp.of0 f113))) he
  refine A.al7_0 d6_follows_0 ?_
  refine A.il7_1 d6_follows_1 ?_
  refine A.v1 d6_follows_2 (s6_carries w0 w1 hB w7 w8 hs v0 v1 (fun h2 fl2 V2 F2 e2 x2 y2 hs2 f2 => kS ?_)) (hc := w0)
  have w0 := e2
  have w1 := f2.get w1 (by omega) (by omega)
  have w9 := f2.get w9 (by omega) (by omega)
  have w10 := f2.get w10 (by omega) (by omega)
  have w11 := f2.get w11 (by omega) (by omega)
  have w12 := f2.get w12 (by omega) (by omega)
  have w13 := f2.get w13 (by omega) (by omega)
  have w14 := f2.get w14 (by omega) (by omega)
  have w15 := f2.get w15 (by omega) (by omega)
  have w7 := x2
  have w8 := y2
  have ee : fl2 = cfl S fl v := hs2.1.symm.trans ((cCome_fl m v).2.trans (by rw [hs.1]))
  subst ee
  have e3 : (cCome S m v).1 = cn S fl v := (cCome_fl m v).1.trans (by rw [hs.1])
  have hcr := cCome_rng hB m (v := v) (by omega) (by omega)
  rw [e3] at hcr ⊢
  have hb2 := hs2.2.1
  have hst2 : 0 ≤ sit (cn S fl v) (cfl S fl v) ∧ sit (cn S fl v) (cfl S fl v) < 1984 := by unfold sit; omega
  have hr2 := hX.2.1 _ hst2.1 hst2.2
  have hr3 : Re (64 * cn S fl v + cfl S fl v) = X.1 (sit (cn S fl v) (cfl S fl v)) := hc.2.1 _ hst2.1 hst2.2
  have hcl := (cntN_le X.1 1984).1
  refine A.is7_4 d6_follows_5 ?_
  refine A.al7_0 d6_follows_7 ?_
  refine A.getf d6_follows_8 ?_ (hc := w0)
  refine A.bipush d6_follows_11 ?_
  refine A.il7_4 d6_follows_13 ?_
  refine A.imul d6_follows_15 ?_
  refine A.al7_0 d6_follows_16 ?_
  refine A.getf d6_follows_17 ?_ (hc := w0)
  refine A.iadd d6_follows_20 ?_
  refine A.bald d6_follows_21 ?_ (hc := w9)
  refine A.if_ne d6_follows_22 (fun c22 => ?_) (fun c22 => ?_)
  · refine A.iconst d6_follows_29 ?_
    refine A.is7_5 d6_follows_30 ?_
    exact loop 1986 1985 _ _ _ _ _ _ _ _ _ _ _ _ _ _ _ _ _ hcr.1.1 hcr.1.2 hcr.2 w0 w1 w7 w8 w9 w10 w11 w12 w13 w14 w15 hs2 hX hc hp rfl (by omega) (by omega) (Fp.ofs f2) (by omega)
  · refine A.iconst d6_follows_25 ?_
    refine A.goto d6_follows_26 ?_
    refine A.is7_5 d6_follows_30 ?_
    exact loop 1986 1985 _ _ _ _ _ _ _ _ _ _ _ _ _ _ _ _ _ hcr.1.1 hcr.1.2 hcr.2 w0 w1 w7 w8 w9 w10 w11 w12 w13 w14 w15 hs2 hX hc hp rfl (by omega) (by omega) (Fp.ofs f2) (by omega)
