/-! ===== the law: what is shown; the moves ===== -/
theorem sh_0 (S : SC) (m : MO) : shRR S m 0 = m.1 := rfl
theorem sh_1 (S : SC) (m : MO) : shRR S m 1 = cSK S m.1 := rfl
theorem sh_2 (S : SC) (m : MO) : shRR S m 2 = if cSK S m.1 = 0 then cNum S m.1 0 else -11 := rfl
theorem sh_3 (S : SC) (m : MO) : shRR S m 3 = cSN S m.1 := rfl
theorem sh_4 (S : SC) (m : MO) : shRR S m 4 = m.2.1 := rfl
theorem sh_5 (S : SC) (m : MO) : shRR S m 5 = cOS S m.1 m.2.1 := rfl
theorem sh_6 (S : SC) (m : MO) : shRR S m 6 = -12 := rfl
theorem po_v {m : MO} {i : Int} (h0 : 0 ≤ i) (h1 : i < 3) : poRR m i 0 = m.2.2.1 i := (if_pos ⟨h0, h1⟩).trans (if_neg (by decide))
theorem po_f {m : MO} {i : Int} (h0 : 0 ≤ i) (h1 : i < 3) : poRR m i 1 = m.2.2.2 i := (if_pos ⟨h0, h1⟩).trans (if_pos (by decide))
theorem po_3 (m : MO) : poRR m 3 1 = -12 := if_neg (by omega)
theorem sk_3 {S : SC} (v : Int) : cSK S v = 0 ∨ cSK S v = 1 ∨ cSK S v = 2 := by unfold cSK; (repeat' split) <;> omega
theorem sk_end {S : SC} {v : Int} (h : cSK S v = 2) : cKind S v ≠ 0 ∧ cKind S v ≠ 6 := by unfold cSK at h; (repeat' split at h) <;> omega
theorem en_form {m : MO} {k : Int} (h : plOk m.2.2.1 m.2.2.2 k) : (m.2.2.1 k = -11 ∧ m.2.2.2 k = -11 ∧ en m.2.2.1 m.2.2.2 k = 0) ∨ ((0 ≤ m.2.2.1 k ∧ m.2.2.1 k ≤ 5) ∧ (0 ≤ m.2.2.2 k ∧ m.2.2.2 k ≤ 4) ∧ en m.2.2.1 m.2.2.2 k = 8 * (m.2.2.1 k + 1) + m.2.2.2 k) := by
  rcases h with ⟨a, b⟩ | ⟨a, b⟩
  · exact Or.inl ⟨a, b, if_pos a⟩
  · exact Or.inr ⟨a, b, if_neg (by omega)⟩
set_option maxRecDepth 100000 in
set_option maxHeartbeats 4000000 in
theorem sL_isShown {d : Nat} {h : AH} {R : RP} {x b : Nat} {P : PL} {T : TX} {fm : FN} {a : Nat} {fp : FN} {S : SC} {B : FN} (p0 : h.2 a = some (kA 0 64 fp)) (hp : pRel fp S) (hB : rScr B S) (ho : pAt h x S P T) (hb : plI P) (hT : txI T) (m0 : h.2 b = some (kA 0 3 fm)) (hm : mReg fm (nowM P)) (hs : moS S (nowM P)) (k : R (some (vI 1)) h) : AM mL_isShown (d + 5) h [vR x, vR a, vR b] R := by
  refine AM.of (L := [some (vR x), some (vR a), some (vR b), none, none, none, none, none]) ok_L_isShown (by decide) (fun G => Nat.le_of_ble_eq_true rfl) rfl ?_
  have hp1 := hp.1
  have hp2 := hp.2.1
  obtain ⟨fs, x0⟩ := ho.ob
  have n0 := hs.2.1.1
  have n1 := hs.2.1.2
  have q3 := sk_3 (S := S) (nowM P).1
  have e1 : cSK S (nowM P).1 = 0 → ((nowM P).1 < S.1 ∧ cKind S (nowM P).1 = 0 ∧ fp (4 * (nowM P).1 + 1) = cNum S (nowM P).1 0 ∧ fp (4 * (nowM P).1 + 2) = cSN S (nowM P).1) := fun z => by
    have kk := sk_line z
    have kl := kd_lt (S := S) (v := (nowM P).1) (by omega)
    have pn := (hp.2.2 _ n0 kl.2.1).n (by omega)
    have e : cSN S (nowM P).1 = _ := (if_neg (by omega)).trans (if_pos kl)
    rw [e, if_pos kk]
    exact ⟨kl.2.1, kk, pn.1, pn.2.1⟩
  have e2 : cSK S (nowM P).1 = 1 → ((nowM P).1 < S.1 ∧ cKind S (nowM P).1 = 6 ∧ fp (4 * (nowM P).1 + 1) = cSN S (nowM P).1) := fun z => by
    have kk := sk_choice z
    have kl := kd_lt (S := S) (v := (nowM P).1) (by omega)
    exact ⟨kl.2.1, kk, lEnd hp hB n0 kl.2.1 (by omega)⟩
  have e3 : cSK S (nowM P).1 ≠ 1 → cOS S (nowM P).1 (nowM P).2.1 = -11 := fun z => by
    refine if_neg ?_
    rcases q3 with y | y | y
    · have := sk_line y; omega
    · exact absurd y z
    · exact (sk_end y).2
  have loop : ∀ (nf : Nat) (i : Nat) (x7 : Option AV) (hi : i ≤ 3) (hn : 3 - i < nf), AW mL_isShown (d + 5) (mC mL_isShown, mS mL_isShown) 140 [some (vR x), some (vR a), some (vR b), some (vI (nowM P).1), some (vI (cSK S (nowM P).1)), some (vI (cSN S (nowM P).1)), some (vI i), x7] [] h R := by
    intro nf
    induction nf with
    | zero => intro i  x7  hi hn; omega
    | succ nf ih =>
      intro i  x7  hi hn
      refine A.il8_6 dL_isShown_140 ?_
      refine A.iconst dL_isShown_142 ?_
      refine A.ic_ge dL_isShown_143 (fun c143 => ?_) (fun c143 => ?_)
      · refine A.al8_0 dL_isShown_220 ?_
        refine A.bipush dL_isShown_221 ?_
        refine A.v1 dL_isShown_223 (s5_shown ho hB hb hT (kS ?_)) (hc := x0)
        rw [sh_6]
        refine A.bipush dL_isShown_226 ?_
        refine A.ic_ne dL_isShown_228 (fun c228 => absurd rfl c228) (fun c228 => ?_)
        refine A.al8_0 dL_isShown_231 ?_
        refine A.iconst dL_isShown_232 ?_
        refine A.iconst dL_isShown_233 ?_
        refine A.v2 dL_isShown_234 (s5_portrait ho hB hb hT (kS ?_)) (hc := x0)
        rw [po_3]
        refine A.bipush dL_isShown_237 ?_
        refine A.ic_ne dL_isShown_239 (fun c239 => absurd rfl c239) (fun c239 => ?_)
        refine A.iconst dL_isShown_242 ?_
        refine A.goto dL_isShown_243 ?_
        refine A.zret dL_isShown_247 ?_
        exact k
      · have pe := en_form (hs.1.at (k := (i : Int)) (by omega) (by omega))
        refine A.al8_2 dL_isShown_146 ?_
        refine A.iconst dL_isShown_147 ?_
        refine A.iald dL_isShown_148 ?_ (hc := m0)
        rw [hm.2.2]
        refine A.bipush dL_isShown_149 ?_
        refine A.il8_6 dL_isShown_151 ?_
        refine A.imul dL_isShown_153 ?_
        refine A.ishr dL_isShown_154 ?_
        refine A.bipush dL_isShown_155 ?_
        refine A.iand dL_isShown_157 ?_
        rw [mpk_get hs.1 (k := (i : Int)) (by omega) (by omega)]
        refine A.is8_7 dL_isShown_158 ?_
        refine A.al8_0 dL_isShown_160 ?_
        refine A.il8_6 dL_isShown_161 ?_
        refine A.iconst dL_isShown_163 ?_
        refine A.v2 dL_isShown_164 (s5_portrait ho hB hb hT (kS ?_)) (hc := x0)
        rw [po_v (by omega) (by omega)]
        refine A.il8_7 dL_isShown_167 ?_
        refine A.if_ne dL_isShown_169 (fun c169 => ?_) (fun c169 => ?_)
        · refine A.il8_7 dL_isShown_177 ?_
          refine A.bipush dL_isShown_179 ?_
          refine A.idiv dL_isShown_181 ?_
          refine A.iconst dL_isShown_182 ?_
          refine A.isub dL_isShown_183 ?_
          refine A.ic_ne dL_isShown_184 (fun c184 => by exfalso; omega) (fun c184 => ?_)
          refine A.al8_0 dL_isShown_187 ?_
          refine A.il8_6 dL_isShown_188 ?_
          refine A.iconst dL_isShown_190 ?_
          refine A.v2 dL_isShown_191 (s5_portrait ho hB hb hT (kS ?_)) (hc := x0)
          rw [po_f (by omega) (by omega)]
          refine A.il8_7 dL_isShown_194 ?_
          refine A.if_ne dL_isShown_196 (fun c196 => ?_) (fun c196 => ?_)
          · refine A.il8_7 dL_isShown_204 ?_
            refine A.bipush dL_isShown_206 ?_
            refine A.irem dL_isShown_208 ?_
            refine A.ic_eq dL_isShown_209 (fun c209 => ?_) (fun c209 => by exfalso; omega)
            refine A.ii8_6 dL_isShown_214 ?_
            refine A.goto dL_isShown_217 ?_
            exact ih (i + 1) _ (by omega) (by omega)
          · refine A.bipush dL_isShown_199 ?_
            refine A.goto dL_isShown_201 ?_
            refine A.ic_eq dL_isShown_209 (fun c209 => ?_) (fun c209 => by exfalso; omega)
            refine A.ii8_6 dL_isShown_214 ?_
            refine A.goto dL_isShown_217 ?_
            exact ih (i + 1) _ (by omega) (by omega)
        · refine A.bipush dL_isShown_172 ?_
          refine A.goto dL_isShown_174 ?_
          refine A.ic_ne dL_isShown_184 (fun c184 => by exfalso; omega) (fun c184 => ?_)
          refine A.al8_0 dL_isShown_187 ?_
          refine A.il8_6 dL_isShown_188 ?_
          refine A.iconst dL_isShown_190 ?_
          refine A.v2 dL_isShown_191 (s5_portrait ho hB hb hT (kS ?_)) (hc := x0)
          rw [po_f (by omega) (by omega)]
          refine A.il8_7 dL_isShown_194 ?_
          refine A.if_ne dL_isShown_196 (fun c196 => ?_) (fun c196 => ?_)
          · refine A.il8_7 dL_isShown_204 ?_
            refine A.bipush dL_isShown_206 ?_
            refine A.irem dL_isShown_208 ?_
            refine A.ic_eq dL_isShown_209 (fun c209 => ?_) (fun c209 => by exfalso; omega)
            refine A.ii8_6 dL_isShown_214 ?_
            refine A.goto dL_isShown_217 ?_
            exact ih (i + 1) _ (by omega) (by omega)
          · refine A.bipush dL_isShown_199 ?_
            refine A.goto dL_isShown_201 ?_
            refine A.ic_eq dL_isShown_209 (fun c209 => ?_) (fun c209 => by exfalso; omega)
            refine A.ii8_6 dL_isShown_214 ?_
            refine A.goto dL_isShown_217 ?_
            exact ih (i + 1) _ (by omega) (by omega)
  refine A.al8_2 dL_isShown_0 ?_
  refine A.iconst dL_isShown_1 ?_
  refine A.iald dL_isShown_2 ?_ (hc := m0)
  rw [hm.1]
  refine A.is8_3 dL_isShown_3 ?_
  refine A.al8_1 dL_isShown_4 ?_
  refine A.il8_3 dL_isShown_5 ?_
  refine A.s2 dL_isShown_6 (sL_shownKind p0 hp hB (by omega) (by omega) (kS ?_))
  rw [lSK_s hB n0 hs.2.2]
  refine A.is8_4 dL_isShown_9 ?_
  refine A.il8_4 dL_isShown_11 ?_
  refine A.iconst dL_isShown_13 ?_
  refine A.ic_ne dL_isShown_14 (fun c14 => ?_) (fun c14 => ?_)
  · have y1 : (nowM P).1 < S.1 := by
      rcases q3 with y | y | y
      · exact (e1 y).1
      · exact (e2 y).1
      · omega
    refine A.al8_1 dL_isShown_25 ?_
    refine A.iconst dL_isShown_26 ?_
    refine A.il8_3 dL_isShown_27 ?_
    refine A.imul dL_isShown_28 ?_
    refine A.il8_4 dL_isShown_29 ?_
    refine A.if_ne dL_isShown_31 (fun c31 => ?_) (fun c31 => ?_)
    · refine A.iconst dL_isShown_38 ?_
      refine A.iadd dL_isShown_39 ?_
      refine A.iald dL_isShown_40 ?_ (hc := p0)
      first | rw [(e1 (by omega)).2.2.2] | rw [(e2 (by omega)).2.2]
      refine A.is8_5 dL_isShown_41 ?_
      refine A.al8_0 dL_isShown_43 ?_
      refine A.iconst dL_isShown_44 ?_
      refine A.v1 dL_isShown_45 (s5_shown ho hB hb hT (kS ?_)) (hc := x0)
      rw [sh_0]
      refine A.il8_3 dL_isShown_48 ?_
      refine A.ic_ne dL_isShown_49 (fun c49 => absurd rfl c49) (fun c49 => ?_)
      refine A.al8_0 dL_isShown_52 ?_
      refine A.iconst dL_isShown_53 ?_
      refine A.v1 dL_isShown_54 (s5_shown ho hB hb hT (kS ?_)) (hc := x0)
      rw [sh_1]
      refine A.il8_4 dL_isShown_57 ?_
      refine A.ic_ne dL_isShown_59 (fun c59 => absurd rfl c59) (fun c59 => ?_)
      refine A.al8_0 dL_isShown_62 ?_
      refine A.iconst dL_isShown_63 ?_
      refine A.v1 dL_isShown_64 (s5_shown ho hB hb hT (kS ?_)) (hc := x0)
      rw [sh_2]
      refine A.il8_4 dL_isShown_67 ?_
      refine A.if_ne dL_isShown_69 (fun c69 => ?_) (fun c69 => ?_)
      · refine A.bipush dL_isShown_82 ?_
        refine A.ic_ne dL_isShown_84 (fun c84 => by first | exact absurd (if_pos (by omega)) c84 | exact absurd (if_neg (by omega)) c84) (fun c84 => ?_)
        refine A.al8_0 dL_isShown_87 ?_
        refine A.iconst dL_isShown_88 ?_
        refine A.v1 dL_isShown_89 (s5_shown ho hB hb hT (kS ?_)) (hc := x0)
        rw [sh_3]
        refine A.il8_5 dL_isShown_92 ?_
        refine A.ic_ne dL_isShown_94 (fun c94 => absurd rfl c94) (fun c94 => ?_)
        refine A.al8_0 dL_isShown_97 ?_
        refine A.iconst dL_isShown_98 ?_
        refine A.v1 dL_isShown_99 (s5_shown ho hB hb hT (kS ?_)) (hc := x0)
        rw [sh_4]
        refine A.al8_2 dL_isShown_102 ?_
        refine A.iconst dL_isShown_103 ?_
        refine A.iald dL_isShown_104 ?_ (hc := m0)
        rw [hm.2.1]
        refine A.ic_ne dL_isShown_105 (fun c105 => absurd rfl c105) (fun c105 => ?_)
        refine A.al8_0 dL_isShown_108 ?_
        refine A.iconst dL_isShown_109 ?_
        refine A.v1 dL_isShown_110 (s5_shown ho hB hb hT (kS ?_)) (hc := x0)
        rw [sh_5]
        refine A.il8_4 dL_isShown_113 ?_
        refine A.iconst dL_isShown_115 ?_
        refine A.ic_ne dL_isShown_116 (fun c116 => ?_) (fun c116 => ?_)
        · refine A.bipush dL_isShown_130 ?_
          refine A.ic_eq dL_isShown_132 (fun c132 => ?_) (fun c132 => by first | exact absurd rfl c132 | exact absurd (e3 (by omega)) c132)
          refine A.iconst dL_isShown_137 ?_
          refine A.is8_6 dL_isShown_138 ?_
          exact loop 4 0 _ (by omega) (by omega)
        · refine A.al8_1 dL_isShown_119 ?_
          refine A.il8_3 dL_isShown_120 ?_
          refine A.al8_2 dL_isShown_121 ?_
          refine A.iconst dL_isShown_122 ?_
          refine A.iald dL_isShown_123 ?_ (hc := m0)
          rw [hm.2.1]
          refine A.s3 dL_isShown_124 (sL_openOnes p0 hp hB n0 (e2 (by omega)).1 (e2 (by omega)).2.1 (kS ?_))
          refine A.goto dL_isShown_127 ?_
          refine A.ic_eq dL_isShown_132 (fun c132 => ?_) (fun c132 => by first | exact absurd rfl c132 | exact absurd (e3 (by omega)) c132)
          refine A.iconst dL_isShown_137 ?_
          refine A.is8_6 dL_isShown_138 ?_
          exact loop 4 0 _ (by omega) (by omega)
      · refine A.al8_1 dL_isShown_72 ?_
        refine A.iconst dL_isShown_73 ?_
        refine A.il8_3 dL_isShown_74 ?_
        refine A.imul dL_isShown_75 ?_
        refine A.iconst dL_isShown_76 ?_
        refine A.iadd dL_isShown_77 ?_
        refine A.iald dL_isShown_78 ?_ (hc := p0)
        rw [(e1 (by omega)).2.2.1]
        refine A.goto dL_isShown_79 ?_
        refine A.ic_ne dL_isShown_84 (fun c84 => by first | exact absurd (if_pos (by omega)) c84 | exact absurd (if_neg (by omega)) c84) (fun c84 => ?_)
        refine A.al8_0 dL_isShown_87 ?_
        refine A.iconst dL_isShown_88 ?_
        refine A.v1 dL_isShown_89 (s5_shown ho hB hb hT (kS ?_)) (hc := x0)
        rw [sh_3]
        refine A.il8_5 dL_isShown_92 ?_
        refine A.ic_ne dL_isShown_94 (fun c94 => absurd rfl c94) (fun c94 => ?_)
        refine A.al8_0 dL_isShown_97 ?_
        refine A.iconst dL_isShown_98 ?_
        refine A.v1 dL_isShown_99 (s5_shown ho hB hb hT (kS ?_)) (hc := x0)
        rw [sh_4]
        refine A.al8_2 dL_isShown_102 ?_
        refine A.iconst dL_isShown_103 ?_
        refine A.iald dL_isShown_104 ?_ (hc := m0)
        rw [hm.2.1]
        refine A.ic_ne dL_isShown_105 (fun c105 => absurd rfl c105) (fun c105 => ?_)
        refine A.al8_0 dL_isShown_108 ?_
        refine A.iconst dL_isShown_109 ?_
        refine A.v1 dL_isShown_110 (s5_shown ho hB hb hT (kS ?_)) (hc := x0)
        rw [sh_5]
        refine A.il8_4 dL_isShown_113 ?_
        refine A.iconst dL_isShown_115 ?_
        refine A.ic_ne dL_isShown_116 (fun c116 => ?_) (fun c116 => ?_)
        · refine A.bipush dL_isShown_130 ?_
          refine A.ic_eq dL_isShown_132 (fun c132 => ?_) (fun c132 => by first | exact absurd rfl c132 | exact absurd (e3 (by omega)) c132)
          refine A.iconst dL_isShown_137 ?_
          refine A.is8_6 dL_isShown_138 ?_
          exact loop 4 0 _ (by omega) (by omega)
        · refine A.al8_1 dL_isShown_119 ?_
          refine A.il8_3 dL_isShown_120 ?_
          refine A.al8_2 dL_isShown_121 ?_
          refine A.iconst dL_isShown_122 ?_
          refine A.iald dL_isShown_123 ?_ (hc := m0)
          rw [hm.2.1]
          refine A.s3 dL_isShown_124 (sL_openOnes p0 hp hB n0 (e2 (by omega)).1 (e2 (by omega)).2.1 (kS ?_))
          refine A.goto dL_isShown_127 ?_
          refine A.ic_eq dL_isShown_132 (fun c132 => ?_) (fun c132 => by first | exact absurd rfl c132 | exact absurd (e3 (by omega)) c132)
          refine A.iconst dL_isShown_137 ?_
          refine A.is8_6 dL_isShown_138 ?_
          exact loop 4 0 _ (by omega) (by omega)
    · refine A.iconst dL_isShown_34 ?_
      refine A.goto dL_isShown_35 ?_
      refine A.iadd dL_isShown_39 ?_
      refine A.iald dL_isShown_40 ?_ (hc := p0)
      first | rw [(e1 (by omega)).2.2.2] | rw [(e2 (by omega)).2.2]
      refine A.is8_5 dL_isShown_41 ?_
      refine A.al8_0 dL_isShown_43 ?_
      refine A.iconst dL_isShown_44 ?_
      refine A.v1 dL_isShown_45 (s5_shown ho hB hb hT (kS ?_)) (hc := x0)
      rw [sh_0]
      refine A.il8_3 dL_isShown_48 ?_
      refine A.ic_ne dL_isShown_49 (fun c49 => absurd rfl c49) (fun c49 => ?_)
      refine A.al8_0 dL_isShown_52 ?_
      refine A.iconst dL_isShown_53 ?_
      refine A.v1 dL_isShown_54 (s5_shown ho hB hb hT (kS ?_)) (hc := x0)
      rw [sh_1]
      refine A.il8_4 dL_isShown_57 ?_
      refine A.ic_ne dL_isShown_59 (fun c59 => absurd rfl c59) (fun c59 => ?_)
      refine A.al8_0 dL_isShown_62 ?_
      refine A.iconst dL_isShown_63 ?_
      refine A.v1 dL_isShown_64 (s5_shown ho hB hb hT (kS ?_)) (hc := x0)
      rw [sh_2]
      refine A.il8_4 dL_isShown_67 ?_
      refine A.if_ne dL_isShown_69 (fun c69 => ?_) (fun c69 => ?_)
      · refine A.bipush dL_isShown_82 ?_
        refine A.ic_ne dL_isShown_84 (fun c84 => by first | exact absurd (if_pos (by omega)) c84 | exact absurd (if_neg (by omega)) c84) (fun c84 => ?_)
        refine A.al8_0 dL_isShown_87 ?_
        refine A.iconst dL_isShown_88 ?_
        refine A.v1 dL_isShown_89 (s5_shown ho hB hb hT (kS ?_)) (hc := x0)
        rw [sh_3]
        refine A.il8_5 dL_isShown_92 ?_
        refine A.ic_ne dL_isShown_94 (fun c94 => absurd rfl c94) (fun c94 => ?_)
        refine A.al8_0 dL_isShown_97 ?_
        refine A.iconst dL_isShown_98 ?_
        refine A.v1 dL_isShown_99 (s5_shown ho hB hb hT (kS ?_)) (hc := x0)
        rw [sh_4]
        refine A.al8_2 dL_isShown_102 ?_
        refine A.iconst dL_isShown_103 ?_
        refine A.iald dL_isShown_104 ?_ (hc := m0)
        rw [hm.2.1]
        refine A.ic_ne dL_isShown_105 (fun c105 => absurd rfl c105) (fun c105 => ?_)
        refine A.al8_0 dL_isShown_108 ?_
        refine A.iconst dL_isShown_109 ?_
        refine A.v1 dL_isShown_110 (s5_shown ho hB hb hT (kS ?_)) (hc := x0)
        rw [sh_5]
        refine A.il8_4 dL_isShown_113 ?_
        refine A.iconst dL_isShown_115 ?_
        refine A.ic_ne dL_isShown_116 (fun c116 => ?_) (fun c116 => ?_)
        · refine A.bipush dL_isShown_130 ?_
          refine A.ic_eq dL_isShown_132 (fun c132 => ?_) (fun c132 => by first | exact absurd rfl c132 | exact absurd (e3 (by omega)) c132)
          refine A.iconst dL_isShown_137 ?_
          refine A.is8_6 dL_isShown_138 ?_
          exact loop 4 0 _ (by omega) (by omega)
        · refine A.al8_1 dL_isShown_119 ?_
          refine A.il8_3 dL_isShown_120 ?_
          refine A.al8_2 dL_isShown_121 ?_
          refine A.iconst dL_isShown_122 ?_
          refine A.iald dL_isShown_123 ?_ (hc := m0)
          rw [hm.2.1]
          refine A.s3 dL_isShown_124 (sL_openOnes p0 hp hB n0 (e2 (by omega)).1 (e2 (by omega)).2.1 (kS ?_))
          refine A.goto dL_isShown_127 ?_
          refine A.ic_eq dL_isShown_132 (fun c132 => ?_) (fun c132 => by first | exact absurd rfl c132 | exact absurd (e3 (by omega)) c132)
          refine A.iconst dL_isShown_137 ?_
          refine A.is8_6 dL_isShown_138 ?_
          exact loop 4 0 _ (by omega) (by omega)
      · refine A.al8_1 dL_isShown_72 ?_
        refine A.iconst dL_isShown_73 ?_
        refine A.il8_3 dL_isShown_74 ?_
        refine A.imul dL_isShown_75 ?_
        refine A.iconst dL_isShown_76 ?_
        refine A.iadd dL_isShown_77 ?_
        refine A.iald dL_isShown_78 ?_ (hc := p0)
        rw [(e1 (by omega)).2.2.1]
        refine A.goto dL_isShown_79 ?_
        refine A.ic_ne dL_isShown_84 (fun c84 => by first | exact absurd (if_pos (by omega)) c84 | exact absurd (if_neg (by omega)) c84) (fun c84 => ?_)
        refine A.al8_0 dL_isShown_87 ?_
        refine A.iconst dL_isShown_88 ?_
        refine A.v1 dL_isShown_89 (s5_shown ho hB hb hT (kS ?_)) (hc := x0)
        rw [sh_3]
        refine A.il8_5 dL_isShown_92 ?_
        refine A.ic_ne dL_isShown_94 (fun c94 => absurd rfl c94) (fun c94 => ?_)
        refine A.al8_0 dL_isShown_97 ?_
        refine A.iconst dL_isShown_98 ?_
        refine A.v1 dL_isShown_99 (s5_shown ho hB hb hT (kS ?_)) (hc := x0)
        rw [sh_4]
        refine A.al8_2 dL_isShown_102 ?_
        refine A.iconst dL_isShown_103 ?_
        refine A.iald dL_isShown_104 ?_ (hc := m0)
        rw [hm.2.1]
        refine A.ic_ne dL_isShown_105 (fun c105 => absurd rfl c105) (fun c105 => ?_)
        refine A.al8_0 dL_isShown_108 ?_
        refine A.iconst dL_isShown_109 ?_
        refine A.v1 dL_isShown_110 (s5_shown ho hB hb hT (kS ?_)) (hc := x0)
        rw [sh_5]
        refine A.il8_4 dL_isShown_113 ?_
        refine A.iconst dL_isShown_115 ?_
        refine A.ic_ne dL_isShown_116 (fun c116 => ?_) (fun c116 => ?_)
        · refine A.bipush dL_isShown_130 ?_
          refine A.ic_eq dL_isShown_132 (fun c132 => ?_) (fun c132 => by first | exact absurd rfl c132 | exact absurd (e3 (by omega)) c132)
          refine A.iconst dL_isShown_137 ?_
          refine A.is8_6 dL_isShown_138 ?_
          exact loop 4 0 _ (by omega) (by omega)
        · refine A.al8_1 dL_isShown_119 ?_
          refine A.il8_3 dL_isShown_120 ?_
          refine A.al8_2 dL_isShown_121 ?_
          refine A.iconst dL_isShown_122 ?_
          refine A.iald dL_isShown_123 ?_ (hc := m0)
          rw [hm.2.1]
          refine A.s3 dL_isShown_124 (sL_openOnes p0 hp hB n0 (e2 (by omega)).1 (e2 (by omega)).2.1 (kS ?_))
          refine A.goto dL_isShown_127 ?_
          refine A.ic_eq dL_isShown_132 (fun c132 => ?_) (fun c132 => by first | exact absurd rfl c132 | exact absurd (e3 (by omega)) c132)
          refine A.iconst dL_isShown_137 ?_
          refine A.is8_6 dL_isShown_138 ?_
          exact loop 4 0 _ (by omega) (by omega)
  · refine A.al8_1 dL_isShown_17 ?_
    refine A.il8_3 dL_isShown_18 ?_
    refine A.s2 dL_isShown_19 (sL_endOf p0 hp hB n0 n1 (sk_end (by omega)).1 (kS ?_))
    refine A.goto dL_isShown_22 ?_
    refine A.is8_5 dL_isShown_41 ?_
    refine A.al8_0 dL_isShown_43 ?_
    refine A.iconst dL_isShown_44 ?_
    refine A.v1 dL_isShown_45 (s5_shown ho hB hb hT (kS ?_)) (hc := x0)
    rw [sh_0]
    refine A.il8_3 dL_isShown_48 ?_
    refine A.ic_ne dL_isShown_49 (fun c49 => absurd rfl c49) (fun c49 => ?_)
    refine A.al8_0 dL_isShown_52 ?_
    refine A.iconst dL_isShown_53 ?_
    refine A.v1 dL_isShown_54 (s5_shown ho hB hb hT (kS ?_)) (hc := x0)
    rw [sh_1]
    refine A.il8_4 dL_isShown_57 ?_
    refine A.ic_ne dL_isShown_59 (fun c59 => absurd rfl c59) (fun c59 => ?_)
    refine A.al8_0 dL_isShown_62 ?_
    refine A.iconst dL_isShown_63 ?_
    refine A.v1 dL_isShown_64 (s5_shown ho hB hb hT (kS ?_)) (hc := x0)
    rw [sh_2]
    refine A.il8_4 dL_isShown_67 ?_
    refine A.if_ne dL_isShown_69 (fun c69 => ?_) (fun c69 => ?_)
    · refine A.bipush dL_isShown_82 ?_
      refine A.ic_ne dL_isShown_84 (fun c84 => by first | exact absurd (if_pos (by omega)) c84 | exact absurd (if_neg (by omega)) c84) (fun c84 => ?_)
      refine A.al8_0 dL_isShown_87 ?_
      refine A.iconst dL_isShown_88 ?_
      refine A.v1 dL_isShown_89 (s5_shown ho hB hb hT (kS ?_)) (hc := x0)
      rw [sh_3]
      refine A.il8_5 dL_isShown_92 ?_
      refine A.ic_ne dL_isShown_94 (fun c94 => absurd rfl c94) (fun c94 => ?_)
      refine A.al8_0 dL_isShown_97 ?_
      refine A.iconst dL_isShown_98 ?_
      refine A.v1 dL_isShown_99 (s5_shown ho hB hb hT (kS ?_)) (hc := x0)
      rw [sh_4]
      refine A.al8_2 dL_isShown_102 ?_
      refine A.iconst dL_isShown_103 ?_
      refine A.iald dL_isShown_104 ?_ (hc := m0)
      rw [hm.2.1]
      refine A.ic_ne dL_isShown_105 (fun c105 => absurd rfl c105) (fun c105 => ?_)
      refine A.al8_0 dL_isShown_108 ?_
      refine A.iconst dL_isShown_109 ?_
      refine A.v1 dL_isShown_110 (s5_shown ho hB hb hT (kS ?_)) (hc := x0)
      rw [sh_5]
      refine A.il8_4 dL_isShown_113 ?_
      refine A.iconst dL_isShown_115 ?_
      refine A.ic_ne dL_isShown_116 (fun c116 => ?_) (fun c116 => ?_)
      · refine A.bipush dL_isShown_130 ?_
        refine A.ic_eq dL_isShown_132 (fun c132 => ?_) (fun c132 => by first | exact absurd rfl c132 | exact absurd (e3 (by omega)) c132)
        refine A.iconst dL_isShown_137 ?_
        refine A.is8_6 dL_isShown_138 ?_
        exact loop 4 0 _ (by omega) (by omega)
      · refine A.al8_1 dL_isShown_119 ?_
        refine A.il8_3 dL_isShown_120 ?_
        refine A.al8_2 dL_isShown_121 ?_
        refine A.iconst dL_isShown_122 ?_
        refine A.iald dL_isShown_123 ?_ (hc := m0)
        rw [hm.2.1]
        refine A.s3 dL_isShown_124 (sL_openOnes p0 hp hB n0 (e2 (by omega)).1 (e2 (by omega)).2.1 (kS ?_))
        refine A.goto dL_isShown_127 ?_
        refine A.ic_eq dL_isShown_132 (fun c132 => ?_) (fun c132 => by first | exact absurd rfl c132 | exact absurd (e3 (by omega)) c132)
        refine A.iconst dL_isShown_137 ?_
        refine A.is8_6 dL_isShown_138 ?_
        exact loop 4 0 _ (by omega) (by omega)
    · refine A.al8_1 dL_isShown_72 ?_
      refine A.iconst dL_isShown_73 ?_
      refine A.il8_3 dL_isShown_74 ?_
      refine A.imul dL_isShown_75 ?_
      refine A.iconst dL_isShown_76 ?_
      refine A.iadd dL_isShown_77 ?_
      refine A.iald dL_isShown_78 ?_ (hc := p0)
      rw [(e1 (by omega)).2.2.1]
      refine A.goto dL_isShown_79 ?_
      refine A.ic_ne dL_isShown_84 (fun c84 => by first | exact absurd (if_pos (by omega)) c84 | exact absurd (if_neg (by omega)) c84) (fun c84 => ?_)
      refine A.al8_0 dL_isShown_87 ?_
      refine A.iconst dL_isShown_88 ?_
      refine A.v1 dL_isShown_89 (s5_shown ho hB hb hT (kS ?_)) (hc := x0)
      rw [sh_3]
      refine A.il8_5 dL_isShown_92 ?_
      refine A.ic_ne dL_isShown_94 (fun c94 => absurd rfl c94) (fun c94 => ?_)
      refine A.al8_0 dL_isShown_97 ?_
      refine A.iconst dL_isShown_98 ?_
      refine A.v1 dL_isShown_99 (s5_shown ho hB hb hT (kS ?_)) (hc := x0)
      rw [sh_4]
      refine A.al8_2 dL_isShown_102 ?_
      refine A.iconst dL_isShown_103 ?_
      refine A.iald dL_isShown_104 ?_ (hc := m0)
      rw [hm.2.1]
      refine A.ic_ne dL_isShown_105 (fun c105 => absurd rfl c105) (fun c105 => ?_)
      refine A.al8_0 dL_isShown_108 ?_
      refine A.iconst dL_isShown_109 ?_
      refine A.v1 dL_isShown_110 (s5_shown ho hB hb hT (kS ?_)) (hc := x0)
      rw [sh_5]
      refine A.il8_4 dL_isShown_113 ?_
      refine A.iconst dL_isShown_115 ?_
      refine A.ic_ne dL_isShown_116 (fun c116 => ?_) (fun c116 => ?_)
      · refine A.bipush dL_isShown_130 ?_
        refine A.ic_eq dL_isShown_132 (fun c132 => ?_) (fun c132 => by first | exact absurd rfl c132 | exact absurd (e3 (by omega)) c132)
        refine A.iconst dL_isShown_137 ?_
        refine A.is8_6 dL_isShown_138 ?_
        exact loop 4 0 _ (by omega) (by omega)
      · refine A.al8_1 dL_isShown_119 ?_
        refine A.il8_3 dL_isShown_120 ?_
        refine A.al8_2 dL_isShown_121 ?_
        refine A.iconst dL_isShown_122 ?_
        refine A.iald dL_isShown_123 ?_ (hc := m0)
        rw [hm.2.1]
        refine A.s3 dL_isShown_124 (sL_openOnes p0 hp hB n0 (e2 (by omega)).1 (e2 (by omega)).2.1 (kS ?_))
        refine A.goto dL_isShown_127 ?_
        refine A.ic_eq dL_isShown_132 (fun c132 => ?_) (fun c132 => by first | exact absurd rfl c132 | exact absurd (e3 (by omega)) c132)
        refine A.iconst dL_isShown_137 ?_
        refine A.is8_6 dL_isShown_138 ?_
        exact loop 4 0 _ (by omega) (by omega)
theorem go_line {S : SC} {P : PL} (h : cSK S (nowM P).1 = 0) : goPP S P = goP S P ((nowM P).1 + 1) ∧ goRR S P = (goM S P ((nowM P).1 + 1)).1 := ⟨if_pos h, if_pos h⟩
theorem go_no {S : SC} {P : PL} (h : cSK S (nowM P).1 ≠ 0) : goPP S P = P ∧ goRR S P = -13 := ⟨if_neg h, if_neg h⟩
theorem sk_no {S : SC} {P : PL} (h : cSK S (nowM P).1 ≠ 0) : skPP S P = P ∧ skRR S P = -13 := ⟨if_neg h, if_neg h⟩
set_option maxRecDepth 100000 in
set_option maxHeartbeats 4000000 in
theorem sL_goes {d : Nat} {h : AH} {R : RP} {x : Nat} {S : SC} {T : TX} {B fp : FN} {sl : Int} (hI : lI h x S T fp sl) (hp : pRel fp S) (hB : rScr B S) (hT : txI T) (k : ∀ h', lI h' x S T fp sl → R (some (vI 1)) h') : AM mL_goes (d + 7) h [vR x, vR (x + 98), vR (x + 99), vR (x + 100)] R := by
  refine AM.of (L := [some (vR x), some (vR (x + 98)), some (vR (x + 99)), some (vR (x + 100))]) ok_L_goes (by decide) (fun G => Nat.le_of_ble_eq_true rfl) rfl ?_
  obtain ⟨P, ff, fm, fk, ho, hb, p0, s0, m0, t0, hh, hm, hk⟩ := hI
  obtain ⟨hs, hse⟩ := hh.now hb
  obtain ⟨fs, x0⟩ := ho.ob
  have hp1 := hp.1
  have hp2 := hp.2.1
  have b1 := hb.1
  have n0 := hs.2.1.1
  have n1 := hs.2.1.2
  have h60 := hh.1
  have h61 := hh.2.1
  have ks := lSK_s hB n0 hs.2.2
  refine A.al4_1 dL_goes_0 ?_
  refine A.al4_3 dL_goes_1 ?_
  refine A.iconst dL_goes_2 ?_
  refine A.iald dL_goes_3 ?_ (hc := m0)
  rw [hm.1]
  refine A.s2 dL_goes_4 (sL_shownKind p0 hp hB n0 n1 (kS ?_))
  rw [ks]
  refine A.if_eq dL_goes_7 (fun c7 => ?_) (fun c7 => ?_)
  · have nl : cSK S (nowM P).1 = 0 := by omega
    have kl := kd_lt (S := S) (v := (nowM P).1) (by have := sk_line nl; omega)
    refine A.al4_1 dL_goes_34 ?_
    refine A.al4_3 dL_goes_35 ?_
    refine A.al4_3 dL_goes_36 ?_
    refine A.iconst dL_goes_37 ?_
    refine A.iald dL_goes_38 ?_ (hc := m0)
    rw [hm.1]
    refine A.iconst dL_goes_39 ?_
    refine A.iadd dL_goes_40 ?_
    refine A.s3 dL_goes_41 (sL_carries p0 hp hB m0 (by omega) hs.1 hm.2.1 hm.2.2 (by omega) (by omega) (fun h41 fm41 e41 r41 q41 f41 => kN ?_))
    have ho := ho.fr f41 (by omega)
    have p0 := f41.get p0 (by omega)
    have s0 := f41.get s0 (by omega)
    have t0 := f41.get t0 (by omega)
    have m0 := e41
    obtain ⟨fs, x0⟩ := ho.ob
    have mo : moS S (goM S P ((nowM P).1 + 1)) := come_ok hB (by omega) (by omega) q41
    have r41 : mReg fm41 (goM S P ((nowM P).1 + 1)) := r41
    have pl := plI_go (v := (nowM P).1 + 1) hB hb (by omega) (by omega)
    refine A.al4_2 dL_goes_44 ?_
    refine A.al4_3 dL_goes_45 ?_
    refine A.s2 dL_goes_46 (sL_puts s0 m0 (by omega) (by omega) (by omega) (fun h46 ff46 e46 r46 f46 => kN ?_))
    have ho := ho.fr f46 (by omega)
    have p0 := f46.get p0 (by omega)
    have m0 := f46.get m0 (by omega)
    have t0 := f46.get t0 (by omega)
    have s0 := e46
    obtain ⟨fs, x0⟩ := ho.ob
    refine A.al4_0 dL_goes_49 ?_
    refine A.v0 dL_goes_50 (s5_go ho hB hb hT (fun h50 hq50 F50 => kS ?_)) (hc := x0)
    rw [(go_line nl).2]
    rw [(go_line nl).1] at hq50
    have ho := hq50
    have p0 := F50.get p0 (by omega)
    have s0 := F50.get s0 (by omega)
    have m0 := F50.get m0 (by omega)
    have t0 := F50.get t0 (by omega)
    obtain ⟨fs, x0⟩ := ho.ob
    refine A.al4_3 dL_goes_53 ?_
    refine A.iconst dL_goes_54 ?_
    refine A.iald dL_goes_55 ?_ (hc := m0)
    rw [r41.1]
    refine A.ic_ne dL_goes_56 (fun c56 => absurd rfl c56) (fun c56 => ?_)
    refine A.iconst dL_goes_59 ?_
    refine A.goto dL_goes_60 ?_
    refine A.zret dL_goes_64 ?_
    exact k _ ⟨_, _, _, _, ho, pl.1, p0, s0, m0, t0, hRel_go hb hh r46 r41 mo, (by rw [pl.2]; exact r41), kRel_go hk mo⟩
  · have nl : cSK S (nowM P).1 ≠ 0 := by omega
    refine A.al4_0 dL_goes_10 ?_
    refine A.v0 dL_goes_11 (s5_go ho hB hb hT (fun h11 hq11 F11 => kS ?_)) (hc := x0)
    rw [(go_no nl).2]
    rw [(go_no nl).1] at hq11
    have ho := hq11
    have p0 := F11.get p0 (by omega)
    have s0 := F11.get s0 (by omega)
    have m0 := F11.get m0 (by omega)
    have t0 := F11.get t0 (by omega)
    obtain ⟨fs, x0⟩ := ho.ob
    refine A.bipush dL_goes_14 ?_
    refine A.ic_ne dL_goes_16 (fun c16 => absurd rfl c16) (fun c16 => ?_)
    refine A.al4_0 dL_goes_19 ?_
    refine A.v0 dL_goes_20 (s5_skip ho hB hb hT (fun h20 hq20 F20 => kS ?_)) (hc := x0)
    rw [(sk_no nl).2]
    rw [(sk_no nl).1] at hq20
    have ho := hq20
    have p0 := F20.get p0 (by omega)
    have s0 := F20.get s0 (by omega)
    have m0 := F20.get m0 (by omega)
    have t0 := F20.get t0 (by omega)
    obtain ⟨fs, x0⟩ := ho.ob
    refine A.bipush dL_goes_23 ?_
    refine A.ic_ne dL_goes_25 (fun c25 => absurd rfl c25) (fun c25 => ?_)
    refine A.iconst dL_goes_28 ?_
    refine A.goto dL_goes_29 ?_
    refine A.zret dL_goes_33 ?_
    exact k _ ⟨P, _, _, _, ho, hb, p0, s0, m0, t0, hh, hm, hk⟩
set_option maxRecDepth 100000 in
set_option maxHeartbeats 4000000 in
theorem sL_turns {d : Nat} {h : AH} {R : RP} {x : Nat} {S : SC} {T : TX} {B fp : FN} {sl : Int} (hI : lI h x S T fp sl) (hp : pRel fp S) (hB : rScr B S) (hT : txI T) {t : Int} (t0 : 1 ≤ t) (t1 : t ≤ 4) (k : ∀ h', lI h' x S T fp sl → R (some (vI 1)) h') : AM mL_turns (d + 2) h [vR x, vR (x + 99), vR (x + 100), vI t] R := by
  refine AM.of (L := [some (vR x), some (vR (x + 99)), some (vR (x + 100)), some (vI t)]) ok_L_turns (by decide) (fun G => Nat.le_of_ble_eq_true rfl) rfl ?_
  obtain ⟨P, ff, fm, fk, ho, hb, p0, s0, m0, t9, hh, hm, hk⟩ := hI
  obtain ⟨hs, hse⟩ := hh.now hb
  obtain ⟨fs, x0⟩ := ho.ob
  have hp1 := hp.1
  have hp2 := hp.2.1
  have b1 := hb.1
  have n0 := hs.2.1.1
  have n1 := hs.2.1.2
  have h60 := hh.1
  have h61 := hh.2.1
  have ks := lSK_s hB n0 hs.2.2
  refine A.il4_3 dL_turns_0 ?_
  refine A.al4_1 dL_turns_1 ?_
  refine A.bipush dL_turns_2 ?_
  refine A.iald dL_turns_4 ?_ (hc := s0)
  rw [h60]
  refine A.ic_lt dL_turns_5 (fun c5 => ?_) (fun c5 => ?_)
  · refine A.al4_1 dL_turns_24 ?_
    refine A.bipush dL_turns_25 ?_
    refine A.dup2 dL_turns_27 ?_
    refine A.iald dL_turns_28 ?_ (hc := s0)
    rw [h60]
    refine A.il4_3 dL_turns_29 ?_
    refine A.isub dL_turns_30 ?_
    refine A.iast dL_turns_31 (fun h31 e31 f31 => ?_) (hc := s0)
    have ho := ho.fr f31 (by omega)
    have p0 := f31.get p0 (by omega)
    have m0 := f31.get m0 (by omega)
    have t9 := f31.get t9 (by omega)
    have s0 := e31
    obtain ⟨fs, x0⟩ := ho.ob
    have z61 : fset ff 60 (P.2.1 + 1 - t) 61 = P.1 - P.2.1 - 1 := (fs_off (by decide)).trans h61
    refine A.al4_1 dL_turns_32 ?_
    refine A.bipush dL_turns_33 ?_
    refine A.dup2 dL_turns_35 ?_
    refine A.iald dL_turns_36 ?_ (hc := s0)
    rw [z61]
    refine A.il4_3 dL_turns_37 ?_
    refine A.iadd dL_turns_38 ?_
    refine A.iast dL_turns_39 (fun h39 e39 f39 => ?_) (hc := s0)
    have ho := ho.fr f39 (by omega)
    have p0 := f39.get p0 (by omega)
    have m0 := f39.get m0 (by omega)
    have t9 := f39.get t9 (by omega)
    have s0 := e39
    obtain ⟨fs, x0⟩ := ho.ob
    have z60 : fset (fset ff 60 (P.2.1 + 1 - t)) 61 (P.1 - P.2.1 - 1 + t) 60 = P.2.1 + 1 - t := (fs_off (by decide)).trans (fs_at rfl)
    refine A.al4_1 dL_turns_40 ?_
    refine A.al4_2 dL_turns_41 ?_
    refine A.al4_1 dL_turns_42 ?_
    refine A.bipush dL_turns_43 ?_
    refine A.iald dL_turns_45 ?_ (hc := s0)
    rw [z60]
    refine A.iconst dL_turns_46 ?_
    refine A.isub dL_turns_47 ?_
    refine A.s3 dL_turns_48 (sL_takes s0 m0 (by omega) (by omega) (by omega) (by omega) (fun h48 g48 e48 y0 y1 y2 f48 => kN ?_))
    have ho := ho.fr f48 (by omega)
    have p0 := f48.get p0 (by omega)
    have s0 := f48.get s0 (by omega)
    have t9 := f48.get t9 (by omega)
    have m0 := e48
    obtain ⟨fs, x0⟩ := ho.ob
    have rw0 := (hh.2.2.2 (P.2.1 - t) (by omega) (by omega)).1
    have pl := plI_turn hh hb (pr := P.2.1 - t) (by omega) (by omega)
    have ix : 3 * (P.2.1 + 1 - t - 1) = 3 * (P.2.1 - t) := by omega
    rw [ix] at y0 y1 y2
    have rm : mReg g48 (nowM (P.1, P.2.1 - t, P.2.2)) := ⟨y0.trans (((fs_off (by omega)).trans (fs_off (by omega))).trans rw0.1), y1.trans (((fs_off (by omega)).trans (fs_off (by omega))).trans rw0.2.1), y2.trans (((fs_off (by omega)).trans (fs_off (by omega))).trans rw0.2.2)⟩
    have e60 : fset (fset ff 60 (P.2.1 + 1 - t)) 61 (P.1 - P.2.1 - 1 + t) 60 = P.2.1 - t + 1 := z60.trans (by omega)
    have e61 : fset (fset ff 60 (P.2.1 + 1 - t)) 61 (P.1 - P.2.1 - 1 + t) 61 = P.1 - (P.2.1 - t) - 1 := (fs_at rfl).trans (by omega)
    refine A.al4_0 dL_turns_51 ?_
    refine A.il4_3 dL_turns_52 ?_
    refine A.v1 dL_turns_53 (s5_back ho hB hb hT (fun h53 hq53 F53 => kS ?_)) (hc := x0)
    rw [show bkRR P t = (nowM (P.1, P.2.1 - t, P.2.2)).1 from (if_pos (by omega)).trans (if_pos (by omega))]
    rw [show bkPP P t = (P.1, P.2.1 - t, P.2.2) from if_pos (by omega)] at hq53
    have ho := hq53
    have p0 := F53.get p0 (by omega)
    have s0 := F53.get s0 (by omega)
    have m0 := F53.get m0 (by omega)
    have t9 := F53.get t9 (by omega)
    obtain ⟨fs, x0⟩ := ho.ob
    refine A.al4_2 dL_turns_56 ?_
    refine A.iconst dL_turns_57 ?_
    refine A.iald dL_turns_58 ?_ (hc := m0)
    rw [rm.1]
    refine A.ic_ne dL_turns_59 (fun c59 => absurd rfl c59) (fun c59 => ?_)
    refine A.al4_0 dL_turns_62 ?_
    refine A.iconst dL_turns_63 ?_
    refine A.v1 dL_turns_64 (s5_back ho hB pl hT (fun h64 hq64 F64 => kS ?_)) (hc := x0)
    rw [show bkRR (P.1, P.2.1 - t, P.2.2) 0 = -12 from if_neg (by omega)]
    rw [show bkPP (P.1, P.2.1 - t, P.2.2) 0 = (P.1, P.2.1 - t, P.2.2) from if_neg (by omega)] at hq64
    have ho := hq64
    have p0 := F64.get p0 (by omega)
    have s0 := F64.get s0 (by omega)
    have m0 := F64.get m0 (by omega)
    have t9 := F64.get t9 (by omega)
    obtain ⟨fs, x0⟩ := ho.ob
    refine A.bipush dL_turns_67 ?_
    refine A.ic_ne dL_turns_69 (fun c69 => absurd rfl c69) (fun c69 => ?_)
    refine A.al4_0 dL_turns_72 ?_
    refine A.bipush dL_turns_73 ?_
    refine A.v1 dL_turns_75 (s5_back ho hB pl hT (fun h75 hq75 F75 => kS ?_)) (hc := x0)
    rw [show bkRR (P.1, P.2.1 - t, P.2.2) 21 = -12 from if_neg (by omega)]
    rw [show bkPP (P.1, P.2.1 - t, P.2.2) 21 = (P.1, P.2.1 - t, P.2.2) from if_neg (by omega)] at hq75
    have ho := hq75
    have p0 := F75.get p0 (by omega)
    have s0 := F75.get s0 (by omega)
    have m0 := F75.get m0 (by omega)
    have t9 := F75.get t9 (by omega)
    obtain ⟨fs, x0⟩ := ho.ob
    refine A.bipush dL_turns_78 ?_
    refine A.ic_ne dL_turns_80 (fun c80 => absurd rfl c80) (fun c80 => ?_)
    refine A.iconst dL_turns_83 ?_
    refine A.goto dL_turns_84 ?_
    refine A.zret dL_turns_88 ?_
    first
      | exact k _ ⟨P, _, _, _, ho, hb, p0, s0, m0, t9, hh, hm, hk⟩
      | exact k _ ⟨_, _, _, _, ho, pl, p0, s0, m0, t9, hRel_turn hh e60 e61 ((fs_off (by decide)).trans (fs_off (by decide))) (fun j j0 j1 => (fs_off (by omega)).trans (fs_off (by omega))) b1.2.2, rm, hk⟩
  · refine A.al4_0 dL_turns_8 ?_
    refine A.il4_3 dL_turns_9 ?_
    refine A.v1 dL_turns_10 (s5_back ho hB hb hT (fun h10 hq10 F10 => kS ?_)) (hc := x0)
    rw [show bkRR P t = -13 from (if_pos (by omega)).trans (if_neg (by omega))]
    rw [show bkPP P t = P from if_neg (by omega)] at hq10
    have ho := hq10
    have p0 := F10.get p0 (by omega)
    have s0 := F10.get s0 (by omega)
    have m0 := F10.get m0 (by omega)
    have t9 := F10.get t9 (by omega)
    obtain ⟨fs, x0⟩ := ho.ob
    refine A.bipush dL_turns_13 ?_
    refine A.ic_ne dL_turns_15 (fun c15 => absurd rfl c15) (fun c15 => ?_)
    refine A.iconst dL_turns_18 ?_
    refine A.goto dL_turns_19 ?_
    refine A.zret dL_turns_23 ?_
    first
      | exact k _ ⟨P, _, _, _, ho, hb, p0, s0, m0, t9, hh, hm, hk⟩
      | exact k _ ⟨_, _, _, _, ho, pl, p0, s0, m0, t9, hRel_turn hh e60 e61 ((fs_off (by decide)).trans (fs_off (by decide))) (fun j j0 j1 => (fs_off (by omega)).trans (fs_off (by omega))) b1.2.2, rm, hk⟩
set_option maxRecDepth 100000 in
set_option maxHeartbeats 4000000 in
theorem sL_again {d : Nat} {h : AH} {R : RP} {x : Nat} {S : SC} {T : TX} {B fp : FN} {sl : Int} (hI : lI h x S T fp sl) (hp : pRel fp S) (hB : rScr B S) (hT : txI T) (k : ∀ h', lI h' x S T fp sl → R (some (vI 1)) h') : AM mL_again (d + 2) h [vR x, vR (x + 99), vR (x + 100)] R := by
  refine AM.of (L := [some (vR x), some (vR (x + 99)), some (vR (x + 100))]) ok_L_again (by decide) (fun G => Nat.le_of_ble_eq_true rfl) rfl ?_
  obtain ⟨P, ff, fm, fk, ho, hb, p0, s0, m0, t0, hh, hm, hk⟩ := hI
  obtain ⟨hs, hse⟩ := hh.now hb
  obtain ⟨fs, x0⟩ := ho.ob
  have hp1 := hp.1
  have hp2 := hp.2.1
  have b1 := hb.1
  have n0 := hs.2.1.1
  have n1 := hs.2.1.2
  have h60 := hh.1
  have h61 := hh.2.1
  have ks := lSK_s hB n0 hs.2.2
  refine A.al3_1 dL_again_0 ?_
  refine A.bipush dL_again_1 ?_
  refine A.iald dL_again_3 ?_ (hc := s0)
  rw [h61]
  refine A.if_ne dL_again_4 (fun c4 => ?_) (fun c4 => ?_)
  · refine A.al3_1 dL_again_22 ?_
    refine A.bipush dL_again_23 ?_
    refine A.dup2 dL_again_25 ?_
    refine A.iald dL_again_26 ?_ (hc := s0)
    rw [h60]
    refine A.iconst dL_again_27 ?_
    refine A.iadd dL_again_28 ?_
    refine A.iast dL_again_29 (fun h29 e29 f29 => ?_) (hc := s0)
    have ho := ho.fr f29 (by omega)
    have p0 := f29.get p0 (by omega)
    have m0 := f29.get m0 (by omega)
    have t0 := f29.get t0 (by omega)
    have s0 := e29
    obtain ⟨fs, x0⟩ := ho.ob
    have z61 : fset ff 60 (P.2.1 + 1 + 1) 61 = P.1 - P.2.1 - 1 := (fs_off (by decide)).trans h61
    refine A.al3_1 dL_again_30 ?_
    refine A.bipush dL_again_31 ?_
    refine A.dup2 dL_again_33 ?_
    refine A.iald dL_again_34 ?_ (hc := s0)
    rw [z61]
    refine A.iconst dL_again_35 ?_
    refine A.isub dL_again_36 ?_
    refine A.iast dL_again_37 (fun h37 e37 f37 => ?_) (hc := s0)
    have ho := ho.fr f37 (by omega)
    have p0 := f37.get p0 (by omega)
    have m0 := f37.get m0 (by omega)
    have t0 := f37.get t0 (by omega)
    have s0 := e37
    obtain ⟨fs, x0⟩ := ho.ob
    have z60 : fset (fset ff 60 (P.2.1 + 1 + 1)) 61 (P.1 - P.2.1 - 1 - 1) 60 = P.2.1 + 1 + 1 := (fs_off (by decide)).trans (fs_at rfl)
    refine A.al3_1 dL_again_38 ?_
    refine A.al3_2 dL_again_39 ?_
    refine A.al3_1 dL_again_40 ?_
    refine A.bipush dL_again_41 ?_
    refine A.iald dL_again_43 ?_ (hc := s0)
    rw [z60]
    refine A.iconst dL_again_44 ?_
    refine A.isub dL_again_45 ?_
    refine A.s3 dL_again_46 (sL_takes s0 m0 (by omega) (by omega) (by omega) (by omega) (fun h46 g46 e46 y0 y1 y2 f46 => kN ?_))
    have ho := ho.fr f46 (by omega)
    have p0 := f46.get p0 (by omega)
    have s0 := f46.get s0 (by omega)
    have t0 := f46.get t0 (by omega)
    have m0 := e46
    obtain ⟨fs, x0⟩ := ho.ob
    have rw0 := (hh.2.2.2 (P.2.1 + 1) (by omega) (by omega)).1
    have pl := plI_turn hh hb (pr := P.2.1 + 1) (by omega) (by omega)
    have ix : 3 * (P.2.1 + 1 + 1 - 1) = 3 * (P.2.1 + 1) := by omega
    rw [ix] at y0 y1 y2
    have rm : mReg g46 (nowM (P.1, P.2.1 + 1, P.2.2)) := ⟨y0.trans (((fs_off (by omega)).trans (fs_off (by omega))).trans rw0.1), y1.trans (((fs_off (by omega)).trans (fs_off (by omega))).trans rw0.2.1), y2.trans (((fs_off (by omega)).trans (fs_off (by omega))).trans rw0.2.2)⟩
    have e60 : fset (fset ff 60 (P.2.1 + 1 + 1)) 61 (P.1 - P.2.1 - 1 - 1) 60 = P.2.1 + 1 + 1 := z60
    have e61 : fset (fset ff 60 (P.2.1 + 1 + 1)) 61 (P.1 - P.2.1 - 1 - 1) 61 = P.1 - (P.2.1 + 1) - 1 := (fs_at rfl).trans (by omega)
    refine A.al3_0 dL_again_49 ?_
    refine A.v0 dL_again_50 (s5_again ho hB hb hT (fun h50 hq50 F50 => kS ?_)) (hc := x0)
    rw [show agRR P = (nowM (P.1, P.2.1 + 1, P.2.2)).1 from if_pos (by omega)]
    rw [show agPP P = (P.1, P.2.1 + 1, P.2.2) from if_pos (by omega)] at hq50
    have ho := hq50
    have p0 := F50.get p0 (by omega)
    have s0 := F50.get s0 (by omega)
    have m0 := F50.get m0 (by omega)
    have t0 := F50.get t0 (by omega)
    obtain ⟨fs, x0⟩ := ho.ob
    refine A.al3_2 dL_again_53 ?_
    refine A.iconst dL_again_54 ?_
    refine A.iald dL_again_55 ?_ (hc := m0)
    rw [rm.1]
    refine A.ic_ne dL_again_56 (fun c56 => absurd rfl c56) (fun c56 => ?_)
    refine A.iconst dL_again_59 ?_
    refine A.goto dL_again_60 ?_
    refine A.zret dL_again_64 ?_
    first
      | exact k _ ⟨P, _, _, _, ho, hb, p0, s0, m0, t0, hh, hm, hk⟩
      | exact k _ ⟨_, _, _, _, ho, pl, p0, s0, m0, t0, hRel_turn hh e60 e61 ((fs_off (by decide)).trans (fs_off (by decide))) (fun j j0 j1 => (fs_off (by omega)).trans (fs_off (by omega))) b1.2.2, rm, hk⟩
  · refine A.al3_0 dL_again_7 ?_
    refine A.v0 dL_again_8 (s5_again ho hB hb hT (fun h8 hq8 F8 => kS ?_)) (hc := x0)
    rw [show agRR P = -13 from if_neg (by omega)]
    rw [show agPP P = P from if_neg (by omega)] at hq8
    have ho := hq8
    have p0 := F8.get p0 (by omega)
    have s0 := F8.get s0 (by omega)
    have m0 := F8.get m0 (by omega)
    have t0 := F8.get t0 (by omega)
    obtain ⟨fs, x0⟩ := ho.ob
    refine A.bipush dL_again_11 ?_
    refine A.ic_ne dL_again_13 (fun c13 => absurd rfl c13) (fun c13 => ?_)
    refine A.iconst dL_again_16 ?_
    refine A.goto dL_again_17 ?_
    refine A.zret dL_again_21 ?_
    first
      | exact k _ ⟨P, _, _, _, ho, hb, p0, s0, m0, t0, hh, hm, hk⟩
      | exact k _ ⟨_, _, _, _, ho, pl, p0, s0, m0, t0, hRel_turn hh e60 e61 ((fs_off (by decide)).trans (fs_off (by decide))) (fun j j0 j1 => (fs_off (by omega)).trans (fs_off (by omega))) b1.2.2, rm, hk⟩
theorem ch_y {S : SC} {P : PL} {o : Int} (h0 : 0 ≤ o) (h : cOpen S (nowM P).1 o (nowM P).2.1) : chPP S P o = goP S P (cPart S (nowM P).1 o 0) ∧ chRR S P o = (goM S P (cPart S (nowM P).1 o 0)).1 := ⟨pif_t h, (if_neg (by omega)).trans (pif_t h)⟩
theorem ch_n {S : SC} {P : PL} {o : Int} (h0 : 0 ≤ o) (h : ¬ cOpen S (nowM P).1 o (nowM P).2.1) : chPP S P o = P ∧ chRR S P o = -13 := ⟨pif_f h, (if_neg (by omega)).trans (pif_f h)⟩
theorem ch_m {S : SC} {P : PL} : chPP S P (-1) = P ∧ chRR S P (-1) = -12 := ⟨pif_f (fun z => absurd z.1 (by decide)), if_pos (by decide)⟩
set_option maxRecDepth 100000 in
set_option maxHeartbeats 4000000 in
theorem sL_chooses {d : Nat} {h : AH} {R : RP} {x : Nat} {S : SC} {T : TX} {B fp : FN} {sl : Int} (hI : lI h x S T fp sl) (hp : pRel fp S) (hB : rScr B S) (hT : txI T) {o : Int} (o0 : 0 ≤ o) (o1 : o ≤ 3) (k : ∀ h', lI h' x S T fp sl → R (some (vI 1)) h') : AM mL_chooses (d + 6) h [vR x, vR (x + 98), vR (x + 99), vR (x + 100), vI o] R := by
  refine AM.of (L := [some (vR x), some (vR (x + 98)), some (vR (x + 99)), some (vR (x + 100)), some (vI o)]) ok_L_chooses (by decide) (fun G => Nat.le_of_ble_eq_true rfl) rfl ?_
  obtain ⟨P, ff, fm, fk, ho, hb, p0, s0, m0, t0, hh, hm, hk⟩ := hI
  obtain ⟨hs, hse⟩ := hh.now hb
  obtain ⟨fs, x0⟩ := ho.ob
  have hp1 := hp.1
  have hp2 := hp.2.1
  have b1 := hb.1
  have n0 := hs.2.1.1
  have n1 := hs.2.1.2
  have h60 := hh.1
  have h61 := hh.2.1
  have ks := lSK_s hB n0 hs.2.2
  refine A.al5_1 dL_chooses_0 ?_
  refine A.al5_3 dL_chooses_1 ?_
  refine A.iconst dL_chooses_2 ?_
  refine A.iald dL_chooses_3 ?_ (hc := m0)
  rw [hm.1]
  refine A.s2 dL_chooses_4 (sL_shownKind p0 hp hB n0 n1 (kS ?_))
  rw [ks]
  refine A.iconst dL_chooses_7 ?_
  refine A.ic_ne dL_chooses_8 (fun c8 => ?_) (fun c8 => ?_)
  · have nk : ¬ cOpen S (nowM P).1 o (nowM P).2.1 := by
      first
        | exact c37
        | (intro z
           have z1 := z.2.1
           first
             | omega
             | (rw [cOpts0 hB n0 (by intro y; exact absurd (show cSK S (nowM P).1 = 1 by unfold cSK; rw [y]; rfl) (by omega))] at z1
                omega))
    refine A.al5_0 dL_chooses_40 ?_
    refine A.il5_4 dL_chooses_41 ?_
    refine A.v1 dL_chooses_43 (s5_choose ho hB hb hT (fun h43 hq43 F43 => kS ?_)) (hc := x0)
    rw [(ch_n o0 nk).2]
    rw [(ch_n o0 nk).1] at hq43
    have ho := hq43
    have p0 := F43.get p0 (by omega)
    have s0 := F43.get s0 (by omega)
    have m0 := F43.get m0 (by omega)
    have t0 := F43.get t0 (by omega)
    obtain ⟨fs, x0⟩ := ho.ob
    refine A.bipush dL_chooses_46 ?_
    refine A.ic_ne dL_chooses_48 (fun c48 => absurd rfl c48) (fun c48 => ?_)
    refine A.iconst dL_chooses_51 ?_
    refine A.goto dL_chooses_52 ?_
    refine A.zret dL_chooses_56 ?_
    exact k _ ⟨P, _, _, _, ho, hb, p0, s0, m0, t0, hh, hm, hk⟩
  · have kc := sk_choice (S := S) (v := (nowM P).1) (by omega)
    have kl := kd_lt (S := S) (v := (nowM P).1) (by omega)
    have po := (hp.2.2 _ n0 kl.2.1).o kc
    refine A.il5_4 dL_chooses_11 ?_
    refine A.al5_1 dL_chooses_13 ?_
    refine A.iconst dL_chooses_14 ?_
    refine A.al5_3 dL_chooses_15 ?_
    refine A.iconst dL_chooses_16 ?_
    refine A.iald dL_chooses_17 ?_ (hc := m0)
    rw [hm.1]
    refine A.imul dL_chooses_18 ?_
    refine A.iconst dL_chooses_19 ?_
    refine A.iadd dL_chooses_20 ?_
    refine A.iald dL_chooses_21 ?_ (hc := p0)
    rw [po.1]
    refine A.ic_ge dL_chooses_22 (fun c22 => ?_) (fun c22 => ?_)
    · have nk : ¬ cOpen S (nowM P).1 o (nowM P).2.1 := by
        first
          | exact c37
          | (intro z
             have z1 := z.2.1
             first
               | omega
               | (rw [cOpts0 hB n0 (by intro y; exact absurd (show cSK S (nowM P).1 = 1 by unfold cSK; rw [y]; rfl) (by omega))] at z1
                  omega))
      refine A.al5_0 dL_chooses_40 ?_
      refine A.il5_4 dL_chooses_41 ?_
      refine A.v1 dL_chooses_43 (s5_choose ho hB hb hT (fun h43 hq43 F43 => kS ?_)) (hc := x0)
      rw [(ch_n o0 nk).2]
      rw [(ch_n o0 nk).1] at hq43
      have ho := hq43
      have p0 := F43.get p0 (by omega)
      have s0 := F43.get s0 (by omega)
      have m0 := F43.get m0 (by omega)
      have t0 := F43.get t0 (by omega)
      obtain ⟨fs, x0⟩ := ho.ob
      refine A.bipush dL_chooses_46 ?_
      refine A.ic_ne dL_chooses_48 (fun c48 => absurd rfl c48) (fun c48 => ?_)
      refine A.iconst dL_chooses_51 ?_
      refine A.goto dL_chooses_52 ?_
      refine A.zret dL_chooses_56 ?_
      exact k _ ⟨P, _, _, _, ho, hb, p0, s0, m0, t0, hh, hm, hk⟩
    · refine A.al5_1 dL_chooses_25 ?_
      refine A.al5_3 dL_chooses_26 ?_
      refine A.iconst dL_chooses_27 ?_
      refine A.iald dL_chooses_28 ?_ (hc := m0)
      rw [hm.1]
      refine A.il5_4 dL_chooses_29 ?_
      refine A.al5_3 dL_chooses_31 ?_
      refine A.iconst dL_chooses_32 ?_
      refine A.iald dL_chooses_33 ?_ (hc := m0)
      rw [hm.2.1]
      refine A.s4 dL_chooses_34 (sL_isOpen p0 hp hB n0 kl.2.1 kc o0 (by omega) (kS ?_))
      refine A.bz_ne dL_chooses_37 (fun c37 => ?_) (fun c37 => ?_)
      · have pr := (((hB.2 _ n0 kl.2.1).r6 kc).2.2 o o0 (by omega)).2.2.1
        have oy := c37
        refine A.al5_1 dL_chooses_57 ?_
        refine A.al5_3 dL_chooses_58 ?_
        refine A.al5_1 dL_chooses_59 ?_
        refine A.iconst dL_chooses_60 ?_
        refine A.al5_3 dL_chooses_61 ?_
        refine A.iconst dL_chooses_62 ?_
        refine A.iald dL_chooses_63 ?_ (hc := m0)
        rw [hm.1]
        refine A.imul dL_chooses_64 ?_
        refine A.iconst dL_chooses_65 ?_
        refine A.iadd dL_chooses_66 ?_
        refine A.iald dL_chooses_67 ?_ (hc := p0)
        refine A.il5_4 dL_chooses_68 ?_
        refine A.s2 dL_chooses_70 (sL_low5 o0 (by omega) (kS ?_))
        rw [(po.2 o o0 (by omega)).1]
        refine A.s3 dL_chooses_73 (sL_carries p0 hp hB m0 (by omega) hs.1 hm.2.1 hm.2.2 pr.1 (by omega) (fun h73 fm73 e73 r73 q73 f73 => kN ?_))
        have ho := ho.fr f73 (by omega)
        have p0 := f73.get p0 (by omega)
        have s0 := f73.get s0 (by omega)
        have t0 := f73.get t0 (by omega)
        have m0 := e73
        obtain ⟨fs, x0⟩ := ho.ob
        have mo : moS S (goM S P (cPart S (nowM P).1 o 0)) := come_ok hB pr.1 (by omega) q73
        have r73 : mReg fm73 (goM S P (cPart S (nowM P).1 o 0)) := r73
        have pl := plI_go (v := cPart S (nowM P).1 o 0) hB hb pr.1 (by omega)
        refine A.al5_2 dL_chooses_76 ?_
        refine A.al5_3 dL_chooses_77 ?_
        refine A.s2 dL_chooses_78 (sL_puts s0 m0 (by omega) (by omega) (by omega) (fun h78 ff78 e78 r78 f78 => kN ?_))
        have ho := ho.fr f78 (by omega)
        have p0 := f78.get p0 (by omega)
        have m0 := f78.get m0 (by omega)
        have t0 := f78.get t0 (by omega)
        have s0 := e78
        obtain ⟨fs, x0⟩ := ho.ob
        refine A.al5_0 dL_chooses_81 ?_
        refine A.il5_4 dL_chooses_82 ?_
        refine A.v1 dL_chooses_84 (s5_choose ho hB hb hT (fun h84 hq84 F84 => kS ?_)) (hc := x0)
        rw [(ch_y o0 oy).2]
        rw [(ch_y o0 oy).1] at hq84
        have ho := hq84
        have p0 := F84.get p0 (by omega)
        have s0 := F84.get s0 (by omega)
        have m0 := F84.get m0 (by omega)
        have t0 := F84.get t0 (by omega)
        obtain ⟨fs, x0⟩ := ho.ob
        refine A.al5_3 dL_chooses_87 ?_
        refine A.iconst dL_chooses_88 ?_
        refine A.iald dL_chooses_89 ?_ (hc := m0)
        rw [r73.1]
        refine A.ic_ne dL_chooses_90 (fun c90 => absurd rfl c90) (fun c90 => ?_)
        refine A.al5_0 dL_chooses_93 ?_
        refine A.iconst dL_chooses_94 ?_
        refine A.v1 dL_chooses_95 (s5_choose ho hB pl.1 hT (fun h95 hq95 F95 => kS ?_)) (hc := x0)
        rw [ch_m.2]
        rw [ch_m.1] at hq95
        have ho := hq95
        have p0 := F95.get p0 (by omega)
        have s0 := F95.get s0 (by omega)
        have m0 := F95.get m0 (by omega)
        have t0 := F95.get t0 (by omega)
        obtain ⟨fs, x0⟩ := ho.ob
        refine A.bipush dL_chooses_98 ?_
        refine A.ic_ne dL_chooses_100 (fun c100 => absurd rfl c100) (fun c100 => ?_)
        refine A.iconst dL_chooses_103 ?_
        refine A.goto dL_chooses_104 ?_
        refine A.zret dL_chooses_108 ?_
        exact k _ ⟨_, _, _, _, ho, pl.1, p0, s0, m0, t0, hRel_go hb hh r78 r73 mo, (by rw [pl.2]; exact r73), kRel_go hk mo⟩
      · have nk : ¬ cOpen S (nowM P).1 o (nowM P).2.1 := by
          first
            | exact c37
            | (intro z
               have z1 := z.2.1
               first
                 | omega
                 | (rw [cOpts0 hB n0 (by intro y; exact absurd (show cSK S (nowM P).1 = 1 by unfold cSK; rw [y]; rfl) (by omega))] at z1
                    omega))
        refine A.al5_0 dL_chooses_40 ?_
        refine A.il5_4 dL_chooses_41 ?_
        refine A.v1 dL_chooses_43 (s5_choose ho hB hb hT (fun h43 hq43 F43 => kS ?_)) (hc := x0)
        rw [(ch_n o0 nk).2]
        rw [(ch_n o0 nk).1] at hq43
        have ho := hq43
        have p0 := F43.get p0 (by omega)
        have s0 := F43.get s0 (by omega)
        have m0 := F43.get m0 (by omega)
        have t0 := F43.get t0 (by omega)
        obtain ⟨fs, x0⟩ := ho.ob
        refine A.bipush dL_chooses_46 ?_
        refine A.ic_ne dL_chooses_48 (fun c48 => absurd rfl c48) (fun c48 => ?_)
        refine A.iconst dL_chooses_51 ?_
        refine A.goto dL_chooses_52 ?_
        refine A.zret dL_chooses_56 ?_
        exact k _ ⟨P, _, _, _, ho, hb, p0, s0, m0, t0, hh, hm, hk⟩
