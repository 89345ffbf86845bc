/-! ===== the law ===== -/
theorem pAt.fr {h h' : AH} {x b w : Nat} {S : SC} {P : PL} {T : TX} (hp : pAt h x S P T) (f : Fr h h' b w) (hbw : x + 98 ≤ b) : pAt h' x S P T := by
  obtain ⟨sr, dr, a, n, Sd, re, wc, Cc, Lc, Lo, Wa, Es, m, hsd, x0, hX, hS, hD, hI, hJ, hPl, k0, k1, k2, k3, k4, k5, hm, hC⟩ := hp
  exact ⟨_, _, _, _, _, _, _, _, _, _, _, _, _, hsd, f.get x0 (by omega), hX.fr f (by omega), hS.fr f (by omega), hD.fr f (by omega), hI, hJ, hPl.fr f (by omega), f.get k0 (by omega), f.get k1 (by omega), f.get k2 (by omega), f.get k3 (by omega), f.get k4 (by omega), f.get k5 (by omega), hm.fr f (by omega), hC⟩
theorem pAt.gr {h h' : AH} {x b w : Nat} {S : SC} {P : PL} {T : TX} (hp : pAt h x S P T) (f : Gr h h' b w) (hbw : x + 98 ≤ b) : pAt h' x S P T := by
  obtain ⟨sr, dr, a, n, Sd, re, wc, Cc, Lc, Lo, Wa, Es, m, hsd, x0, hX, hS, hD, hI, hJ, hPl, k0, k1, k2, k3, k4, k5, hm, hC⟩ := hp
  exact ⟨_, _, _, _, _, _, _, _, _, _, _, _, _, hsd, f.get x0 (by omega), hX.gr f (by omega), hS.gr f (by omega), hD.gr f (by omega), hI, hJ, hPl.gr f (by omega), f.get k0 (by omega), f.get k1 (by omega), f.get k2 (by omega), f.get k3 (by omega), f.get k4 (by omega), f.get k5 (by omega), hm.gr f (by omega), hC⟩
theorem pAt.ob {h : AH} {x : Nat} {S : SC} {P : PL} {T : TX} (hp : pAt h x S P T) : ∃ fs, h.2 x = some (kO 5 fs) := by
  obtain ⟨sr, dr, a, n, Sd, re, wc, Cc, Lc, Lo, Wa, Es, m, hsd, x0, hX, hS, hD, hI, hJ, hPl, k0, k1, k2, k3, k4, k5, hm, hC⟩ := hp
  exact ⟨_, x0⟩
theorem mAt.fr {h h' : AH} {q b w : Nat} {S : SC} {P : PL} {T : TX} (hM : mAt h q S P T) (f : Fr h h' b w) (hbw : b + w ≤ q) : mAt h' q S P T := by
  obtain ⟨rd, fi, co, ah, se, ps, fa, fl, ch, hx, B, Rd, Mo, Sv, Iv, V, F, Re, Ch, Fm, By, Ie, Ef, Eb, w0, w1, w2, w3, w4, w5, w6, w7, w8, w9, w10, w11, w12, w13, w14, w15, hB, hP, hT⟩ := hM
  exact ⟨_, _, _, _, _, _, _, _, _, _, _, _, _, _, _, _, _, _, _, _, _, _, _, _, f.get w0 (by omega), f.get w1 (by omega), f.get w2 (by omega), f.get w3 (by omega), f.get w4 (by omega), f.get w5 (by omega), f.get w6 (by omega), f.get w7 (by omega), f.get w8 (by omega), f.get w9 (by omega), f.get w10 (by omega), f.get w11 (by omega), f.get w12 (by omega), f.get w13 (by omega), f.get w14 (by omega), f.get w15 (by omega), hB, hP, hT⟩
theorem mAt.ob {h : AH} {q : Nat} {S : SC} {P : PL} {T : TX} (hM : mAt h q S P T) : ∃ fs, h.2 q = some (kO 6 fs) := by
  obtain ⟨rd, fi, co, ah, se, ps, fa, fl, ch, hx, B, Rd, Mo, Sv, Iv, V, F, Re, Ch, Fm, By, Ie, Ef, Eb, w0, w1, w2, w3, w4, w5, w6, w7, w8, w9, w10, w11, w12, w13, w14, w15, hB, hP, hT⟩ := hM
  exact ⟨_, w0⟩
theorem mAt.inv {h : AH} {q : Nat} {S : SC} {P : PL} {T : TX} (hM : mAt h q S P T) : ∃ B : FN, rScr B S ∧ plI P ∧ txI T := by
  obtain ⟨rd, fi, co, ah, se, ps, fa, fl, ch, hx, B, Rd, Mo, Sv, Iv, V, F, Re, Ch, Fm, By, Ie, Ef, Eb, w0, w1, w2, w3, w4, w5, w6, w7, w8, w9, w10, w11, w12, w13, w14, w15, hB, hP, hT⟩ := hM
  exact ⟨B, hB, plI_of hP, hT⟩
theorem Gr.sc {h h1 : AH} {a k : Nat} (g : Gr h h1 a k) : h1.1.2 = h.1.2 := by rw [g.1]
theorem Fr.sc {h h1 : AH} {a k : Nat} (g : Fr h h1 a k) : h1.1.2 = h.1.2 := by rw [g.1]
theorem A.lcmp_eq {M : MT} {fr : Nat} {kb : Nat × Nat} {pc n : Nat} {L : List (Option AV)} {S : List AV} {h : AH} {Rp : RP} {x y : Int64} {t n2 : Nat} (hd : Dc M pc .lcmp 1 n) (hd2 : Dif M n .eq t n2) (kt : x = y → AW M fr kb t L S h Rp) (kf : x ≠ y → AW M fr kb n2 L S h Rp) : AW M fr kb pc L (vL y :: vL x :: S) h Rp := by
  intro p l e R s m args below meth c Q G X H locs cells slots ls hH hS hL hV hcl hsl
  obtain ⟨hd, rfl⟩ := hd
  obtain ⟨off, hd2, ht, rfl⟩ := hd2
  have k1 := fun q => kt q p l e R s m args below meth c Q G X H locs cells slots ls hH hS hL (vok_t (vok_t hV)) hcl hsl
  have k2 := fun q => kf q p l e R s m args below meth c Q G X H locs cells slots ls hH hS hL (vok_t (vok_t hV)) hcl hsl
  refine W.lcmp X.1.1 X.1.2.1 hd ?_
  have h0 : lg_cmp x y = 0 ↔ x = y := by
    constructor
    · intro q
      by_cases h1 : y < x
      · simp [lg_cmp, h1] at q
      · by_cases h2 : x = y
        · exact h2
        · simp [lg_cmp, h1, h2] at q
    · intro q
      subst q
      have h1 : ¬ x < x := by rw [Int64.lt_iff_toInt_lt]; omega
      simp [lg_cmp]
  exact lv_if_eq X.1.1 X.1.2.1 hd2 ht (fun q => k1 (h0.mp q)) (fun q => k2 fun e => q (h0.mpr e))
set_option maxRecDepth 100000 in
set_option maxHeartbeats 40000000 in
theorem sL_loop {h0 : AH} {x : Nat} (hlen : h0.1.2.1 ≤ 2048) : ∀ (nf : Nat) (i : Nat) (S : SC) (P : PL) (T : TX) (h1 : AH) (hp : pAt h1 x S P T) (hM : mAt h1 (x + 98) S P T) (hQ : h1.1.2 = h0.1.2) (hi : i ≤ 513) (hn : 513 - i < nf), AW mL_law 12 (0, 0) 18 [some vX, some (vR x), some (vR (x + 98)), some (vI (4 * (i : Int)))] [] h1 (fun v _ => v = some (vI 1)) := by
  intro nf
  induction nf with
  | zero => intro i S P T h1 hp hM hQ hi hn; omega
  | succ nf ih =>
    intro i S P T h1 hp hM hQ hi hn
    have hN : h1.1.2.1 = h0.1.2.1 := by rw [hQ]
    obtain ⟨fs5, x0⟩ := hp.ob
    obtain ⟨fs6, w0⟩ := hM.ob
    obtain ⟨B, hB, hb, hT⟩ := hM.inv
    refine A.il4_3 dL_law_18 ?_
    refine A.ax4_0 dL_law_19 ?_
    refine A.xlen dL_law_20 ?_
    refine A.iconst dL_law_21 ?_
    rw [hN]
    refine A.isub dL_law_22 ?_
    refine A.ic_gt dL_law_23 (fun c23 => ?_) (fun c23 => ?_)
    · refine A.iconst dL_law_645 ?_
      refine A.zret dL_law_646 ?_
      exact Eq.refl _
    · refine A.ax4_0 dL_law_26 ?_
      refine A.il4_3 dL_law_27 ?_
      refine A.xld dL_law_28 ?_
      rw [hQ]
      refine A.bipush dL_law_29 ?_
      refine A.iand dL_law_31 ?_
      refine A.tsw22 dL_law_32 (fun c32 => ?_) (fun c32 => ?_) (fun c32 => ?_) (fun c32 => ?_) (fun c32 => ?_) (fun c32 => ?_) (fun c32 => ?_) (fun c32 => ?_) (fun c32 => ?_) (fun c32 => ?_) (fun c32 => ?_) (fun c32 => ?_) (fun c32 => ?_) (fun c32 => ?_) (fun c32 => ?_) (fun c32 => ?_) (fun c32 => ?_) (fun c32 => ?_) (fun c32 => ?_) (fun c32 => ?_) (fun c32 => ?_) (fun c32 => ?_) (fun c32 => ?_)
      · refine A.al4_1 dL_law_136 ?_
        refine A.ax4_0 dL_law_137 ?_
        refine A.il4_3 dL_law_138 ?_
        refine A.iconst dL_law_139 ?_
        refine A.iadd dL_law_140 ?_
        refine A.xld dL_law_141 ?_
        rw [hQ]
        refine A.v1 dL_law_142 (s5_type hp hB hb hT (fun h142 hp142 F142 => kS ?_)) (hc := x0)
        have hp := hp142
        have hM := hM.fr F142 (by omega)
        obtain ⟨fs6, w0⟩ := hM.ob
        have hQ : h142.1.2 = h0.1.2 := F142.sc.trans hQ
        have hN : h142.1.2.1 = h0.1.2.1 := by rw [hQ]
        refine A.al4_2 dL_law_145 ?_
        refine A.ax4_0 dL_law_146 ?_
        refine A.il4_3 dL_law_147 ?_
        refine A.iconst dL_law_148 ?_
        refine A.iadd dL_law_149 ?_
        refine A.xld dL_law_150 ?_
        rw [hQ]
        refine A.v1 dL_law_151 (s6_type hM (fun h151 hM151 F151 => kS ?_)) (hc := w0)
        have hM := hM151
        have hp := hp.fr F151 (by omega)
        have hQ : h151.1.2 = h0.1.2 := F151.sc.trans hQ
        have hN : h151.1.2.1 = h0.1.2.1 := by rw [hQ]
        refine A.ic_eq dL_law_154 (fun c154 => ?_) (fun c154 => by first | exact absurd rfl c154 | (exfalso; omega))
        refine A.ii4_3 dL_law_639 ?_
        refine A.goto dL_law_642 ?_
        have g := ih (i + 1) _ _ _ _ hp hM hQ (by omega) (by omega)
        rw [show 4 * (i : Int) + 4 = 4 * ((i + 1 : Nat) : Int) by omega]
        exact g
      · refine A.al4_1 dL_law_159 ?_
        refine A.v0 dL_law_160 (s5_clearText hp hB hb hT (fun h160 hp160 F160 => kS ?_)) (hc := x0)
        have hp := hp160
        have hM := hM.fr F160 (by omega)
        obtain ⟨fs6, w0⟩ := hM.ob
        have hQ : h160.1.2 = h0.1.2 := F160.sc.trans hQ
        have hN : h160.1.2.1 = h0.1.2.1 := by rw [hQ]
        refine A.al4_2 dL_law_163 ?_
        refine A.v0 dL_law_164 (s6_clearText hM (fun h164 hM164 F164 => kS ?_)) (hc := w0)
        have hM := hM164
        have hp := hp.fr F164 (by omega)
        have hQ : h164.1.2 = h0.1.2 := F164.sc.trans hQ
        have hN : h164.1.2.1 = h0.1.2.1 := by rw [hQ]
        refine A.ic_eq dL_law_167 (fun c167 => ?_) (fun c167 => by first | exact absurd rfl c167 | (exfalso; omega))
        refine A.ii4_3 dL_law_639 ?_
        refine A.goto dL_law_642 ?_
        have g := ih (i + 1) _ _ _ _ hp hM hQ (by omega) (by omega)
        rw [show 4 * (i : Int) + 4 = 4 * ((i + 1 : Nat) : Int) by omega]
        exact g
      · refine A.al4_1 dL_law_172 ?_
        refine A.v0 dL_law_173 (s5_fault hp hB hb hT (fun h173 hp173 F173 => kS ?_)) (hc := x0)
        have hp := hp173
        have hM := hM.fr F173 (by omega)
        obtain ⟨fs6, w0⟩ := hM.ob
        have hQ : h173.1.2 = h0.1.2 := F173.sc.trans hQ
        have hN : h173.1.2.1 = h0.1.2.1 := by rw [hQ]
        refine A.al4_2 dL_law_176 ?_
        refine A.v0 dL_law_177 (s6_faultM hM (fun h177 hM177 F177 => kS ?_)) (hc := w0)
        have hM := hM177
        have hp := hp.fr F177 (by omega)
        have hQ : h177.1.2 = h0.1.2 := F177.sc.trans hQ
        have hN : h177.1.2.1 = h0.1.2.1 := by rw [hQ]
        refine A.ic_eq dL_law_180 (fun c180 => ?_) (fun c180 => by first | exact absurd rfl c180 | (exfalso; omega))
        refine A.ii4_3 dL_law_639 ?_
        refine A.goto dL_law_642 ?_
        have g := ih (i + 1) _ _ _ _ hp hM hQ (by omega) (by omega)
        rw [show 4 * (i : Int) + 4 = 4 * ((i + 1 : Nat) : Int) by omega]
        exact g
      · refine A.al4_1 dL_law_185 ?_
        refine A.v0 dL_law_186 (s5_read hp hB hb hT (fun Sd h186 hp186 F186 => kS ?_)) (hc := x0)
        have hp := hp186
        have hM := hM.fr F186 (by omega)
        obtain ⟨fs6, w0⟩ := hM.ob
        have hQ : h186.1.2 = h0.1.2 := F186.sc.trans hQ
        have hN : h186.1.2.1 = h0.1.2.1 := by rw [hQ]
        refine A.al4_2 dL_law_189 ?_
        refine A.v0 dL_law_190 (s6_read (Sd := Sd) hM (fun h190 hM190 F190 => kS ?_)) (hc := w0)
        have hM := hM190
        have hp := hp.fr F190 (by omega)
        have hQ : h190.1.2 = h0.1.2 := F190.sc.trans hQ
        have hN : h190.1.2.1 = h0.1.2.1 := by rw [hQ]
        refine A.ic_eq dL_law_193 (fun c193 => ?_) (fun c193 => by first | exact absurd rfl c193 | (exfalso; omega))
        refine A.ii4_3 dL_law_639 ?_
        refine A.goto dL_law_642 ?_
        have g := ih (i + 1) _ _ _ _ hp hM hQ (by omega) (by omega)
        rw [show 4 * (i : Int) + 4 = 4 * ((i + 1 : Nat) : Int) by omega]
        exact g
      · refine A.al4_1 dL_law_198 ?_
        refine A.v0 dL_law_199 (s5_begin hp hB hb hT (fun h199 hp199 F199 => kS ?_)) (hc := x0)
        have hp := hp199
        have hM := hM.fr F199 (by omega)
        obtain ⟨fs6, w0⟩ := hM.ob
        have hQ : h199.1.2 = h0.1.2 := F199.sc.trans hQ
        have hN : h199.1.2.1 = h0.1.2.1 := by rw [hQ]
        refine A.al4_2 dL_law_202 ?_
        refine A.v0 dL_law_203 (s6_begin hM (fun h203 hM203 F203 => kS ?_)) (hc := w0)
        have hM := hM203
        have hp := hp.fr F203 (by omega)
        have hQ : h203.1.2 = h0.1.2 := F203.sc.trans hQ
        have hN : h203.1.2.1 = h0.1.2.1 := by rw [hQ]
        refine A.ic_eq dL_law_206 (fun c206 => ?_) (fun c206 => by first | exact absurd rfl c206 | (exfalso; omega))
        refine A.ii4_3 dL_law_639 ?_
        refine A.goto dL_law_642 ?_
        have g := ih (i + 1) _ _ _ _ hp hM hQ (by omega) (by omega)
        rw [show 4 * (i : Int) + 4 = 4 * ((i + 1 : Nat) : Int) by omega]
        exact g
      · refine A.al4_1 dL_law_211 ?_
        refine A.v0 dL_law_212 (s5_go hp hB hb hT (fun h212 hp212 F212 => kS ?_)) (hc := x0)
        have hp := hp212
        have hM := hM.fr F212 (by omega)
        obtain ⟨fs6, w0⟩ := hM.ob
        have hQ : h212.1.2 = h0.1.2 := F212.sc.trans hQ
        have hN : h212.1.2.1 = h0.1.2.1 := by rw [hQ]
        refine A.al4_2 dL_law_215 ?_
        refine A.v0 dL_law_216 (s6_go hM (fun h216 hM216 F216 => kS ?_)) (hc := w0)
        have hM := hM216
        have hp := hp.fr F216 (by omega)
        have hQ : h216.1.2 = h0.1.2 := F216.sc.trans hQ
        have hN : h216.1.2.1 = h0.1.2.1 := by rw [hQ]
        refine A.ic_eq dL_law_219 (fun c219 => ?_) (fun c219 => by first | exact absurd rfl c219 | (exfalso; omega))
        refine A.ii4_3 dL_law_639 ?_
        refine A.goto dL_law_642 ?_
        have g := ih (i + 1) _ _ _ _ hp hM hQ (by omega) (by omega)
        rw [show 4 * (i : Int) + 4 = 4 * ((i + 1 : Nat) : Int) by omega]
        exact g
      · refine A.al4_1 dL_law_224 ?_
        refine A.ax4_0 dL_law_225 ?_
        refine A.il4_3 dL_law_226 ?_
        refine A.iconst dL_law_227 ?_
        refine A.iadd dL_law_228 ?_
        refine A.xld dL_law_229 ?_
        rw [hQ]
        refine A.v1 dL_law_230 (s5_choose hp hB hb hT (fun h230 hp230 F230 => kS ?_)) (hc := x0)
        have hp := hp230
        have hM := hM.fr F230 (by omega)
        obtain ⟨fs6, w0⟩ := hM.ob
        have hQ : h230.1.2 = h0.1.2 := F230.sc.trans hQ
        have hN : h230.1.2.1 = h0.1.2.1 := by rw [hQ]
        refine A.al4_2 dL_law_233 ?_
        refine A.ax4_0 dL_law_234 ?_
        refine A.il4_3 dL_law_235 ?_
        refine A.iconst dL_law_236 ?_
        refine A.iadd dL_law_237 ?_
        refine A.xld dL_law_238 ?_
        rw [hQ]
        refine A.v1 dL_law_239 (s6_choose hM (fun h239 hM239 F239 => kS ?_)) (hc := w0)
        have hM := hM239
        have hp := hp.fr F239 (by omega)
        have hQ : h239.1.2 = h0.1.2 := F239.sc.trans hQ
        have hN : h239.1.2.1 = h0.1.2.1 := by rw [hQ]
        refine A.ic_eq dL_law_242 (fun c242 => ?_) (fun c242 => by first | exact absurd rfl c242 | (exfalso; omega))
        refine A.ii4_3 dL_law_639 ?_
        refine A.goto dL_law_642 ?_
        have g := ih (i + 1) _ _ _ _ hp hM hQ (by omega) (by omega)
        rw [show 4 * (i : Int) + 4 = 4 * ((i + 1 : Nat) : Int) by omega]
        exact g
      · refine A.al4_1 dL_law_247 ?_
        refine A.v0 dL_law_248 (s5_skip hp hB hb hT (fun h248 hp248 F248 => kS ?_)) (hc := x0)
        have hp := hp248
        have hM := hM.fr F248 (by omega)
        obtain ⟨fs6, w0⟩ := hM.ob
        have hQ : h248.1.2 = h0.1.2 := F248.sc.trans hQ
        have hN : h248.1.2.1 = h0.1.2.1 := by rw [hQ]
        refine A.al4_2 dL_law_251 ?_
        refine A.v0 dL_law_252 (s6_skip hM (fun h252 hM252 F252 => kS ?_)) (hc := w0)
        have hM := hM252
        have hp := hp.fr F252 (by omega)
        have hQ : h252.1.2 = h0.1.2 := F252.sc.trans hQ
        have hN : h252.1.2.1 = h0.1.2.1 := by rw [hQ]
        refine A.ic_eq dL_law_255 (fun c255 => ?_) (fun c255 => by first | exact absurd rfl c255 | (exfalso; omega))
        refine A.ii4_3 dL_law_639 ?_
        refine A.goto dL_law_642 ?_
        have g := ih (i + 1) _ _ _ _ hp hM hQ (by omega) (by omega)
        rw [show 4 * (i : Int) + 4 = 4 * ((i + 1 : Nat) : Int) by omega]
        exact g
      · refine A.al4_1 dL_law_260 ?_
        refine A.ax4_0 dL_law_261 ?_
        refine A.il4_3 dL_law_262 ?_
        refine A.iconst dL_law_263 ?_
        refine A.iadd dL_law_264 ?_
        refine A.xld dL_law_265 ?_
        rw [hQ]
        refine A.v1 dL_law_266 (s5_back hp hB hb hT (fun h266 hp266 F266 => kS ?_)) (hc := x0)
        have hp := hp266
        have hM := hM.fr F266 (by omega)
        obtain ⟨fs6, w0⟩ := hM.ob
        have hQ : h266.1.2 = h0.1.2 := F266.sc.trans hQ
        have hN : h266.1.2.1 = h0.1.2.1 := by rw [hQ]
        refine A.al4_2 dL_law_269 ?_
        refine A.ax4_0 dL_law_270 ?_
        refine A.il4_3 dL_law_271 ?_
        refine A.iconst dL_law_272 ?_
        refine A.iadd dL_law_273 ?_
        refine A.xld dL_law_274 ?_
        rw [hQ]
        refine A.v1 dL_law_275 (s6_back hM (fun h275 hM275 F275 => kS ?_)) (hc := w0)
        have hM := hM275
        have hp := hp.fr F275 (by omega)
        have hQ : h275.1.2 = h0.1.2 := F275.sc.trans hQ
        have hN : h275.1.2.1 = h0.1.2.1 := by rw [hQ]
        refine A.ic_eq dL_law_278 (fun c278 => ?_) (fun c278 => by first | exact absurd rfl c278 | (exfalso; omega))
        refine A.ii4_3 dL_law_639 ?_
        refine A.goto dL_law_642 ?_
        have g := ih (i + 1) _ _ _ _ hp hM hQ (by omega) (by omega)
        rw [show 4 * (i : Int) + 4 = 4 * ((i + 1 : Nat) : Int) by omega]
        exact g
      · refine A.al4_1 dL_law_283 ?_
        refine A.v0 dL_law_284 (s5_again hp hB hb hT (fun h284 hp284 F284 => kS ?_)) (hc := x0)
        have hp := hp284
        have hM := hM.fr F284 (by omega)
        obtain ⟨fs6, w0⟩ := hM.ob
        have hQ : h284.1.2 = h0.1.2 := F284.sc.trans hQ
        have hN : h284.1.2.1 = h0.1.2.1 := by rw [hQ]
        refine A.al4_2 dL_law_287 ?_
        refine A.v0 dL_law_288 (s6_again hM (fun h288 hM288 F288 => kS ?_)) (hc := w0)
        have hM := hM288
        have hp := hp.fr F288 (by omega)
        have hQ : h288.1.2 = h0.1.2 := F288.sc.trans hQ
        have hN : h288.1.2.1 = h0.1.2.1 := by rw [hQ]
        refine A.ic_eq dL_law_291 (fun c291 => ?_) (fun c291 => by first | exact absurd rfl c291 | (exfalso; omega))
        refine A.ii4_3 dL_law_639 ?_
        refine A.goto dL_law_642 ?_
        have g := ih (i + 1) _ _ _ _ hp hM hQ (by omega) (by omega)
        rw [show 4 * (i : Int) + 4 = 4 * ((i + 1 : Nat) : Int) by omega]
        exact g
      · refine A.al4_1 dL_law_296 ?_
        refine A.ax4_0 dL_law_297 ?_
        refine A.il4_3 dL_law_298 ?_
        refine A.iconst dL_law_299 ?_
        refine A.iadd dL_law_300 ?_
        refine A.xld dL_law_301 ?_
        rw [hQ]
        refine A.v1 dL_law_302 (s5_save hp hB hb hT (fun h302 hp302 F302 => kS ?_)) (hc := x0)
        have hp := hp302
        have hM := hM.fr F302 (by omega)
        obtain ⟨fs6, w0⟩ := hM.ob
        have hQ : h302.1.2 = h0.1.2 := F302.sc.trans hQ
        have hN : h302.1.2.1 = h0.1.2.1 := by rw [hQ]
        refine A.al4_2 dL_law_305 ?_
        refine A.ax4_0 dL_law_306 ?_
        refine A.il4_3 dL_law_307 ?_
        refine A.iconst dL_law_308 ?_
        refine A.iadd dL_law_309 ?_
        refine A.xld dL_law_310 ?_
        rw [hQ]
        refine A.v1 dL_law_311 (s6_save hM (fun h311 hM311 F311 => kS ?_)) (hc := w0)
        have hM := hM311
        have hp := hp.fr F311 (by omega)
        have hQ : h311.1.2 = h0.1.2 := F311.sc.trans hQ
        have hN : h311.1.2.1 = h0.1.2.1 := by rw [hQ]
        refine A.ic_eq dL_law_314 (fun c314 => ?_) (fun c314 => by first | exact absurd rfl c314 | (exfalso; omega))
        refine A.ii4_3 dL_law_639 ?_
        refine A.goto dL_law_642 ?_
        have g := ih (i + 1) _ _ _ _ hp hM hQ (by omega) (by omega)
        rw [show 4 * (i : Int) + 4 = 4 * ((i + 1 : Nat) : Int) by omega]
        exact g
      · refine A.al4_1 dL_law_319 ?_
        refine A.ax4_0 dL_law_320 ?_
        refine A.il4_3 dL_law_321 ?_
        refine A.iconst dL_law_322 ?_
        refine A.iadd dL_law_323 ?_
        refine A.xld dL_law_324 ?_
        rw [hQ]
        refine A.v1 dL_law_325 (s5_restore hp hB hb hT (fun h325 hp325 F325 => kS ?_)) (hc := x0)
        have hp := hp325
        have hM := hM.fr F325 (by omega)
        obtain ⟨fs6, w0⟩ := hM.ob
        have hQ : h325.1.2 = h0.1.2 := F325.sc.trans hQ
        have hN : h325.1.2.1 = h0.1.2.1 := by rw [hQ]
        refine A.al4_2 dL_law_328 ?_
        refine A.ax4_0 dL_law_329 ?_
        refine A.il4_3 dL_law_330 ?_
        refine A.iconst dL_law_331 ?_
        refine A.iadd dL_law_332 ?_
        refine A.xld dL_law_333 ?_
        rw [hQ]
        refine A.v1 dL_law_334 (s6_restore hM (fun h334 hM334 F334 => kS ?_)) (hc := w0)
        have hM := hM334
        have hp := hp.fr F334 (by omega)
        have hQ : h334.1.2 = h0.1.2 := F334.sc.trans hQ
        have hN : h334.1.2.1 = h0.1.2.1 := by rw [hQ]
        refine A.ic_eq dL_law_337 (fun c337 => ?_) (fun c337 => by first | exact absurd rfl c337 | (exfalso; omega))
        refine A.ii4_3 dL_law_639 ?_
        refine A.goto dL_law_642 ?_
        have g := ih (i + 1) _ _ _ _ hp hM hQ (by omega) (by omega)
        rw [show 4 * (i : Int) + 4 = 4 * ((i + 1 : Nat) : Int) by omega]
        exact g
      · refine A.al4_1 dL_law_342 ?_
        refine A.ax4_0 dL_law_343 ?_
        refine A.il4_3 dL_law_344 ?_
        refine A.iconst dL_law_345 ?_
        refine A.iadd dL_law_346 ?_
        refine A.xld dL_law_347 ?_
        rw [hQ]
        refine A.v1 dL_law_348 (s5_shown hp hB hb hT (kS ?_)) (hc := x0)
        refine A.al4_2 dL_law_351 ?_
        refine A.ax4_0 dL_law_352 ?_
        refine A.il4_3 dL_law_353 ?_
        refine A.iconst dL_law_354 ?_
        refine A.iadd dL_law_355 ?_
        refine A.xld dL_law_356 ?_
        rw [hQ]
        refine A.v1 dL_law_357 (s6_shown hM (kS ?_)) (hc := w0)
        refine A.ic_eq dL_law_360 (fun c360 => ?_) (fun c360 => by first | exact absurd rfl c360 | (exfalso; omega))
        refine A.ii4_3 dL_law_639 ?_
        refine A.goto dL_law_642 ?_
        have g := ih (i + 1) _ _ _ _ hp hM hQ (by omega) (by omega)
        rw [show 4 * (i : Int) + 4 = 4 * ((i + 1 : Nat) : Int) by omega]
        exact g
      · refine A.al4_1 dL_law_365 ?_
        refine A.ax4_0 dL_law_366 ?_
        refine A.il4_3 dL_law_367 ?_
        refine A.iconst dL_law_368 ?_
        refine A.iadd dL_law_369 ?_
        refine A.xld dL_law_370 ?_
        rw [hQ]
        refine A.ax4_0 dL_law_371 ?_
        refine A.il4_3 dL_law_372 ?_
        refine A.iconst dL_law_373 ?_
        refine A.iadd dL_law_374 ?_
        refine A.xld dL_law_375 ?_
        rw [hQ]
        refine A.if_eq dL_law_376 (fun c376 => ?_) (fun c376 => ?_)
        · refine A.iconst dL_law_383 ?_
          refine A.v2 dL_law_384 (s5_portrait hp hB hb hT (kS ?_)) (hc := x0)
          refine A.al4_2 dL_law_387 ?_
          refine A.ax4_0 dL_law_388 ?_
          refine A.il4_3 dL_law_389 ?_
          refine A.iconst dL_law_390 ?_
          refine A.iadd dL_law_391 ?_
          refine A.xld dL_law_392 ?_
          rw [hQ]
          refine A.ax4_0 dL_law_393 ?_
          refine A.il4_3 dL_law_394 ?_
          refine A.iconst dL_law_395 ?_
          refine A.iadd dL_law_396 ?_
          refine A.xld dL_law_397 ?_
          rw [hQ]
          refine A.if_eq dL_law_398 (fun c398 => ?_) (fun c398 => ?_)
          · refine A.iconst dL_law_405 ?_
            refine A.v2 dL_law_406 (s6_portrait hM (kS ?_)) (hc := w0)
            refine A.ic_eq dL_law_409 (fun c409 => ?_) (fun c409 => by first | exact absurd rfl c409 | (exfalso; omega))
            refine A.ii4_3 dL_law_639 ?_
            refine A.goto dL_law_642 ?_
            have g := ih (i + 1) _ _ _ _ hp hM hQ (by omega) (by omega)
            rw [show 4 * (i : Int) + 4 = 4 * ((i + 1 : Nat) : Int) by omega]
            exact g
          · refine A.iconst dL_law_401 ?_
            refine A.goto dL_law_402 ?_
            refine A.v2 dL_law_406 (s6_portrait hM (kS ?_)) (hc := w0)
            refine A.ic_eq dL_law_409 (fun c409 => ?_) (fun c409 => by first | exact absurd rfl c409 | (exfalso; omega))
            refine A.ii4_3 dL_law_639 ?_
            refine A.goto dL_law_642 ?_
            have g := ih (i + 1) _ _ _ _ hp hM hQ (by omega) (by omega)
            rw [show 4 * (i : Int) + 4 = 4 * ((i + 1 : Nat) : Int) by omega]
            exact g
        · refine A.iconst dL_law_379 ?_
          refine A.goto dL_law_380 ?_
          refine A.v2 dL_law_384 (s5_portrait hp hB hb hT (kS ?_)) (hc := x0)
          refine A.al4_2 dL_law_387 ?_
          refine A.ax4_0 dL_law_388 ?_
          refine A.il4_3 dL_law_389 ?_
          refine A.iconst dL_law_390 ?_
          refine A.iadd dL_law_391 ?_
          refine A.xld dL_law_392 ?_
          rw [hQ]
          refine A.ax4_0 dL_law_393 ?_
          refine A.il4_3 dL_law_394 ?_
          refine A.iconst dL_law_395 ?_
          refine A.iadd dL_law_396 ?_
          refine A.xld dL_law_397 ?_
          rw [hQ]
          refine A.if_eq dL_law_398 (fun c398 => ?_) (fun c398 => ?_)
          · refine A.iconst dL_law_405 ?_
            refine A.v2 dL_law_406 (s6_portrait hM (kS ?_)) (hc := w0)
            refine A.ic_eq dL_law_409 (fun c409 => ?_) (fun c409 => by first | exact absurd rfl c409 | (exfalso; omega))
            refine A.ii4_3 dL_law_639 ?_
            refine A.goto dL_law_642 ?_
            have g := ih (i + 1) _ _ _ _ hp hM hQ (by omega) (by omega)
            rw [show 4 * (i : Int) + 4 = 4 * ((i + 1 : Nat) : Int) by omega]
            exact g
          · refine A.iconst dL_law_401 ?_
            refine A.goto dL_law_402 ?_
            refine A.v2 dL_law_406 (s6_portrait hM (kS ?_)) (hc := w0)
            refine A.ic_eq dL_law_409 (fun c409 => ?_) (fun c409 => by first | exact absurd rfl c409 | (exfalso; omega))
            refine A.ii4_3 dL_law_639 ?_
            refine A.goto dL_law_642 ?_
            have g := ih (i + 1) _ _ _ _ hp hM hQ (by omega) (by omega)
            rw [show 4 * (i : Int) + 4 = 4 * ((i + 1 : Nat) : Int) by omega]
            exact g
      · refine A.al4_1 dL_law_414 ?_
        refine A.ax4_0 dL_law_415 ?_
        refine A.il4_3 dL_law_416 ?_
        refine A.iconst dL_law_417 ?_
        refine A.iadd dL_law_418 ?_
        refine A.xld dL_law_419 ?_
        rw [hQ]
        refine A.ax4_0 dL_law_420 ?_
        refine A.il4_3 dL_law_421 ?_
        refine A.iconst dL_law_422 ?_
        refine A.iadd dL_law_423 ?_
        refine A.xld dL_law_424 ?_
        rw [hQ]
        refine A.v2 dL_law_425 (s5_node hp hB hb hT (kS ?_)) (hc := x0)
        refine A.al4_2 dL_law_428 ?_
        refine A.ax4_0 dL_law_429 ?_
        refine A.il4_3 dL_law_430 ?_
        refine A.iconst dL_law_431 ?_
        refine A.iadd dL_law_432 ?_
        refine A.xld dL_law_433 ?_
        rw [hQ]
        refine A.ax4_0 dL_law_434 ?_
        refine A.il4_3 dL_law_435 ?_
        refine A.iconst dL_law_436 ?_
        refine A.iadd dL_law_437 ?_
        refine A.xld dL_law_438 ?_
        rw [hQ]
        refine A.v2 dL_law_439 (s6_node hM (kS ?_)) (hc := w0)
        refine A.ic_eq dL_law_442 (fun c442 => ?_) (fun c442 => by first | exact absurd rfl c442 | (exfalso; omega))
        refine A.ii4_3 dL_law_639 ?_
        refine A.goto dL_law_642 ?_
        have g := ih (i + 1) _ _ _ _ hp hM hQ (by omega) (by omega)
        rw [show 4 * (i : Int) + 4 = 4 * ((i + 1 : Nat) : Int) by omega]
        exact g
      · refine A.al4_1 dL_law_447 ?_
        refine A.ax4_0 dL_law_448 ?_
        refine A.il4_3 dL_law_449 ?_
        refine A.iconst dL_law_450 ?_
        refine A.iadd dL_law_451 ?_
        refine A.xld dL_law_452 ?_
        rw [hQ]
        refine A.ax4_0 dL_law_453 ?_
        refine A.il4_3 dL_law_454 ?_
        refine A.iconst dL_law_455 ?_
        refine A.iadd dL_law_456 ?_
        refine A.xld dL_law_457 ?_
        rw [hQ]
        refine A.ax4_0 dL_law_458 ?_
        refine A.il4_3 dL_law_459 ?_
        refine A.iconst dL_law_460 ?_
        refine A.iadd dL_law_461 ?_
        refine A.xld dL_law_462 ?_
        rw [hQ]
        refine A.v3 dL_law_463 (s5_option hp hB hb hT (kS ?_)) (hc := x0)
        refine A.al4_2 dL_law_466 ?_
        refine A.ax4_0 dL_law_467 ?_
        refine A.il4_3 dL_law_468 ?_
        refine A.iconst dL_law_469 ?_
        refine A.iadd dL_law_470 ?_
        refine A.xld dL_law_471 ?_
        rw [hQ]
        refine A.ax4_0 dL_law_472 ?_
        refine A.il4_3 dL_law_473 ?_
        refine A.iconst dL_law_474 ?_
        refine A.iadd dL_law_475 ?_
        refine A.xld dL_law_476 ?_
        rw [hQ]
        refine A.ax4_0 dL_law_477 ?_
        refine A.il4_3 dL_law_478 ?_
        refine A.iconst dL_law_479 ?_
        refine A.iadd dL_law_480 ?_
        refine A.xld dL_law_481 ?_
        rw [hQ]
        refine A.v3 dL_law_482 (s6_option hM (kS ?_)) (hc := w0)
        refine A.ic_eq dL_law_485 (fun c485 => ?_) (fun c485 => by first | exact absurd rfl c485 | (exfalso; omega))
        refine A.ii4_3 dL_law_639 ?_
        refine A.goto dL_law_642 ?_
        have g := ih (i + 1) _ _ _ _ hp hM hQ (by omega) (by omega)
        rw [show 4 * (i : Int) + 4 = 4 * ((i + 1 : Nat) : Int) by omega]
        exact g
      · refine A.al4_1 dL_law_490 ?_
        refine A.ax4_0 dL_law_491 ?_
        refine A.il4_3 dL_law_492 ?_
        refine A.iconst dL_law_493 ?_
        refine A.iadd dL_law_494 ?_
        refine A.xld dL_law_495 ?_
        rw [hQ]
        refine A.v1 dL_law_496 (s5_situations hp hB hb hT (kS ?_)) (hc := x0)
        refine A.al4_2 dL_law_499 ?_
        refine A.ax4_0 dL_law_500 ?_
        refine A.il4_3 dL_law_501 ?_
        refine A.iconst dL_law_502 ?_
        refine A.iadd dL_law_503 ?_
        refine A.xld dL_law_504 ?_
        rw [hQ]
        refine A.v1 dL_law_505 (s6_situations hM (fun h505 hM505 F505 => kS ?_)) (hc := w0)
        have hM := hM505
        have hp := hp.fr F505 (by omega)
        have hQ : h505.1.2 = h0.1.2 := F505.sc.trans hQ
        have hN : h505.1.2.1 = h0.1.2.1 := by rw [hQ]
        refine A.ic_eq dL_law_508 (fun c508 => ?_) (fun c508 => by first | exact absurd rfl c508 | (exfalso; omega))
        refine A.ii4_3 dL_law_639 ?_
        refine A.goto dL_law_642 ?_
        have g := ih (i + 1) _ _ _ _ hp hM hQ (by omega) (by omega)
        rw [show 4 * (i : Int) + 4 = 4 * ((i + 1 : Nat) : Int) by omega]
        exact g
      · refine A.al4_1 dL_law_513 ?_
        refine A.ax4_0 dL_law_514 ?_
        refine A.il4_3 dL_law_515 ?_
        refine A.iconst dL_law_516 ?_
        refine A.iadd dL_law_517 ?_
        refine A.xld dL_law_518 ?_
        rw [hQ]
        refine A.v1 dL_law_519 (s5_choicesTo hp hB hb hT (kS ?_)) (hc := x0)
        refine A.al4_2 dL_law_522 ?_
        refine A.ax4_0 dL_law_523 ?_
        refine A.il4_3 dL_law_524 ?_
        refine A.iconst dL_law_525 ?_
        refine A.iadd dL_law_526 ?_
        refine A.xld dL_law_527 ?_
        rw [hQ]
        refine A.v1 dL_law_528 (s6_choicesTo hM (fun h528 hM528 F528 => kS ?_)) (hc := w0)
        have hM := hM528
        have hp := hp.fr F528 (by omega)
        have hQ : h528.1.2 = h0.1.2 := F528.sc.trans hQ
        have hN : h528.1.2.1 = h0.1.2.1 := by rw [hQ]
        refine A.ic_eq dL_law_531 (fun c531 => ?_) (fun c531 => by first | exact absurd rfl c531 | (exfalso; omega))
        refine A.ii4_3 dL_law_639 ?_
        refine A.goto dL_law_642 ?_
        have g := ih (i + 1) _ _ _ _ hp hM hQ (by omega) (by omega)
        rw [show 4 * (i : Int) + 4 = 4 * ((i + 1 : Nat) : Int) by omega]
        exact g
      · refine A.al4_1 dL_law_536 ?_
        refine A.ax4_0 dL_law_537 ?_
        refine A.il4_3 dL_law_538 ?_
        refine A.iconst dL_law_539 ?_
        refine A.iadd dL_law_540 ?_
        refine A.xld dL_law_541 ?_
        rw [hQ]
        refine A.ax4_0 dL_law_542 ?_
        refine A.il4_3 dL_law_543 ?_
        refine A.iconst dL_law_544 ?_
        refine A.iadd dL_law_545 ?_
        refine A.xld dL_law_546 ?_
        rw [hQ]
        refine A.v2 dL_law_547 (s5_wayTo hp hB hb hT (kS ?_)) (hc := x0)
        refine A.al4_2 dL_law_550 ?_
        refine A.ax4_0 dL_law_551 ?_
        refine A.il4_3 dL_law_552 ?_
        refine A.iconst dL_law_553 ?_
        refine A.iadd dL_law_554 ?_
        refine A.xld dL_law_555 ?_
        rw [hQ]
        refine A.ax4_0 dL_law_556 ?_
        refine A.il4_3 dL_law_557 ?_
        refine A.iconst dL_law_558 ?_
        refine A.iadd dL_law_559 ?_
        refine A.xld dL_law_560 ?_
        rw [hQ]
        refine A.v2 dL_law_561 (s6_wayTo hM (fun h561 hM561 F561 => kS ?_)) (hc := w0)
        have hM := hM561
        have hp := hp.fr F561 (by omega)
        have hQ : h561.1.2 = h0.1.2 := F561.sc.trans hQ
        have hN : h561.1.2.1 = h0.1.2.1 := by rw [hQ]
        refine A.ic_eq dL_law_564 (fun c564 => ?_) (fun c564 => by first | exact absurd rfl c564 | (exfalso; omega))
        refine A.ii4_3 dL_law_639 ?_
        refine A.goto dL_law_642 ?_
        have g := ih (i + 1) _ _ _ _ hp hM hQ (by omega) (by omega)
        rw [show 4 * (i : Int) + 4 = 4 * ((i + 1 : Nat) : Int) by omega]
        exact g
      · refine A.al4_1 dL_law_569 ?_
        refine A.ax4_0 dL_law_570 ?_
        refine A.il4_3 dL_law_571 ?_
        refine A.iconst dL_law_572 ?_
        refine A.iadd dL_law_573 ?_
        refine A.xld dL_law_574 ?_
        rw [hQ]
        refine A.ax4_0 dL_law_575 ?_
        refine A.il4_3 dL_law_576 ?_
        refine A.iconst dL_law_577 ?_
        refine A.iadd dL_law_578 ?_
        refine A.xld dL_law_579 ?_
        rw [hQ]
        refine A.v2 dL_law_580 (s5_usable hp hB hb hT (kS ?_)) (hc := x0)
        refine A.al4_2 dL_law_583 ?_
        refine A.ax4_0 dL_law_584 ?_
        refine A.il4_3 dL_law_585 ?_
        refine A.iconst dL_law_586 ?_
        refine A.iadd dL_law_587 ?_
        refine A.xld dL_law_588 ?_
        rw [hQ]
        refine A.ax4_0 dL_law_589 ?_
        refine A.il4_3 dL_law_590 ?_
        refine A.iconst dL_law_591 ?_
        refine A.iadd dL_law_592 ?_
        refine A.xld dL_law_593 ?_
        rw [hQ]
        refine A.v2 dL_law_594 (s6_usable hM (fun h594 hM594 F594 => kS ?_)) (hc := w0)
        have hM := hM594
        have hp := hp.fr F594 (by omega)
        have hQ : h594.1.2 = h0.1.2 := F594.sc.trans hQ
        have hN : h594.1.2.1 = h0.1.2.1 := by rw [hQ]
        refine A.ic_eq dL_law_597 (fun c597 => ?_) (fun c597 => by first | exact absurd rfl c597 | (exfalso; omega))
        refine A.ii4_3 dL_law_639 ?_
        refine A.goto dL_law_642 ?_
        have g := ih (i + 1) _ _ _ _ hp hM hQ (by omega) (by omega)
        rw [show 4 * (i : Int) + 4 = 4 * ((i + 1 : Nat) : Int) by omega]
        exact g
      · refine A.al4_1 dL_law_602 ?_
        refine A.ax4_0 dL_law_603 ?_
        refine A.il4_3 dL_law_604 ?_
        refine A.iconst dL_law_605 ?_
        refine A.iadd dL_law_606 ?_
        refine A.xld dL_law_607 ?_
        rw [hQ]
        refine A.v1 dL_law_608 (s5_count hp hB hb hT (kS ?_)) (hc := x0)
        refine A.al4_2 dL_law_611 ?_
        refine A.ax4_0 dL_law_612 ?_
        refine A.il4_3 dL_law_613 ?_
        refine A.iconst dL_law_614 ?_
        refine A.iadd dL_law_615 ?_
        refine A.xld dL_law_616 ?_
        rw [hQ]
        refine A.v1 dL_law_617 (s6_count hM (fun h617 hM617 F617 => kS ?_)) (hc := w0)
        have hM := hM617
        have hp := hp.fr F617 (by omega)
        have hQ : h617.1.2 = h0.1.2 := F617.sc.trans hQ
        have hN : h617.1.2.1 = h0.1.2.1 := by rw [hQ]
        refine A.ic_eq dL_law_620 (fun c620 => ?_) (fun c620 => by first | exact absurd rfl c620 | (exfalso; omega))
        refine A.ii4_3 dL_law_639 ?_
        refine A.goto dL_law_642 ?_
        have g := ih (i + 1) _ _ _ _ hp hM hQ (by omega) (by omega)
        rw [show 4 * (i : Int) + 4 = 4 * ((i + 1 : Nat) : Int) by omega]
        exact g
      · refine A.al4_1 dL_law_625 ?_
        refine A.v0 dL_law_626 (s5_digest hp hB hb hT (kS ?_)) (hc := x0)
        refine A.al4_2 dL_law_629 ?_
        refine A.v0 dL_law_630 (s6_digest hM (fun h630 hM630 F630 => kS ?_)) (hc := w0)
        have hM := hM630
        have hp := hp.fr F630 (by omega)
        have hQ : h630.1.2 = h0.1.2 := F630.sc.trans hQ
        have hN : h630.1.2.1 = h0.1.2.1 := by rw [hQ]
        refine A.lcmp_eq dL_law_633 dL_law_634 (fun c633 => ?_) (fun c633 => absurd rfl c633)
        refine A.ii4_3 dL_law_639 ?_
        refine A.goto dL_law_642 ?_
        have g := ih (i + 1) _ _ _ _ hp hM hQ (by omega) (by omega)
        rw [show 4 * (i : Int) + 4 = 4 * ((i + 1 : Nat) : Int) by omega]
        exact g
      · refine A.ii4_3 dL_law_639 ?_
        refine A.goto dL_law_642 ?_
        have g := ih (i + 1) _ _ _ _ hp hM hQ (by omega) (by omega)
        rw [show 4 * (i : Int) + 4 = 4 * ((i + 1 : Nat) : Int) by omega]
        exact g
set_option maxRecDepth 100000 in
set_option maxHeartbeats 4000000 in
theorem sL_law (h : AH) (hlen : h.1.2.1 ≤ 2048) : AW mL_law 12 (114, 18415) 0 [some vX, none, none, none] [] h (fun v _ => v = some (vI 1)) := by
  obtain ⟨x, hx⟩ : ∃ x, h.1.1 = x := ⟨_, rfl⟩
  refine A.new dL_law_0 (c := 113) (s' := 18411) (fun h3 z3 e3 o3 => ?_)
  rw [hx] at e3 o3 ⊢
  have G3 : Gr h h3 x 1 := Gr.new (Gr.rfl (h := h)) hx z3 o3 (Nat.le_refl _)
  have y3 : h3.1.1 = x + 1 := by rw [G3.sz, hx]
  refine A.dup dL_law_3 ?_
  refine A.invI (d := 11) dL_law_4 (kb' := (16, 8991)) (s5_init (a := x) e3 y3 (fun h4 hp G4 => kN ?_)) ⟨rfl, rfl⟩ (by omega) (Nat.le_of_ble_eq_true rfl)
  have y4 : h4.1.1 = x + 98 := by rw [G4.sz, y3]
  refine A.as4_1 dL_law_7 ?_
  refine A.new dL_law_8 (c := 15) (s' := 8964) (fun h8 z8 e8 o8 => ?_)
  rw [y4] at e8 o8 ⊢
  have G8 : Gr h4 h8 (x + 98) 1 := Gr.new (Gr.rfl (h := h4)) y4 z8 o8 (Nat.le_refl _)
  refine A.dup dL_law_11 ?_
  refine A.invI (d := 11) dL_law_12 (kb' := (0, 0)) (s6_init (a := x + 98) (b0 := x + 15) e8 (by rw [G8.sz, y4]) (fun h12 hM G12 => kN ?_)) ⟨rfl, rfl⟩ (by omega) (Nat.le_of_ble_eq_true rfl)
  have GG := G8.then G12 (Nat.le_refl _)
  have hp := hp.gr GG (Nat.le_refl _)
  have hQ : h12.1.2 = h.1.2 := GG.sc.trans (G4.sc.trans G3.sc)
  refine A.as4_2 dL_law_15 ?_
  refine A.iconst dL_law_16 ?_
  refine A.is4_3 dL_law_17 ?_
  exact sL_loop hlen 514 0 _ _ _ _ hp hM hQ (by omega) (by omega)
