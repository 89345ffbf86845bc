/-! ===== the reference: options ===== -/
theorem s6_take1 {d : Nat} {h : AH} {R : RP} {q : Nat} {n rd fi co ah se ps fa fl ch : Int} {hx : Int64} {T : TX} (c0 : h.2 q = some (mobj q n rd fi co ah se T.1 ps fa fl ch hx)) (c6 : h.2 (q + 6) = some (kA 0 100 T.2)) (hT : txI T) (hp : 0 ≤ ps) (hp2 : ps ≤ T.1) (hn : tc T ps ≠ -1) (k : ∀ h' ps' fa', h'.2 q = some (mobj q n rd fi co ah se T.1 ps' fa' fl ch hx) → 0 ≤ ps' → ps' ≤ T.1 → (fa = -11 → fa' = -11 ∧ ps' = sk T (ps + 1)) → (fa ≠ -11 → fa' = fa) → Fr h h' q 1 → R (some (vI (tc T ps))) h') : AM m6_take (d + 2) h [vR q, vI 1] R := by
  have g := s6_take (d := d) (R := R) (P := True) c0 c6 hT hp hp2 (fun _ => hn) (fun h' ps' fa' e b c i j f => k h' ps' fa' e b c (fun z => (i z).1 trivial) j f)
  rwa [bi_t trivial] at g
def lkc (o : Int × Int) : Int := if o.1 = 0 then 0 else o.1 + 2 * o.2
/-- the options of a list lie in a row of the array -/
def oRep (A : Int → Int) (p : Int) (l : List (Int × Int × Int)) : Prop := ∀ j : Nat, j < l.length → A (p + 4 + 2 * j) = (l.getD j (0, 0, 0)).1 ∧ A (p + 4 + 2 * j + 1) = lkc (l.getD j (0, 0, 0)).2
theorem oRep_snoc {A A' : Int → Int} {p : Int} {l : List (Int × Int × Int)} {o : Int × Int × Int} (h : oRep A p l) (e1 : A' (p + 4 + 2 * (l.length : Nat)) = o.1) (e2 : A' (p + 4 + 2 * (l.length : Nat) + 1) = lkc o.2) (hk : ∀ j, p + 4 ≤ j → j < p + 4 + 2 * (l.length : Nat) → A' j = A j) : oRep A' p (l ++ [o]) := by
  intro j hj
  rw [List.length_append, List.length_singleton] at hj
  by_cases e : j < l.length
  · have hg : (l ++ [o]).getD j (0, 0, 0) = l.getD j (0, 0, 0) := by simp [List.getD_eq_getElem?_getD, List.getElem?_append_left e]
    rw [hg, hk _ (by omega) (by omega), hk _ (by omega) (by omega)]
    exact h j e
  · have e' : j = l.length := by omega
    subst e'
    have hg : (l ++ [o]).getD l.length (0, 0, 0) = o := by simp [List.getD_eq_getElem?_getD]
    rw [hg]
    exact ⟨e1, e2⟩
theorem oRep_congr {A A' : Int → Int} {p : Int} {l : List (Int × Int × Int)} (h : oRep A p l) (hk : ∀ j, p + 4 ≤ j → j < p + 4 + 2 * (l.length : Nat) → A' j = A j) : oRep A' p l := fun j hj => by
  rw [hk _ (by omega) (by omega), hk _ (by omega) (by omega)]
  exact h j hj
theorem nmAt_ne {T : TX} {m p : Int} (h0 : 0 ≤ p) (h1 : p ≤ T.1) : nmAt T m p ≠ -11 := by have := nmAt_le (m := m) h1; omega
theorem dgAt_ne {T : TX} {m p : Int} (h0 : 0 ≤ p) (h1 : p ≤ T.1) : dgAt T m p ≠ -11 := by have := dgAt_le (m := m) h1; omega
theorem fs_at {f : Int → Int} {i v j : Int} (h : j = i) : fset f i v j = v := if_pos h
theorem fs_off {f : Int → Int} {i v j : Int} (h : j ≠ i) : fset f i v j = f j := if_neg h
theorem lkV0 : lkc (0, -11) = 0 := rfl
theorem opV1 {T : TX} {p : Int} (h : opL T p) : (opV T p).1 = nmV T p := by rw [show opV T p = _ from pif_t h]
theorem lkV1 {T : TX} {p : Int} (h : opL T p) (e : tc T (opQ T p) = 63) : lkc (opV T p).2 = 1 + 2 * (tc T (opD T p) - 48) := by
  rw [show opV T p = _ from pif_t h]; unfold lkc; simp only []; rw [if_pos e]; exact if_neg (by decide)
theorem lkV2 {T : TX} {p : Int} (h : opL T p) (e : ¬ tc T (opQ T p) = 63) : lkc (opV T p).2 = 2 + 2 * (tc T (opD T p) - 48) := by
  rw [show opV T p = _ from pif_t h]; unfold lkc; simp only []; rw [if_neg e]; exact if_neg (by decide)
set_option maxRecDepth 100000 in
set_option maxHeartbeats 4000000 in
theorem s6_readsOptions {d : Nat} {h : AH} {R : RP} {p : Int} {B0 : Int → Int} {q : Nat} {n rd fi co ah se ps fl ch : Int} {hx : Int64} {T : TX} (c0 : h.2 q = some (mobj q n rd fi co ah se T.1 ps (-11) fl ch hx)) (c6 : h.2 (q + 6) = some (kA 0 100 T.2)) (hT : txI T) (hp : 0 ≤ ps) (hp2 : ps ≤ T.1) (hsk : sk T ps = ps) (c2 : h.2 (q + 2) = some (kA 0 348 B0)) (hp0 : 0 ≤ p) (hp1 : p ≤ 336) (k : ∀ h' ps' fa' B0', h'.2 q = some (mobj q n rd fi co ah se T.1 ps' fa' fl ch hx) → h'.2 (q + 2) = some (kA 0 348 B0') → 0 ≤ ps' → ps' ≤ T.1 → ((osR T 4 ps).1 → fa' = -11 ∧ ps' = (osR T 4 ps).2.1 ∧ B0' (p + 1) = ((osR T 4 ps).2.2.length : Nat) ∧ oRep B0' p (osR T 4 ps).2.2) ∧ (¬ (osR T 4 ps).1 → fa' = (osR T 4 ps).2.1) → (∀ j, ¬ (j = p + 1 ∨ (p + 4 ≤ j ∧ j < p + 12)) → B0' j = B0 j) → Fr2 h h' q 1 (q + 2) 1 → R none h') : AM m6_readsOptions (d + 3) h [vR q, vI p] R := by
  refine AM.of (L := [some (vR q), some (vI p), none, none, none]) ok_6_readsOptions (by decide) (fun G => Nat.le_of_ble_eq_true rfl) rfl ?_
  have loop : ∀ (nf : Nat) (i : Nat) (b : Int) (x4 : Option AV) (pre : List (Int × Int × Int)) (A1 : Int → Int) (h1 : AH) (hi : i ≤ 4) (hb : 0 ≤ b) (hb1 : sk T b ≤ T.1) (hbl : b ≤ T.1) (c0 : h1.2 q = some (mobj q n rd fi co ah se T.1 (sk T b) (-11) fl ch hx)) (c2 : h1.2 (q + 2) = some (kA 0 348 A1)) (c6 : h1.2 (q + 6) = some (kA 0 100 T.2)) (hF : Fr2 h h1 q 1 (q + 2) 1) (q1 : (osR T 4 ps).1 = (osR T (4 - i) b).1) (q2 : (osR T 4 ps).2.1 = (osR T (4 - i) b).2.1) (q3 : (osR T 4 ps).2.2 = pre ++ (osR T (4 - i) b).2.2) (hpl : pre.length = i) (hR : oRep A1 p pre) (hA : ∀ j, ¬ (j = p + 1 ∨ (p + 4 ≤ j ∧ j < p + 12)) → A1 j = B0 j) (hn : 4 - i < nf), AW m6_readsOptions (d + 3) (mC m6_readsOptions, mS m6_readsOptions) 4 [some (vR q), some (vI p), some (vI i), some (vI 1), x4] [] h1 R := by
    intro nf
    induction nf with
    | zero => intro i  b  x4  pre  A1  h1  hi hb hb1 hbl c0 c2 c6 hF q1 q2 q3 hpl hR hA hn; omega
    | succ nf ih =>
      intro i  b  x4  pre  A1  h1  hi hb hb1 hbl c0 c2 c6 hF q1 q2 q3 hpl hR hA hn
      have hT2 := hT.2.1
      have hs0 := sk_le (T := T) b
      have htrb := tc_rng hT (sk T b)
      refine A.il5_3 d6_readsOptions_4 ?_
      refine A.if_eq d6_readsOptions_5 (fun c5 => absurd c5 (by decide)) (fun c5 => ?_)
      refine A.al5_0 d6_readsOptions_8 ?_
      refine A.getf d6_readsOptions_9 ?_ (hc := c0)
      refine A.bipush d6_readsOptions_12 ?_
      refine A.ic_ne d6_readsOptions_14 (fun c14 => absurd rfl c14) (fun c14 => ?_)
      refine A.il5_2 d6_readsOptions_17 ?_
      refine A.iconst d6_readsOptions_18 ?_
      refine A.ic_ne d6_readsOptions_19 (fun c19 => ?_) (fun c19 => ?_)
      · refine A.al5_0 d6_readsOptions_31 ?_
        refine A.getf d6_readsOptions_32 ?_ (hc := c0)
        refine A.il5_1 d6_readsOptions_35 ?_
        refine A.iconst d6_readsOptions_36 ?_
        refine A.iadd d6_readsOptions_37 ?_
        refine A.iconst d6_readsOptions_38 ?_
        refine A.il5_2 d6_readsOptions_39 ?_
        refine A.imul d6_readsOptions_40 ?_
        refine A.iadd d6_readsOptions_41 ?_
        refine A.al5_0 d6_readsOptions_42 ?_
        refine A.bipush d6_readsOptions_43 ?_
        refine A.v1 d6_readsOptions_45 (s6_number (m := 29) c0 c6 hT (by omega) hb1 (by omega) (fun h45 ps1 fa1 v1 e45 b45 d45 r45 i45 j45 f45 => kS ?_)) (hc := c0)
        have c2 := f45.get c2 (by omega)
        have c6 := f45.get c6 (by omega)
        have c0 := e45
        obtain ⟨i45a, i45b⟩ := i45 rfl
        have hnm := nmAt_le (m := 29) hb1
        obtain ⟨j, hj⟩ : ∃ j, 4 - i = j + 1 := ⟨4 - i - 1, by omega⟩
        rw [hj] at q1 q2 q3
        have htr1 := tc_rng hT ps1
        refine A.iast d6_readsOptions_48 (fun h48 e48 f48 => ?_) (hc := c2)
        first | (have c0 := (f48.2 _ (by omega)).trans c0) | (have c0 := e48)
        first | (have c2 := (f48.2 _ (by omega)).trans c2) | (have c2 := e48)
        first | (have c6 := (f48.2 _ (by omega)).trans c6) | (have c6 := e48)
        refine A.iconst d6_readsOptions_49 ?_
        refine A.is5_4 d6_readsOptions_50 ?_
        refine A.al5_0 d6_readsOptions_52 ?_
        refine A.getf d6_readsOptions_53 ?_ (hc := c0)
        refine A.bipush d6_readsOptions_56 ?_
        refine A.ic_ne d6_readsOptions_58 (fun c58 => ?_) (fun c58 => ?_)
        · refine A.al5_0 d6_readsOptions_108 ?_
          refine A.getf d6_readsOptions_109 ?_ (hc := c0)
          refine A.il5_1 d6_readsOptions_112 ?_
          refine A.iconst d6_readsOptions_113 ?_
          refine A.iadd d6_readsOptions_114 ?_
          refine A.iconst d6_readsOptions_115 ?_
          refine A.il5_2 d6_readsOptions_116 ?_
          refine A.imul d6_readsOptions_117 ?_
          refine A.iadd d6_readsOptions_118 ?_
          refine A.iconst d6_readsOptions_119 ?_
          refine A.iadd d6_readsOptions_120 ?_
          refine A.il5_4 d6_readsOptions_121 ?_
          refine A.iast d6_readsOptions_123 (fun h123 e123 f123 => ?_) (hc := c2)
          first | (have c0 := (f123.2 _ (by omega)).trans c0) | (have c0 := e123)
          first | (have c2 := (f123.2 _ (by omega)).trans c2) | (have c2 := e123)
          first | (have c6 := (f123.2 _ (by omega)).trans c6) | (have c6 := e123)
          refine A.ii5_2 d6_readsOptions_124 ?_
          refine A.al5_0 d6_readsOptions_127 ?_
          refine A.getf d6_readsOptions_128 ?_ (hc := c0)
          refine A.bipush d6_readsOptions_131 ?_
          refine A.ic_ne d6_readsOptions_133 (fun c133 => ?_) (fun c133 => ?_)
          · refine A.iconst d6_readsOptions_149 ?_
            refine A.is5_3 d6_readsOptions_150 ?_
            refine A.il5_3 d6_readsOptions_151 ?_
            refine A.if_eq d6_readsOptions_152 (fun c152 => ?_) (fun c152 => absurd rfl c152)
            refine A.goto d6_readsOptions_161 ?_
            refine A.il5_3 d6_readsOptions_4 ?_
            refine A.if_eq d6_readsOptions_5 (fun c5 => ?_) (fun c5 => absurd rfl c5)
            refine A.al5_0 d6_readsOptions_164 ?_
            refine A.getf d6_readsOptions_165 ?_ (hc := c0)
            refine A.il5_1 d6_readsOptions_168 ?_
            refine A.iconst d6_readsOptions_169 ?_
            refine A.iadd d6_readsOptions_170 ?_
            refine A.il5_2 d6_readsOptions_171 ?_
            refine A.iast d6_readsOptions_172 (fun h172 e172 f172 => ?_) (hc := c2)
            first | (have c0 := (f172.2 _ (by omega)).trans c0) | (have c0 := e172)
            first | (have c2 := (f172.2 _ (by omega)).trans c2) | (have c2 := e172)
            first | (have c6 := (f172.2 _ (by omega)).trans c6) | (have c6 := e172)
            refine A.vret d6_readsOptions_173 ?_
            first
              | (exfalso; omega)
              | (have hno : ¬ nmOk T 29 (sk T b) := fun z => c58 (i45a z).1
                 rw [show osR T (j + 1) b = _ from pif_f (fun z => hno z.1)] at q1 q2 q3
                 exact k _ _ _ _ c0 c2 (by omega) (by omega) ⟨fun z => absurd (by rw [q1] at z; exact z) (fun y => y), fun _ => by rw [q2, i45b hno]; exact (pif_f hno).symm⟩ (fun j hj => by unfold fset; (repeat rw [if_neg (by omega)]); exact hA j hj) ((((hF.trans (f45.two1 (by omega) (by omega))).trans (f48.two2 (by omega) (by omega))).trans (f123.two2 (by omega) (by omega))).trans (f172.two2 (by omega) (by omega))))
              | (have hL : ¬ opL T (sk T b) := by unfold opL; rw [← hQ]; omega
                 have hOk : opOk T (sk T b) := ⟨hok, fun z => absurd z hL⟩
                 have hAt : opAt T (sk T b) = ps1 := (pif_t hok).trans ((pif_f hL).trans hQ.symm)
                 have hV : opV T (sk T b) = (v1, 0, -11) := by rw [hv1]; exact pif_f hL
                 have hs : sk T (opAt T (sk T b)) = ps1 := by rw [hAt, hps1]; exact sk_sk hT (by omega)
                 rw [show osR T (j + 1) b = _ from (pif_t hOk).trans (pif_f (by rw [hs]; exact c142))] at q1 q2 q3
                 rw [hs] at q2
                 exact k _ _ _ _ c0 c2 (by omega) (by omega) ⟨fun _ => ⟨c133, q2.symm, (fs_at (by omega)).trans (by rw [q3, List.length_append, hpl]; rfl), by rw [q3, hV]; exact oRep_snoc hR ((fs_off (by omega)).trans ((fs_off (by omega)).trans (fs_at (by omega)))) (((fs_off (by omega)).trans (fs_at (by omega))).trans lkV0.symm) (fun j h0 h1 => (fs_off (by omega)).trans ((fs_off (by omega)).trans (fs_off (by omega))))⟩, fun z => absurd (by rw [q1]; trivial) z⟩ (fun j hj => by unfold fset; (repeat rw [if_neg (by omega)]); exact hA j hj) ((((hF.trans (f45.two1 (by omega) (by omega))).trans (f48.two2 (by omega) (by omega))).trans (f123.two2 (by omega) (by omega))).trans (f172.two2 (by omega) (by omega))))
              | (have hno : ¬ dgOk T 5 (opD T (sk T b)) := fun z => c133 (i101a z).1
                 have hnk : ¬ opOk T (sk T b) := fun z => hno (z.2 hL)
                 rw [show osR T (j + 1) b = _ from pif_f hnk] at q1 q2 q3
                 exact k _ _ _ _ c0 c2 (by omega) (by omega) ⟨fun z => absurd (by rw [q1] at z; exact z) (fun y => y), fun _ => by rw [q2, i101b hno]; exact ((pif_t hok).trans (pif_t hL)).symm⟩ (fun j hj => by unfold fset; (repeat rw [if_neg (by omega)]); exact hA j hj) ((((((hF.trans (f45.two1 (by omega) (by omega))).trans (f48.two2 (by omega) (by omega))).trans (f81.two1 (by omega) (by omega))).trans (f101.two1 (by omega) (by omega))).trans (f123.two2 (by omega) (by omega))).trans (f172.two2 (by omega) (by omega))))
              | (have hdo : dgOk T 5 (opD T (sk T b)) := Classical.byContradiction fun z => by have := i101b z; have := dgAt_ne (T := T) (m := 5) (p := opD T (sk T b)) (by omega) (by omega); omega
                 obtain ⟨-, hps3, hv3⟩ := i101a hdo
                 have hOk : opOk T (sk T b) := ⟨hok, fun _ => hdo⟩
                 have hs : sk T (opAt T (sk T b)) = ps3 := by rw [hps3]; exact congrArg _ ((pif_t hok).trans (pif_t hL))
                 rw [show osR T (j + 1) b = _ from (pif_t hOk).trans (pif_f (by rw [hs]; exact c142))] at q1 q2 q3
                 rw [hs] at q2
                 exact k _ _ _ _ c0 c2 (by omega) (by omega) ⟨fun _ => ⟨c133, q2.symm, (fs_at (by omega)).trans (by rw [q3, List.length_append, hpl]; rfl), by rw [q3]; exact oRep_snoc hR (((fs_off (by omega)).trans ((fs_off (by omega)).trans (fs_at (by omega)))).trans (hv1.trans (opV1 hL).symm)) (((fs_off (by omega)).trans (fs_at (by omega))).trans (by rw [hv3]; first | exact (lkV1 hL (by rw [← hQ]; omega)).symm | exact (lkV2 hL (by rw [← hQ]; omega)).symm)) (fun j h0 h1 => (fs_off (by omega)).trans ((fs_off (by omega)).trans (fs_off (by omega))))⟩, fun z => absurd (by rw [q1]; trivial) z⟩ (fun j hj => by unfold fset; (repeat rw [if_neg (by omega)]); exact hA j hj) ((((((hF.trans (f45.two1 (by omega) (by omega))).trans (f48.two2 (by omega) (by omega))).trans (f81.two1 (by omega) (by omega))).trans (f101.two1 (by omega) (by omega))).trans (f123.two2 (by omega) (by omega))).trans (f172.two2 (by omega) (by omega))))
          · refine A.al5_0 d6_readsOptions_136 ?_
            refine A.v0 d6_readsOptions_137 (s6_next c0 c6 hT (by omega) (kS ?_)) (hc := c0)
            refine A.bipush d6_readsOptions_140 ?_
            refine A.ic_ne d6_readsOptions_142 (fun c142 => ?_) (fun c142 => ?_)
            · refine A.iconst d6_readsOptions_149 ?_
              refine A.is5_3 d6_readsOptions_150 ?_
              refine A.il5_3 d6_readsOptions_151 ?_
              refine A.if_eq d6_readsOptions_152 (fun c152 => ?_) (fun c152 => absurd rfl c152)
              refine A.goto d6_readsOptions_161 ?_
              refine A.il5_3 d6_readsOptions_4 ?_
              refine A.if_eq d6_readsOptions_5 (fun c5 => ?_) (fun c5 => absurd rfl c5)
              refine A.al5_0 d6_readsOptions_164 ?_
              refine A.getf d6_readsOptions_165 ?_ (hc := c0)
              refine A.il5_1 d6_readsOptions_168 ?_
              refine A.iconst d6_readsOptions_169 ?_
              refine A.iadd d6_readsOptions_170 ?_
              refine A.il5_2 d6_readsOptions_171 ?_
              refine A.iast d6_readsOptions_172 (fun h172 e172 f172 => ?_) (hc := c2)
              first | (have c0 := (f172.2 _ (by omega)).trans c0) | (have c0 := e172)
              first | (have c2 := (f172.2 _ (by omega)).trans c2) | (have c2 := e172)
              first | (have c6 := (f172.2 _ (by omega)).trans c6) | (have c6 := e172)
              refine A.vret d6_readsOptions_173 ?_
              first
                | (exfalso; omega)
                | (have hno : ¬ nmOk T 29 (sk T b) := fun z => c58 (i45a z).1
                   rw [show osR T (j + 1) b = _ from pif_f (fun z => hno z.1)] at q1 q2 q3
                   exact k _ _ _ _ c0 c2 (by omega) (by omega) ⟨fun z => absurd (by rw [q1] at z; exact z) (fun y => y), fun _ => by rw [q2, i45b hno]; exact (pif_f hno).symm⟩ (fun j hj => by unfold fset; (repeat rw [if_neg (by omega)]); exact hA j hj) ((((hF.trans (f45.two1 (by omega) (by omega))).trans (f48.two2 (by omega) (by omega))).trans (f123.two2 (by omega) (by omega))).trans (f172.two2 (by omega) (by omega))))
                | (have hL : ¬ opL T (sk T b) := by unfold opL; rw [← hQ]; omega
                   have hOk : opOk T (sk T b) := ⟨hok, fun z => absurd z hL⟩
                   have hAt : opAt T (sk T b) = ps1 := (pif_t hok).trans ((pif_f hL).trans hQ.symm)
                   have hV : opV T (sk T b) = (v1, 0, -11) := by rw [hv1]; exact pif_f hL
                   have hs : sk T (opAt T (sk T b)) = ps1 := by rw [hAt, hps1]; exact sk_sk hT (by omega)
                   rw [show osR T (j + 1) b = _ from (pif_t hOk).trans (pif_f (by rw [hs]; exact c142))] at q1 q2 q3
                   rw [hs] at q2
                   exact k _ _ _ _ c0 c2 (by omega) (by omega) ⟨fun _ => ⟨c133, q2.symm, (fs_at (by omega)).trans (by rw [q3, List.length_append, hpl]; rfl), by rw [q3, hV]; exact oRep_snoc hR ((fs_off (by omega)).trans ((fs_off (by omega)).trans (fs_at (by omega)))) (((fs_off (by omega)).trans (fs_at (by omega))).trans lkV0.symm) (fun j h0 h1 => (fs_off (by omega)).trans ((fs_off (by omega)).trans (fs_off (by omega))))⟩, fun z => absurd (by rw [q1]; trivial) z⟩ (fun j hj => by unfold fset; (repeat rw [if_neg (by omega)]); exact hA j hj) ((((hF.trans (f45.two1 (by omega) (by omega))).trans (f48.two2 (by omega) (by omega))).trans (f123.two2 (by omega) (by omega))).trans (f172.two2 (by omega) (by omega))))
                | (have hno : ¬ dgOk T 5 (opD T (sk T b)) := fun z => c133 (i101a z).1
                   have hnk : ¬ opOk T (sk T b) := fun z => hno (z.2 hL)
                   rw [show osR T (j + 1) b = _ from pif_f hnk] at q1 q2 q3
                   exact k _ _ _ _ c0 c2 (by omega) (by omega) ⟨fun z => absurd (by rw [q1] at z; exact z) (fun y => y), fun _ => by rw [q2, i101b hno]; exact ((pif_t hok).trans (pif_t hL)).symm⟩ (fun j hj => by unfold fset; (repeat rw [if_neg (by omega)]); exact hA j hj) ((((((hF.trans (f45.two1 (by omega) (by omega))).trans (f48.two2 (by omega) (by omega))).trans (f81.two1 (by omega) (by omega))).trans (f101.two1 (by omega) (by omega))).trans (f123.two2 (by omega) (by omega))).trans (f172.two2 (by omega) (by omega))))
                | (have hdo : dgOk T 5 (opD T (sk T b)) := Classical.byContradiction fun z => by have := i101b z; have := dgAt_ne (T := T) (m := 5) (p := opD T (sk T b)) (by omega) (by omega); omega
                   obtain ⟨-, hps3, hv3⟩ := i101a hdo
                   have hOk : opOk T (sk T b) := ⟨hok, fun _ => hdo⟩
                   have hs : sk T (opAt T (sk T b)) = ps3 := by rw [hps3]; exact congrArg _ ((pif_t hok).trans (pif_t hL))
                   rw [show osR T (j + 1) b = _ from (pif_t hOk).trans (pif_f (by rw [hs]; exact c142))] at q1 q2 q3
                   rw [hs] at q2
                   exact k _ _ _ _ c0 c2 (by omega) (by omega) ⟨fun _ => ⟨c133, q2.symm, (fs_at (by omega)).trans (by rw [q3, List.length_append, hpl]; rfl), by rw [q3]; exact oRep_snoc hR (((fs_off (by omega)).trans ((fs_off (by omega)).trans (fs_at (by omega)))).trans (hv1.trans (opV1 hL).symm)) (((fs_off (by omega)).trans (fs_at (by omega))).trans (by rw [hv3]; first | exact (lkV1 hL (by rw [← hQ]; omega)).symm | exact (lkV2 hL (by rw [← hQ]; omega)).symm)) (fun j h0 h1 => (fs_off (by omega)).trans ((fs_off (by omega)).trans (fs_off (by omega))))⟩, fun z => absurd (by rw [q1]; trivial) z⟩ (fun j hj => by unfold fset; (repeat rw [if_neg (by omega)]); exact hA j hj) ((((((hF.trans (f45.two1 (by omega) (by omega))).trans (f48.two2 (by omega) (by omega))).trans (f81.two1 (by omega) (by omega))).trans (f101.two1 (by omega) (by omega))).trans (f123.two2 (by omega) (by omega))).trans (f172.two2 (by omega) (by omega))))
            · refine A.iconst d6_readsOptions_145 ?_
              refine A.goto d6_readsOptions_146 ?_
              refine A.is5_3 d6_readsOptions_150 ?_
              refine A.il5_3 d6_readsOptions_151 ?_
              refine A.if_eq d6_readsOptions_152 (fun c152 => absurd c152 (by decide)) (fun c152 => ?_)
              refine A.al5_0 d6_readsOptions_155 ?_
              refine A.iconst d6_readsOptions_156 ?_
              refine A.v1 d6_readsOptions_157 (s6_take1 c0 c6 hT (by omega) (by omega) (by omega) (fun h157 ps4 fa4 e157 b157 d157 i157 j157 f157 => kS ?_)) (hc := c0)
              have c2 := f157.get c2 (by omega)
              have c6 := f157.get c6 (by omega)
              have c0 := e157
              
              refine A.pop d6_readsOptions_160 ?_
              refine A.goto d6_readsOptions_161 ?_
              first
                | (exfalso; omega)
                | (have hL : ¬ opL T (sk T b) := by unfold opL; rw [← hQ]; omega
                   have hOk : opOk T (sk T b) := ⟨hok, fun z => absurd z hL⟩
                   have hAt : opAt T (sk T b) = ps1 := (pif_t hok).trans ((pif_f hL).trans hQ.symm)
                   have hV : opV T (sk T b) = (v1, 0, -11) := by rw [hv1]; exact pif_f hL
                   have hs : sk T (opAt T (sk T b)) = ps1 := by rw [hAt, hps1]; exact sk_sk hT (by omega)
                   rw [show osR T (j + 1) b = _ from (pif_t hOk).trans (pif_t (by rw [hs]; exact c142))] at q1 q2 q3
                   rw [hs] at q1 q2 q3
                   obtain ⟨w1, w2⟩ := i157 (by omega)
                   have hlt := tc_lt (T := T) (p := ps1) (by omega)
                   rw [w1, w2] at c0
                   refine ih (i + 1) (ps1 + 1) _ _ _ _ (by omega) (by omega) (sk_len (by omega)) (by omega) c0 c2 c6 ((((hF.trans (f45.two1 (by omega) (by omega))).trans (f48.two2 (by omega) (by omega))).trans (f123.two2 (by omega) (by omega))).trans (f157.two1 (by omega) (by omega))) (by rw [q1, show 4 - (i + 1) = j by omega]) (by rw [q2, show 4 - (i + 1) = j by omega]) (by rw [q3, show 4 - (i + 1) = j by omega, ← List.append_cons]) (by rw [List.length_append, hpl]; rfl) ?_ (fun j hj => by unfold fset; (repeat rw [if_neg (by omega)]); exact hA j hj) (by omega)
                   rw [hV]
                   exact oRep_snoc hR ((fs_off (by omega)).trans (fs_at (by omega))) ((fs_at (by omega)).trans lkV0.symm) (fun j h0 h1 => (fs_off (by omega)).trans (fs_off (by omega))))
                | (have hdo : dgOk T 5 (opD T (sk T b)) := Classical.byContradiction fun z => by have := i101b z; have := dgAt_ne (T := T) (m := 5) (p := opD T (sk T b)) (by omega) (by omega); omega
                   obtain ⟨-, hps3, hv3⟩ := i101a hdo
                   have hOk : opOk T (sk T b) := ⟨hok, fun _ => hdo⟩
                   have hs : sk T (opAt T (sk T b)) = ps3 := by rw [hps3]; exact congrArg _ ((pif_t hok).trans (pif_t hL))
                   rw [show osR T (j + 1) b = _ from (pif_t hOk).trans (pif_t (by rw [hs]; exact c142))] at q1 q2 q3
                   rw [hs] at q1 q2 q3
                   obtain ⟨w1, w2⟩ := i157 (by omega)
                   have hlt := tc_lt (T := T) (p := ps3) (by omega)
                   rw [w1, w2] at c0
                   refine ih (i + 1) (ps3 + 1) _ _ _ _ (by omega) (by omega) (sk_len (by omega)) (by omega) c0 c2 c6 ((((((hF.trans (f45.two1 (by omega) (by omega))).trans (f48.two2 (by omega) (by omega))).trans (f81.two1 (by omega) (by omega))).trans (f101.two1 (by omega) (by omega))).trans (f123.two2 (by omega) (by omega))).trans (f157.two1 (by omega) (by omega))) (by rw [q1, show 4 - (i + 1) = j by omega]) (by rw [q2, show 4 - (i + 1) = j by omega]) (by rw [q3, show 4 - (i + 1) = j by omega, ← List.append_cons]) (by rw [List.length_append, hpl]; rfl) ?_ (fun j hj => by unfold fset; (repeat rw [if_neg (by omega)]); exact hA j hj) (by omega)
                   exact oRep_snoc hR (((fs_off (by omega)).trans (fs_at (by omega))).trans (hv1.trans (opV1 hL).symm)) ((fs_at (by omega)).trans (by rw [hv3]; first | exact (lkV1 hL (by rw [← hQ]; omega)).symm | exact (lkV2 hL (by rw [← hQ]; omega)).symm)) (fun j h0 h1 => (fs_off (by omega)).trans (fs_off (by omega))))
        · have hok : nmOk T 29 (sk T b) := Classical.byContradiction fun z => by have := i45b z; have := nmAt_ne (T := T) (m := 29) (p := sk T b) (by omega) hb1; omega
          obtain ⟨-, hps1, hv1⟩ := i45a hok
          have hQ : ps1 = opQ T (sk T b) := hps1
          refine A.al5_0 d6_readsOptions_61 ?_
          refine A.v0 d6_readsOptions_62 (s6_next c0 c6 hT (by omega) (kS ?_)) (hc := c0)
          refine A.bipush d6_readsOptions_65 ?_
          refine A.ic_eq d6_readsOptions_67 (fun c67 => ?_) (fun c67 => ?_)
          · refine A.al5_0 d6_readsOptions_79 ?_
            refine A.iconst d6_readsOptions_80 ?_
            refine A.v1 d6_readsOptions_81 (s6_take1 c0 c6 hT b45 d45 (by omega) (fun h81 ps2 fa2 e81 b81 d81 i81 j81 f81 => kS ?_)) (hc := c0)
            have c2 := f81.get c2 (by omega)
            have c6 := f81.get c6 (by omega)
            have c0 := e81
            obtain ⟨w81, w82⟩ := i81 (by omega)
            have hL : opL T (sk T b) := by unfold opL; rw [← hQ]; omega
            have hD : ps2 = opD T (sk T b) := by rw [w82, hQ]; rfl
            refine A.bipush d6_readsOptions_84 ?_
            refine A.ic_ne d6_readsOptions_86 (fun c86 => ?_) (fun c86 => ?_)
            · refine A.iconst d6_readsOptions_93 ?_
              refine A.is5_4 d6_readsOptions_94 ?_
              refine A.il5_4 d6_readsOptions_96 ?_
              refine A.iconst d6_readsOptions_98 ?_
              refine A.al5_0 d6_readsOptions_99 ?_
              refine A.iconst d6_readsOptions_100 ?_
              refine A.v1 d6_readsOptions_101 (s6_digit (m := 5) c0 c6 hT b81 d81 (by omega) (fun h101 ps3 fa3 v3 e101 b101 d101 r101 i101 j101 f101 => kS ?_)) (hc := c0)
              have c2 := f101.get c2 (by omega)
              have c6 := f101.get c6 (by omega)
              have c0 := e101
              obtain ⟨i101a, i101b⟩ := i101 (by omega)
              rw [hD] at i101a i101b
              have hD0 : 0 ≤ opD T (sk T b) ∧ opD T (sk T b) ≤ T.1 := by rw [← hD]; exact ⟨b81, d81⟩
              refine A.imul d6_readsOptions_104 ?_
              refine A.iadd d6_readsOptions_105 ?_
              refine A.is5_4 d6_readsOptions_106 ?_
              refine A.al5_0 d6_readsOptions_108 ?_
              refine A.getf d6_readsOptions_109 ?_ (hc := c0)
              refine A.il5_1 d6_readsOptions_112 ?_
              refine A.iconst d6_readsOptions_113 ?_
              refine A.iadd d6_readsOptions_114 ?_
              refine A.iconst d6_readsOptions_115 ?_
              refine A.il5_2 d6_readsOptions_116 ?_
              refine A.imul d6_readsOptions_117 ?_
              refine A.iadd d6_readsOptions_118 ?_
              refine A.iconst d6_readsOptions_119 ?_
              refine A.iadd d6_readsOptions_120 ?_
              refine A.il5_4 d6_readsOptions_121 ?_
              refine A.iast d6_readsOptions_123 (fun h123 e123 f123 => ?_) (hc := c2)
              first | (have c0 := (f123.2 _ (by omega)).trans c0) | (have c0 := e123)
              first | (have c2 := (f123.2 _ (by omega)).trans c2) | (have c2 := e123)
              first | (have c6 := (f123.2 _ (by omega)).trans c6) | (have c6 := e123)
              refine A.ii5_2 d6_readsOptions_124 ?_
              refine A.al5_0 d6_readsOptions_127 ?_
              refine A.getf d6_readsOptions_128 ?_ (hc := c0)
              refine A.bipush d6_readsOptions_131 ?_
              refine A.ic_ne d6_readsOptions_133 (fun c133 => ?_) (fun c133 => ?_)
              · refine A.iconst d6_readsOptions_149 ?_
                refine A.is5_3 d6_readsOptions_150 ?_
                refine A.il5_3 d6_readsOptions_151 ?_
                refine A.if_eq d6_readsOptions_152 (fun c152 => ?_) (fun c152 => absurd rfl c152)
                refine A.goto d6_readsOptions_161 ?_
                refine A.il5_3 d6_readsOptions_4 ?_
                refine A.if_eq d6_readsOptions_5 (fun c5 => ?_) (fun c5 => absurd rfl c5)
                refine A.al5_0 d6_readsOptions_164 ?_
                refine A.getf d6_readsOptions_165 ?_ (hc := c0)
                refine A.il5_1 d6_readsOptions_168 ?_
                refine A.iconst d6_readsOptions_169 ?_
                refine A.iadd d6_readsOptions_170 ?_
                refine A.il5_2 d6_readsOptions_171 ?_
                refine A.iast d6_readsOptions_172 (fun h172 e172 f172 => ?_) (hc := c2)
                first | (have c0 := (f172.2 _ (by omega)).trans c0) | (have c0 := e172)
                first | (have c2 := (f172.2 _ (by omega)).trans c2) | (have c2 := e172)
                first | (have c6 := (f172.2 _ (by omega)).trans c6) | (have c6 := e172)
                refine A.vret d6_readsOptions_173 ?_
                first
                  | (exfalso; omega)
                  | (have hno : ¬ nmOk T 29 (sk T b) := fun z => c58 (i45a z).1
                     rw [show osR T (j + 1) b = _ from pif_f (fun z => hno z.1)] at q1 q2 q3
                     exact k _ _ _ _ c0 c2 (by omega) (by omega) ⟨fun z => absurd (by rw [q1] at z; exact z) (fun y => y), fun _ => by rw [q2, i45b hno]; exact (pif_f hno).symm⟩ (fun j hj => by unfold fset; (repeat rw [if_neg (by omega)]); exact hA j hj) ((((hF.trans (f45.two1 (by omega) (by omega))).trans (f48.two2 (by omega) (by omega))).trans (f123.two2 (by omega) (by omega))).trans (f172.two2 (by omega) (by omega))))
                  | (have hL : ¬ opL T (sk T b) := by unfold opL; rw [← hQ]; omega
                     have hOk : opOk T (sk T b) := ⟨hok, fun z => absurd z hL⟩
                     have hAt : opAt T (sk T b) = ps1 := (pif_t hok).trans ((pif_f hL).trans hQ.symm)
                     have hV : opV T (sk T b) = (v1, 0, -11) := by rw [hv1]; exact pif_f hL
                     have hs : sk T (opAt T (sk T b)) = ps1 := by rw [hAt, hps1]; exact sk_sk hT (by omega)
                     rw [show osR T (j + 1) b = _ from (pif_t hOk).trans (pif_f (by rw [hs]; exact c142))] at q1 q2 q3
                     rw [hs] at q2
                     exact k _ _ _ _ c0 c2 (by omega) (by omega) ⟨fun _ => ⟨c133, q2.symm, (fs_at (by omega)).trans (by rw [q3, List.length_append, hpl]; rfl), by rw [q3, hV]; exact oRep_snoc hR ((fs_off (by omega)).trans ((fs_off (by omega)).trans (fs_at (by omega)))) (((fs_off (by omega)).trans (fs_at (by omega))).trans lkV0.symm) (fun j h0 h1 => (fs_off (by omega)).trans ((fs_off (by omega)).trans (fs_off (by omega))))⟩, fun z => absurd (by rw [q1]; trivial) z⟩ (fun j hj => by unfold fset; (repeat rw [if_neg (by omega)]); exact hA j hj) ((((hF.trans (f45.two1 (by omega) (by omega))).trans (f48.two2 (by omega) (by omega))).trans (f123.two2 (by omega) (by omega))).trans (f172.two2 (by omega) (by omega))))
                  | (have hno : ¬ dgOk T 5 (opD T (sk T b)) := fun z => c133 (i101a z).1
                     have hnk : ¬ opOk T (sk T b) := fun z => hno (z.2 hL)
                     rw [show osR T (j + 1) b = _ from pif_f hnk] at q1 q2 q3
                     exact k _ _ _ _ c0 c2 (by omega) (by omega) ⟨fun z => absurd (by rw [q1] at z; exact z) (fun y => y), fun _ => by rw [q2, i101b hno]; exact ((pif_t hok).trans (pif_t hL)).symm⟩ (fun j hj => by unfold fset; (repeat rw [if_neg (by omega)]); exact hA j hj) ((((((hF.trans (f45.two1 (by omega) (by omega))).trans (f48.two2 (by omega) (by omega))).trans (f81.two1 (by omega) (by omega))).trans (f101.two1 (by omega) (by omega))).trans (f123.two2 (by omega) (by omega))).trans (f172.two2 (by omega) (by omega))))
                  | (have hdo : dgOk T 5 (opD T (sk T b)) := Classical.byContradiction fun z => by have := i101b z; have := dgAt_ne (T := T) (m := 5) (p := opD T (sk T b)) (by omega) (by omega); omega
                     obtain ⟨-, hps3, hv3⟩ := i101a hdo
                     have hOk : opOk T (sk T b) := ⟨hok, fun _ => hdo⟩
                     have hs : sk T (opAt T (sk T b)) = ps3 := by rw [hps3]; exact congrArg _ ((pif_t hok).trans (pif_t hL))
                     rw [show osR T (j + 1) b = _ from (pif_t hOk).trans (pif_f (by rw [hs]; exact c142))] at q1 q2 q3
                     rw [hs] at q2
                     exact k _ _ _ _ c0 c2 (by omega) (by omega) ⟨fun _ => ⟨c133, q2.symm, (fs_at (by omega)).trans (by rw [q3, List.length_append, hpl]; rfl), by rw [q3]; exact oRep_snoc hR (((fs_off (by omega)).trans ((fs_off (by omega)).trans (fs_at (by omega)))).trans (hv1.trans (opV1 hL).symm)) (((fs_off (by omega)).trans (fs_at (by omega))).trans (by rw [hv3]; first | exact (lkV1 hL (by rw [← hQ]; omega)).symm | exact (lkV2 hL (by rw [← hQ]; omega)).symm)) (fun j h0 h1 => (fs_off (by omega)).trans ((fs_off (by omega)).trans (fs_off (by omega))))⟩, fun z => absurd (by rw [q1]; trivial) z⟩ (fun j hj => by unfold fset; (repeat rw [if_neg (by omega)]); exact hA j hj) ((((((hF.trans (f45.two1 (by omega) (by omega))).trans (f48.two2 (by omega) (by omega))).trans (f81.two1 (by omega) (by omega))).trans (f101.two1 (by omega) (by omega))).trans (f123.two2 (by omega) (by omega))).trans (f172.two2 (by omega) (by omega))))
              · refine A.al5_0 d6_readsOptions_136 ?_
                refine A.v0 d6_readsOptions_137 (s6_next c0 c6 hT (by omega) (kS ?_)) (hc := c0)
                refine A.bipush d6_readsOptions_140 ?_
                refine A.ic_ne d6_readsOptions_142 (fun c142 => ?_) (fun c142 => ?_)
                · refine A.iconst d6_readsOptions_149 ?_
                  refine A.is5_3 d6_readsOptions_150 ?_
                  refine A.il5_3 d6_readsOptions_151 ?_
                  refine A.if_eq d6_readsOptions_152 (fun c152 => ?_) (fun c152 => absurd rfl c152)
                  refine A.goto d6_readsOptions_161 ?_
                  refine A.il5_3 d6_readsOptions_4 ?_
                  refine A.if_eq d6_readsOptions_5 (fun c5 => ?_) (fun c5 => absurd rfl c5)
                  refine A.al5_0 d6_readsOptions_164 ?_
                  refine A.getf d6_readsOptions_165 ?_ (hc := c0)
                  refine A.il5_1 d6_readsOptions_168 ?_
                  refine A.iconst d6_readsOptions_169 ?_
                  refine A.iadd d6_readsOptions_170 ?_
                  refine A.il5_2 d6_readsOptions_171 ?_
                  refine A.iast d6_readsOptions_172 (fun h172 e172 f172 => ?_) (hc := c2)
                  first | (have c0 := (f172.2 _ (by omega)).trans c0) | (have c0 := e172)
                  first | (have c2 := (f172.2 _ (by omega)).trans c2) | (have c2 := e172)
                  first | (have c6 := (f172.2 _ (by omega)).trans c6) | (have c6 := e172)
                  refine A.vret d6_readsOptions_173 ?_
                  first
                    | (exfalso; omega)
                    | (have hno : ¬ nmOk T 29 (sk T b) := fun z => c58 (i45a z).1
                       rw [show osR T (j + 1) b = _ from pif_f (fun z => hno z.1)] at q1 q2 q3
                       exact k _ _ _ _ c0 c2 (by omega) (by omega) ⟨fun z => absurd (by rw [q1] at z; exact z) (fun y => y), fun _ => by rw [q2, i45b hno]; exact (pif_f hno).symm⟩ (fun j hj => by unfold fset; (repeat rw [if_neg (by omega)]); exact hA j hj) ((((hF.trans (f45.two1 (by omega) (by omega))).trans (f48.two2 (by omega) (by omega))).trans (f123.two2 (by omega) (by omega))).trans (f172.two2 (by omega) (by omega))))
                    | (have hL : ¬ opL T (sk T b) := by unfold opL; rw [← hQ]; omega
                       have hOk : opOk T (sk T b) := ⟨hok, fun z => absurd z hL⟩
                       have hAt : opAt T (sk T b) = ps1 := (pif_t hok).trans ((pif_f hL).trans hQ.symm)
                       have hV : opV T (sk T b) = (v1, 0, -11) := by rw [hv1]; exact pif_f hL
                       have hs : sk T (opAt T (sk T b)) = ps1 := by rw [hAt, hps1]; exact sk_sk hT (by omega)
                       rw [show osR T (j + 1) b = _ from (pif_t hOk).trans (pif_f (by rw [hs]; exact c142))] at q1 q2 q3
                       rw [hs] at q2
                       exact k _ _ _ _ c0 c2 (by omega) (by omega) ⟨fun _ => ⟨c133, q2.symm, (fs_at (by omega)).trans (by rw [q3, List.length_append, hpl]; rfl), by rw [q3, hV]; exact oRep_snoc hR ((fs_off (by omega)).trans ((fs_off (by omega)).trans (fs_at (by omega)))) (((fs_off (by omega)).trans (fs_at (by omega))).trans lkV0.symm) (fun j h0 h1 => (fs_off (by omega)).trans ((fs_off (by omega)).trans (fs_off (by omega))))⟩, fun z => absurd (by rw [q1]; trivial) z⟩ (fun j hj => by unfold fset; (repeat rw [if_neg (by omega)]); exact hA j hj) ((((hF.trans (f45.two1 (by omega) (by omega))).trans (f48.two2 (by omega) (by omega))).trans (f123.two2 (by omega) (by omega))).trans (f172.two2 (by omega) (by omega))))
                    | (have hno : ¬ dgOk T 5 (opD T (sk T b)) := fun z => c133 (i101a z).1
                       have hnk : ¬ opOk T (sk T b) := fun z => hno (z.2 hL)
                       rw [show osR T (j + 1) b = _ from pif_f hnk] at q1 q2 q3
                       exact k _ _ _ _ c0 c2 (by omega) (by omega) ⟨fun z => absurd (by rw [q1] at z; exact z) (fun y => y), fun _ => by rw [q2, i101b hno]; exact ((pif_t hok).trans (pif_t hL)).symm⟩ (fun j hj => by unfold fset; (repeat rw [if_neg (by omega)]); exact hA j hj) ((((((hF.trans (f45.two1 (by omega) (by omega))).trans (f48.two2 (by omega) (by omega))).trans (f81.two1 (by omega) (by omega))).trans (f101.two1 (by omega) (by omega))).trans (f123.two2 (by omega) (by omega))).trans (f172.two2 (by omega) (by omega))))
                    | (have hdo : dgOk T 5 (opD T (sk T b)) := Classical.byContradiction fun z => by have := i101b z; have := dgAt_ne (T := T) (m := 5) (p := opD T (sk T b)) (by omega) (by omega); omega
                       obtain ⟨-, hps3, hv3⟩ := i101a hdo
                       have hOk : opOk T (sk T b) := ⟨hok, fun _ => hdo⟩
                       have hs : sk T (opAt T (sk T b)) = ps3 := by rw [hps3]; exact congrArg _ ((pif_t hok).trans (pif_t hL))
                       rw [show osR T (j + 1) b = _ from (pif_t hOk).trans (pif_f (by rw [hs]; exact c142))] at q1 q2 q3
                       rw [hs] at q2
                       exact k _ _ _ _ c0 c2 (by omega) (by omega) ⟨fun _ => ⟨c133, q2.symm, (fs_at (by omega)).trans (by rw [q3, List.length_append, hpl]; rfl), by rw [q3]; exact oRep_snoc hR (((fs_off (by omega)).trans ((fs_off (by omega)).trans (fs_at (by omega)))).trans (hv1.trans (opV1 hL).symm)) (((fs_off (by omega)).trans (fs_at (by omega))).trans (by rw [hv3]; first | exact (lkV1 hL (by rw [← hQ]; omega)).symm | exact (lkV2 hL (by rw [← hQ]; omega)).symm)) (fun j h0 h1 => (fs_off (by omega)).trans ((fs_off (by omega)).trans (fs_off (by omega))))⟩, fun z => absurd (by rw [q1]; trivial) z⟩ (fun j hj => by unfold fset; (repeat rw [if_neg (by omega)]); exact hA j hj) ((((((hF.trans (f45.two1 (by omega) (by omega))).trans (f48.two2 (by omega) (by omega))).trans (f81.two1 (by omega) (by omega))).trans (f101.two1 (by omega) (by omega))).trans (f123.two2 (by omega) (by omega))).trans (f172.two2 (by omega) (by omega))))
                · refine A.iconst d6_readsOptions_145 ?_
                  refine A.goto d6_readsOptions_146 ?_
                  refine A.is5_3 d6_readsOptions_150 ?_
                  refine A.il5_3 d6_readsOptions_151 ?_
                  refine A.if_eq d6_readsOptions_152 (fun c152 => absurd c152 (by decide)) (fun c152 => ?_)
                  refine A.al5_0 d6_readsOptions_155 ?_
                  refine A.iconst d6_readsOptions_156 ?_
                  refine A.v1 d6_readsOptions_157 (s6_take1 c0 c6 hT (by omega) (by omega) (by omega) (fun h157 ps4 fa4 e157 b157 d157 i157 j157 f157 => kS ?_)) (hc := c0)
                  have c2 := f157.get c2 (by omega)
                  have c6 := f157.get c6 (by omega)
                  have c0 := e157
                  
                  refine A.pop d6_readsOptions_160 ?_
                  refine A.goto d6_readsOptions_161 ?_
                  first
                    | (exfalso; omega)
                    | (have hL : ¬ opL T (sk T b) := by unfold opL; rw [← hQ]; omega
                       have hOk : opOk T (sk T b) := ⟨hok, fun z => absurd z hL⟩
                       have hAt : opAt T (sk T b) = ps1 := (pif_t hok).trans ((pif_f hL).trans hQ.symm)
                       have hV : opV T (sk T b) = (v1, 0, -11) := by rw [hv1]; exact pif_f hL
                       have hs : sk T (opAt T (sk T b)) = ps1 := by rw [hAt, hps1]; exact sk_sk hT (by omega)
                       rw [show osR T (j + 1) b = _ from (pif_t hOk).trans (pif_t (by rw [hs]; exact c142))] at q1 q2 q3
                       rw [hs] at q1 q2 q3
                       obtain ⟨w1, w2⟩ := i157 (by omega)
                       have hlt := tc_lt (T := T) (p := ps1) (by omega)
                       rw [w1, w2] at c0
                       refine ih (i + 1) (ps1 + 1) _ _ _ _ (by omega) (by omega) (sk_len (by omega)) (by omega) c0 c2 c6 ((((hF.trans (f45.two1 (by omega) (by omega))).trans (f48.two2 (by omega) (by omega))).trans (f123.two2 (by omega) (by omega))).trans (f157.two1 (by omega) (by omega))) (by rw [q1, show 4 - (i + 1) = j by omega]) (by rw [q2, show 4 - (i + 1) = j by omega]) (by rw [q3, show 4 - (i + 1) = j by omega, ← List.append_cons]) (by rw [List.length_append, hpl]; rfl) ?_ (fun j hj => by unfold fset; (repeat rw [if_neg (by omega)]); exact hA j hj) (by omega)
                       rw [hV]
                       exact oRep_snoc hR ((fs_off (by omega)).trans (fs_at (by omega))) ((fs_at (by omega)).trans lkV0.symm) (fun j h0 h1 => (fs_off (by omega)).trans (fs_off (by omega))))
                    | (have hdo : dgOk T 5 (opD T (sk T b)) := Classical.byContradiction fun z => by have := i101b z; have := dgAt_ne (T := T) (m := 5) (p := opD T (sk T b)) (by omega) (by omega); omega
                       obtain ⟨-, hps3, hv3⟩ := i101a hdo
                       have hOk : opOk T (sk T b) := ⟨hok, fun _ => hdo⟩
                       have hs : sk T (opAt T (sk T b)) = ps3 := by rw [hps3]; exact congrArg _ ((pif_t hok).trans (pif_t hL))
                       rw [show osR T (j + 1) b = _ from (pif_t hOk).trans (pif_t (by rw [hs]; exact c142))] at q1 q2 q3
                       rw [hs] at q1 q2 q3
                       obtain ⟨w1, w2⟩ := i157 (by omega)
                       have hlt := tc_lt (T := T) (p := ps3) (by omega)
                       rw [w1, w2] at c0
                       refine ih (i + 1) (ps3 + 1) _ _ _ _ (by omega) (by omega) (sk_len (by omega)) (by omega) c0 c2 c6 ((((((hF.trans (f45.two1 (by omega) (by omega))).trans (f48.two2 (by omega) (by omega))).trans (f81.two1 (by omega) (by omega))).trans (f101.two1 (by omega) (by omega))).trans (f123.two2 (by omega) (by omega))).trans (f157.two1 (by omega) (by omega))) (by rw [q1, show 4 - (i + 1) = j by omega]) (by rw [q2, show 4 - (i + 1) = j by omega]) (by rw [q3, show 4 - (i + 1) = j by omega, ← List.append_cons]) (by rw [List.length_append, hpl]; rfl) ?_ (fun j hj => by unfold fset; (repeat rw [if_neg (by omega)]); exact hA j hj) (by omega)
                       exact oRep_snoc hR (((fs_off (by omega)).trans (fs_at (by omega))).trans (hv1.trans (opV1 hL).symm)) ((fs_at (by omega)).trans (by rw [hv3]; first | exact (lkV1 hL (by rw [← hQ]; omega)).symm | exact (lkV2 hL (by rw [← hQ]; omega)).symm)) (fun j h0 h1 => (fs_off (by omega)).trans (fs_off (by omega))))
            · refine A.iconst d6_readsOptions_89 ?_
              refine A.goto d6_readsOptions_90 ?_
              refine A.is5_4 d6_readsOptions_94 ?_
              refine A.il5_4 d6_readsOptions_96 ?_
              refine A.iconst d6_readsOptions_98 ?_
              refine A.al5_0 d6_readsOptions_99 ?_
              refine A.iconst d6_readsOptions_100 ?_
              refine A.v1 d6_readsOptions_101 (s6_digit (m := 5) c0 c6 hT b81 d81 (by omega) (fun h101 ps3 fa3 v3 e101 b101 d101 r101 i101 j101 f101 => kS ?_)) (hc := c0)
              have c2 := f101.get c2 (by omega)
              have c6 := f101.get c6 (by omega)
              have c0 := e101
              obtain ⟨i101a, i101b⟩ := i101 (by omega)
              rw [hD] at i101a i101b
              have hD0 : 0 ≤ opD T (sk T b) ∧ opD T (sk T b) ≤ T.1 := by rw [← hD]; exact ⟨b81, d81⟩
              refine A.imul d6_readsOptions_104 ?_
              refine A.iadd d6_readsOptions_105 ?_
              refine A.is5_4 d6_readsOptions_106 ?_
              refine A.al5_0 d6_readsOptions_108 ?_
              refine A.getf d6_readsOptions_109 ?_ (hc := c0)
              refine A.il5_1 d6_readsOptions_112 ?_
              refine A.iconst d6_readsOptions_113 ?_
              refine A.iadd d6_readsOptions_114 ?_
              refine A.iconst d6_readsOptions_115 ?_
              refine A.il5_2 d6_readsOptions_116 ?_
              refine A.imul d6_readsOptions_117 ?_
              refine A.iadd d6_readsOptions_118 ?_
              refine A.iconst d6_readsOptions_119 ?_
              refine A.iadd d6_readsOptions_120 ?_
              refine A.il5_4 d6_readsOptions_121 ?_
              refine A.iast d6_readsOptions_123 (fun h123 e123 f123 => ?_) (hc := c2)
              first | (have c0 := (f123.2 _ (by omega)).trans c0) | (have c0 := e123)
              first | (have c2 := (f123.2 _ (by omega)).trans c2) | (have c2 := e123)
              first | (have c6 := (f123.2 _ (by omega)).trans c6) | (have c6 := e123)
              refine A.ii5_2 d6_readsOptions_124 ?_
              refine A.al5_0 d6_readsOptions_127 ?_
              refine A.getf d6_readsOptions_128 ?_ (hc := c0)
              refine A.bipush d6_readsOptions_131 ?_
              refine A.ic_ne d6_readsOptions_133 (fun c133 => ?_) (fun c133 => ?_)
              · refine A.iconst d6_readsOptions_149 ?_
                refine A.is5_3 d6_readsOptions_150 ?_
                refine A.il5_3 d6_readsOptions_151 ?_
                refine A.if_eq d6_readsOptions_152 (fun c152 => ?_) (fun c152 => absurd rfl c152)
                refine A.goto d6_readsOptions_161 ?_
                refine A.il5_3 d6_readsOptions_4 ?_
                refine A.if_eq d6_readsOptions_5 (fun c5 => ?_) (fun c5 => absurd rfl c5)
                refine A.al5_0 d6_readsOptions_164 ?_
                refine A.getf d6_readsOptions_165 ?_ (hc := c0)
                refine A.il5_1 d6_readsOptions_168 ?_
                refine A.iconst d6_readsOptions_169 ?_
                refine A.iadd d6_readsOptions_170 ?_
                refine A.il5_2 d6_readsOptions_171 ?_
                refine A.iast d6_readsOptions_172 (fun h172 e172 f172 => ?_) (hc := c2)
                first | (have c0 := (f172.2 _ (by omega)).trans c0) | (have c0 := e172)
                first | (have c2 := (f172.2 _ (by omega)).trans c2) | (have c2 := e172)
                first | (have c6 := (f172.2 _ (by omega)).trans c6) | (have c6 := e172)
                refine A.vret d6_readsOptions_173 ?_
                first
                  | (exfalso; omega)
                  | (have hno : ¬ nmOk T 29 (sk T b) := fun z => c58 (i45a z).1
                     rw [show osR T (j + 1) b = _ from pif_f (fun z => hno z.1)] at q1 q2 q3
                     exact k _ _ _ _ c0 c2 (by omega) (by omega) ⟨fun z => absurd (by rw [q1] at z; exact z) (fun y => y), fun _ => by rw [q2, i45b hno]; exact (pif_f hno).symm⟩ (fun j hj => by unfold fset; (repeat rw [if_neg (by omega)]); exact hA j hj) ((((hF.trans (f45.two1 (by omega) (by omega))).trans (f48.two2 (by omega) (by omega))).trans (f123.two2 (by omega) (by omega))).trans (f172.two2 (by omega) (by omega))))
                  | (have hL : ¬ opL T (sk T b) := by unfold opL; rw [← hQ]; omega
                     have hOk : opOk T (sk T b) := ⟨hok, fun z => absurd z hL⟩
                     have hAt : opAt T (sk T b) = ps1 := (pif_t hok).trans ((pif_f hL).trans hQ.symm)
                     have hV : opV T (sk T b) = (v1, 0, -11) := by rw [hv1]; exact pif_f hL
                     have hs : sk T (opAt T (sk T b)) = ps1 := by rw [hAt, hps1]; exact sk_sk hT (by omega)
                     rw [show osR T (j + 1) b = _ from (pif_t hOk).trans (pif_f (by rw [hs]; exact c142))] at q1 q2 q3
                     rw [hs] at q2
                     exact k _ _ _ _ c0 c2 (by omega) (by omega) ⟨fun _ => ⟨c133, q2.symm, (fs_at (by omega)).trans (by rw [q3, List.length_append, hpl]; rfl), by rw [q3, hV]; exact oRep_snoc hR ((fs_off (by omega)).trans ((fs_off (by omega)).trans (fs_at (by omega)))) (((fs_off (by omega)).trans (fs_at (by omega))).trans lkV0.symm) (fun j h0 h1 => (fs_off (by omega)).trans ((fs_off (by omega)).trans (fs_off (by omega))))⟩, fun z => absurd (by rw [q1]; trivial) z⟩ (fun j hj => by unfold fset; (repeat rw [if_neg (by omega)]); exact hA j hj) ((((hF.trans (f45.two1 (by omega) (by omega))).trans (f48.two2 (by omega) (by omega))).trans (f123.two2 (by omega) (by omega))).trans (f172.two2 (by omega) (by omega))))
                  | (have hno : ¬ dgOk T 5 (opD T (sk T b)) := fun z => c133 (i101a z).1
                     have hnk : ¬ opOk T (sk T b) := fun z => hno (z.2 hL)
                     rw [show osR T (j + 1) b = _ from pif_f hnk] at q1 q2 q3
                     exact k _ _ _ _ c0 c2 (by omega) (by omega) ⟨fun z => absurd (by rw [q1] at z; exact z) (fun y => y), fun _ => by rw [q2, i101b hno]; exact ((pif_t hok).trans (pif_t hL)).symm⟩ (fun j hj => by unfold fset; (repeat rw [if_neg (by omega)]); exact hA j hj) ((((((hF.trans (f45.two1 (by omega) (by omega))).trans (f48.two2 (by omega) (by omega))).trans (f81.two1 (by omega) (by omega))).trans (f101.two1 (by omega) (by omega))).trans (f123.two2 (by omega) (by omega))).trans (f172.two2 (by omega) (by omega))))
                  | (have hdo : dgOk T 5 (opD T (sk T b)) := Classical.byContradiction fun z => by have := i101b z; have := dgAt_ne (T := T) (m := 5) (p := opD T (sk T b)) (by omega) (by omega); omega
                     obtain ⟨-, hps3, hv3⟩ := i101a hdo
                     have hOk : opOk T (sk T b) := ⟨hok, fun _ => hdo⟩
                     have hs : sk T (opAt T (sk T b)) = ps3 := by rw [hps3]; exact congrArg _ ((pif_t hok).trans (pif_t hL))
                     rw [show osR T (j + 1) b = _ from (pif_t hOk).trans (pif_f (by rw [hs]; exact c142))] at q1 q2 q3
                     rw [hs] at q2
                     exact k _ _ _ _ c0 c2 (by omega) (by omega) ⟨fun _ => ⟨c133, q2.symm, (fs_at (by omega)).trans (by rw [q3, List.length_append, hpl]; rfl), by rw [q3]; exact oRep_snoc hR (((fs_off (by omega)).trans ((fs_off (by omega)).trans (fs_at (by omega)))).trans (hv1.trans (opV1 hL).symm)) (((fs_off (by omega)).trans (fs_at (by omega))).trans (by rw [hv3]; first | exact (lkV1 hL (by rw [← hQ]; omega)).symm | exact (lkV2 hL (by rw [← hQ]; omega)).symm)) (fun j h0 h1 => (fs_off (by omega)).trans ((fs_off (by omega)).trans (fs_off (by omega))))⟩, fun z => absurd (by rw [q1]; trivial) z⟩ (fun j hj => by unfold fset; (repeat rw [if_neg (by omega)]); exact hA j hj) ((((((hF.trans (f45.two1 (by omega) (by omega))).trans (f48.two2 (by omega) (by omega))).trans (f81.two1 (by omega) (by omega))).trans (f101.two1 (by omega) (by omega))).trans (f123.two2 (by omega) (by omega))).trans (f172.two2 (by omega) (by omega))))
              · refine A.al5_0 d6_readsOptions_136 ?_
                refine A.v0 d6_readsOptions_137 (s6_next c0 c6 hT (by omega) (kS ?_)) (hc := c0)
                refine A.bipush d6_readsOptions_140 ?_
                refine A.ic_ne d6_readsOptions_142 (fun c142 => ?_) (fun c142 => ?_)
                · refine A.iconst d6_readsOptions_149 ?_
                  refine A.is5_3 d6_readsOptions_150 ?_
                  refine A.il5_3 d6_readsOptions_151 ?_
                  refine A.if_eq d6_readsOptions_152 (fun c152 => ?_) (fun c152 => absurd rfl c152)
                  refine A.goto d6_readsOptions_161 ?_
                  refine A.il5_3 d6_readsOptions_4 ?_
                  refine A.if_eq d6_readsOptions_5 (fun c5 => ?_) (fun c5 => absurd rfl c5)
                  refine A.al5_0 d6_readsOptions_164 ?_
                  refine A.getf d6_readsOptions_165 ?_ (hc := c0)
                  refine A.il5_1 d6_readsOptions_168 ?_
                  refine A.iconst d6_readsOptions_169 ?_
                  refine A.iadd d6_readsOptions_170 ?_
                  refine A.il5_2 d6_readsOptions_171 ?_
                  refine A.iast d6_readsOptions_172 (fun h172 e172 f172 => ?_) (hc := c2)
                  first | (have c0 := (f172.2 _ (by omega)).trans c0) | (have c0 := e172)
                  first | (have c2 := (f172.2 _ (by omega)).trans c2) | (have c2 := e172)
                  first | (have c6 := (f172.2 _ (by omega)).trans c6) | (have c6 := e172)
                  refine A.vret d6_readsOptions_173 ?_
                  first
                    | (exfalso; omega)
                    | (have hno : ¬ nmOk T 29 (sk T b) := fun z => c58 (i45a z).1
                       rw [show osR T (j + 1) b = _ from pif_f (fun z => hno z.1)] at q1 q2 q3
                       exact k _ _ _ _ c0 c2 (by omega) (by omega) ⟨fun z => absurd (by rw [q1] at z; exact z) (fun y => y), fun _ => by rw [q2, i45b hno]; exact (pif_f hno).symm⟩ (fun j hj => by unfold fset; (repeat rw [if_neg (by omega)]); exact hA j hj) ((((hF.trans (f45.two1 (by omega) (by omega))).trans (f48.two2 (by omega) (by omega))).trans (f123.two2 (by omega) (by omega))).trans (f172.two2 (by omega) (by omega))))
                    | (have hL : ¬ opL T (sk T b) := by unfold opL; rw [← hQ]; omega
                       have hOk : opOk T (sk T b) := ⟨hok, fun z => absurd z hL⟩
                       have hAt : opAt T (sk T b) = ps1 := (pif_t hok).trans ((pif_f hL).trans hQ.symm)
                       have hV : opV T (sk T b) = (v1, 0, -11) := by rw [hv1]; exact pif_f hL
                       have hs : sk T (opAt T (sk T b)) = ps1 := by rw [hAt, hps1]; exact sk_sk hT (by omega)
                       rw [show osR T (j + 1) b = _ from (pif_t hOk).trans (pif_f (by rw [hs]; exact c142))] at q1 q2 q3
                       rw [hs] at q2
                       exact k _ _ _ _ c0 c2 (by omega) (by omega) ⟨fun _ => ⟨c133, q2.symm, (fs_at (by omega)).trans (by rw [q3, List.length_append, hpl]; rfl), by rw [q3, hV]; exact oRep_snoc hR ((fs_off (by omega)).trans ((fs_off (by omega)).trans (fs_at (by omega)))) (((fs_off (by omega)).trans (fs_at (by omega))).trans lkV0.symm) (fun j h0 h1 => (fs_off (by omega)).trans ((fs_off (by omega)).trans (fs_off (by omega))))⟩, fun z => absurd (by rw [q1]; trivial) z⟩ (fun j hj => by unfold fset; (repeat rw [if_neg (by omega)]); exact hA j hj) ((((hF.trans (f45.two1 (by omega) (by omega))).trans (f48.two2 (by omega) (by omega))).trans (f123.two2 (by omega) (by omega))).trans (f172.two2 (by omega) (by omega))))
                    | (have hno : ¬ dgOk T 5 (opD T (sk T b)) := fun z => c133 (i101a z).1
                       have hnk : ¬ opOk T (sk T b) := fun z => hno (z.2 hL)
                       rw [show osR T (j + 1) b = _ from pif_f hnk] at q1 q2 q3
                       exact k _ _ _ _ c0 c2 (by omega) (by omega) ⟨fun z => absurd (by rw [q1] at z; exact z) (fun y => y), fun _ => by rw [q2, i101b hno]; exact ((pif_t hok).trans (pif_t hL)).symm⟩ (fun j hj => by unfold fset; (repeat rw [if_neg (by omega)]); exact hA j hj) ((((((hF.trans (f45.two1 (by omega) (by omega))).trans (f48.two2 (by omega) (by omega))).trans (f81.two1 (by omega) (by omega))).trans (f101.two1 (by omega) (by omega))).trans (f123.two2 (by omega) (by omega))).trans (f172.two2 (by omega) (by omega))))
                    | (have hdo : dgOk T 5 (opD T (sk T b)) := Classical.byContradiction fun z => by have := i101b z; have := dgAt_ne (T := T) (m := 5) (p := opD T (sk T b)) (by omega) (by omega); omega
                       obtain ⟨-, hps3, hv3⟩ := i101a hdo
                       have hOk : opOk T (sk T b) := ⟨hok, fun _ => hdo⟩
                       have hs : sk T (opAt T (sk T b)) = ps3 := by rw [hps3]; exact congrArg _ ((pif_t hok).trans (pif_t hL))
                       rw [show osR T (j + 1) b = _ from (pif_t hOk).trans (pif_f (by rw [hs]; exact c142))] at q1 q2 q3
                       rw [hs] at q2
                       exact k _ _ _ _ c0 c2 (by omega) (by omega) ⟨fun _ => ⟨c133, q2.symm, (fs_at (by omega)).trans (by rw [q3, List.length_append, hpl]; rfl), by rw [q3]; exact oRep_snoc hR (((fs_off (by omega)).trans ((fs_off (by omega)).trans (fs_at (by omega)))).trans (hv1.trans (opV1 hL).symm)) (((fs_off (by omega)).trans (fs_at (by omega))).trans (by rw [hv3]; first | exact (lkV1 hL (by rw [← hQ]; omega)).symm | exact (lkV2 hL (by rw [← hQ]; omega)).symm)) (fun j h0 h1 => (fs_off (by omega)).trans ((fs_off (by omega)).trans (fs_off (by omega))))⟩, fun z => absurd (by rw [q1]; trivial) z⟩ (fun j hj => by unfold fset; (repeat rw [if_neg (by omega)]); exact hA j hj) ((((((hF.trans (f45.two1 (by omega) (by omega))).trans (f48.two2 (by omega) (by omega))).trans (f81.two1 (by omega) (by omega))).trans (f101.two1 (by omega) (by omega))).trans (f123.two2 (by omega) (by omega))).trans (f172.two2 (by omega) (by omega))))
                · refine A.iconst d6_readsOptions_145 ?_
                  refine A.goto d6_readsOptions_146 ?_
                  refine A.is5_3 d6_readsOptions_150 ?_
                  refine A.il5_3 d6_readsOptions_151 ?_
                  refine A.if_eq d6_readsOptions_152 (fun c152 => absurd c152 (by decide)) (fun c152 => ?_)
                  refine A.al5_0 d6_readsOptions_155 ?_
                  refine A.iconst d6_readsOptions_156 ?_
                  refine A.v1 d6_readsOptions_157 (s6_take1 c0 c6 hT (by omega) (by omega) (by omega) (fun h157 ps4 fa4 e157 b157 d157 i157 j157 f157 => kS ?_)) (hc := c0)
                  have c2 := f157.get c2 (by omega)
                  have c6 := f157.get c6 (by omega)
                  have c0 := e157
                  
                  refine A.pop d6_readsOptions_160 ?_
                  refine A.goto d6_readsOptions_161 ?_
                  first
                    | (exfalso; omega)
                    | (have hL : ¬ opL T (sk T b) := by unfold opL; rw [← hQ]; omega
                       have hOk : opOk T (sk T b) := ⟨hok, fun z => absurd z hL⟩
                       have hAt : opAt T (sk T b) = ps1 := (pif_t hok).trans ((pif_f hL).trans hQ.symm)
                       have hV : opV T (sk T b) = (v1, 0, -11) := by rw [hv1]; exact pif_f hL
                       have hs : sk T (opAt T (sk T b)) = ps1 := by rw [hAt, hps1]; exact sk_sk hT (by omega)
                       rw [show osR T (j + 1) b = _ from (pif_t hOk).trans (pif_t (by rw [hs]; exact c142))] at q1 q2 q3
                       rw [hs] at q1 q2 q3
                       obtain ⟨w1, w2⟩ := i157 (by omega)
                       have hlt := tc_lt (T := T) (p := ps1) (by omega)
                       rw [w1, w2] at c0
                       refine ih (i + 1) (ps1 + 1) _ _ _ _ (by omega) (by omega) (sk_len (by omega)) (by omega) c0 c2 c6 ((((hF.trans (f45.two1 (by omega) (by omega))).trans (f48.two2 (by omega) (by omega))).trans (f123.two2 (by omega) (by omega))).trans (f157.two1 (by omega) (by omega))) (by rw [q1, show 4 - (i + 1) = j by omega]) (by rw [q2, show 4 - (i + 1) = j by omega]) (by rw [q3, show 4 - (i + 1) = j by omega, ← List.append_cons]) (by rw [List.length_append, hpl]; rfl) ?_ (fun j hj => by unfold fset; (repeat rw [if_neg (by omega)]); exact hA j hj) (by omega)
                       rw [hV]
                       exact oRep_snoc hR ((fs_off (by omega)).trans (fs_at (by omega))) ((fs_at (by omega)).trans lkV0.symm) (fun j h0 h1 => (fs_off (by omega)).trans (fs_off (by omega))))
                    | (have hdo : dgOk T 5 (opD T (sk T b)) := Classical.byContradiction fun z => by have := i101b z; have := dgAt_ne (T := T) (m := 5) (p := opD T (sk T b)) (by omega) (by omega); omega
                       obtain ⟨-, hps3, hv3⟩ := i101a hdo
                       have hOk : opOk T (sk T b) := ⟨hok, fun _ => hdo⟩
                       have hs : sk T (opAt T (sk T b)) = ps3 := by rw [hps3]; exact congrArg _ ((pif_t hok).trans (pif_t hL))
                       rw [show osR T (j + 1) b = _ from (pif_t hOk).trans (pif_t (by rw [hs]; exact c142))] at q1 q2 q3
                       rw [hs] at q1 q2 q3
                       obtain ⟨w1, w2⟩ := i157 (by omega)
                       have hlt := tc_lt (T := T) (p := ps3) (by omega)
                       rw [w1, w2] at c0
                       refine ih (i + 1) (ps3 + 1) _ _ _ _ (by omega) (by omega) (sk_len (by omega)) (by omega) c0 c2 c6 ((((((hF.trans (f45.two1 (by omega) (by omega))).trans (f48.two2 (by omega) (by omega))).trans (f81.two1 (by omega) (by omega))).trans (f101.two1 (by omega) (by omega))).trans (f123.two2 (by omega) (by omega))).trans (f157.two1 (by omega) (by omega))) (by rw [q1, show 4 - (i + 1) = j by omega]) (by rw [q2, show 4 - (i + 1) = j by omega]) (by rw [q3, show 4 - (i + 1) = j by omega, ← List.append_cons]) (by rw [List.length_append, hpl]; rfl) ?_ (fun j hj => by unfold fset; (repeat rw [if_neg (by omega)]); exact hA j hj) (by omega)
                       exact oRep_snoc hR (((fs_off (by omega)).trans (fs_at (by omega))).trans (hv1.trans (opV1 hL).symm)) ((fs_at (by omega)).trans (by rw [hv3]; first | exact (lkV1 hL (by rw [← hQ]; omega)).symm | exact (lkV2 hL (by rw [← hQ]; omega)).symm)) (fun j h0 h1 => (fs_off (by omega)).trans (fs_off (by omega))))
          · refine A.al5_0 d6_readsOptions_70 ?_
            refine A.v0 d6_readsOptions_71 (s6_next c0 c6 hT (by omega) (kS ?_)) (hc := c0)
            refine A.bipush d6_readsOptions_74 ?_
            refine A.ic_ne d6_readsOptions_76 (fun c76 => ?_) (fun c76 => ?_)
            · refine A.al5_0 d6_readsOptions_108 ?_
              refine A.getf d6_readsOptions_109 ?_ (hc := c0)
              refine A.il5_1 d6_readsOptions_112 ?_
              refine A.iconst d6_readsOptions_113 ?_
              refine A.iadd d6_readsOptions_114 ?_
              refine A.iconst d6_readsOptions_115 ?_
              refine A.il5_2 d6_readsOptions_116 ?_
              refine A.imul d6_readsOptions_117 ?_
              refine A.iadd d6_readsOptions_118 ?_
              refine A.iconst d6_readsOptions_119 ?_
              refine A.iadd d6_readsOptions_120 ?_
              refine A.il5_4 d6_readsOptions_121 ?_
              refine A.iast d6_readsOptions_123 (fun h123 e123 f123 => ?_) (hc := c2)
              first | (have c0 := (f123.2 _ (by omega)).trans c0) | (have c0 := e123)
              first | (have c2 := (f123.2 _ (by omega)).trans c2) | (have c2 := e123)
              first | (have c6 := (f123.2 _ (by omega)).trans c6) | (have c6 := e123)
              refine A.ii5_2 d6_readsOptions_124 ?_
              refine A.al5_0 d6_readsOptions_127 ?_
              refine A.getf d6_readsOptions_128 ?_ (hc := c0)
              refine A.bipush d6_readsOptions_131 ?_
              refine A.ic_ne d6_readsOptions_133 (fun c133 => ?_) (fun c133 => ?_)
              · refine A.iconst d6_readsOptions_149 ?_
                refine A.is5_3 d6_readsOptions_150 ?_
                refine A.il5_3 d6_readsOptions_151 ?_
                refine A.if_eq d6_readsOptions_152 (fun c152 => ?_) (fun c152 => absurd rfl c152)
                refine A.goto d6_readsOptions_161 ?_
                refine A.il5_3 d6_readsOptions_4 ?_
                refine A.if_eq d6_readsOptions_5 (fun c5 => ?_) (fun c5 => absurd rfl c5)
                refine A.al5_0 d6_readsOptions_164 ?_
                refine A.getf d6_readsOptions_165 ?_ (hc := c0)
                refine A.il5_1 d6_readsOptions_168 ?_
                refine A.iconst d6_readsOptions_169 ?_
                refine A.iadd d6_readsOptions_170 ?_
                refine A.il5_2 d6_readsOptions_171 ?_
                refine A.iast d6_readsOptions_172 (fun h172 e172 f172 => ?_) (hc := c2)
                first | (have c0 := (f172.2 _ (by omega)).trans c0) | (have c0 := e172)
                first | (have c2 := (f172.2 _ (by omega)).trans c2) | (have c2 := e172)
                first | (have c6 := (f172.2 _ (by omega)).trans c6) | (have c6 := e172)
                refine A.vret d6_readsOptions_173 ?_
                first
                  | (exfalso; omega)
                  | (have hno : ¬ nmOk T 29 (sk T b) := fun z => c58 (i45a z).1
                     rw [show osR T (j + 1) b = _ from pif_f (fun z => hno z.1)] at q1 q2 q3
                     exact k _ _ _ _ c0 c2 (by omega) (by omega) ⟨fun z => absurd (by rw [q1] at z; exact z) (fun y => y), fun _ => by rw [q2, i45b hno]; exact (pif_f hno).symm⟩ (fun j hj => by unfold fset; (repeat rw [if_neg (by omega)]); exact hA j hj) ((((hF.trans (f45.two1 (by omega) (by omega))).trans (f48.two2 (by omega) (by omega))).trans (f123.two2 (by omega) (by omega))).trans (f172.two2 (by omega) (by omega))))
                  | (have hL : ¬ opL T (sk T b) := by unfold opL; rw [← hQ]; omega
                     have hOk : opOk T (sk T b) := ⟨hok, fun z => absurd z hL⟩
                     have hAt : opAt T (sk T b) = ps1 := (pif_t hok).trans ((pif_f hL).trans hQ.symm)
                     have hV : opV T (sk T b) = (v1, 0, -11) := by rw [hv1]; exact pif_f hL
                     have hs : sk T (opAt T (sk T b)) = ps1 := by rw [hAt, hps1]; exact sk_sk hT (by omega)
                     rw [show osR T (j + 1) b = _ from (pif_t hOk).trans (pif_f (by rw [hs]; exact c142))] at q1 q2 q3
                     rw [hs] at q2
                     exact k _ _ _ _ c0 c2 (by omega) (by omega) ⟨fun _ => ⟨c133, q2.symm, (fs_at (by omega)).trans (by rw [q3, List.length_append, hpl]; rfl), by rw [q3, hV]; exact oRep_snoc hR ((fs_off (by omega)).trans ((fs_off (by omega)).trans (fs_at (by omega)))) (((fs_off (by omega)).trans (fs_at (by omega))).trans lkV0.symm) (fun j h0 h1 => (fs_off (by omega)).trans ((fs_off (by omega)).trans (fs_off (by omega))))⟩, fun z => absurd (by rw [q1]; trivial) z⟩ (fun j hj => by unfold fset; (repeat rw [if_neg (by omega)]); exact hA j hj) ((((hF.trans (f45.two1 (by omega) (by omega))).trans (f48.two2 (by omega) (by omega))).trans (f123.two2 (by omega) (by omega))).trans (f172.two2 (by omega) (by omega))))
                  | (have hno : ¬ dgOk T 5 (opD T (sk T b)) := fun z => c133 (i101a z).1
                     have hnk : ¬ opOk T (sk T b) := fun z => hno (z.2 hL)
                     rw [show osR T (j + 1) b = _ from pif_f hnk] at q1 q2 q3
                     exact k _ _ _ _ c0 c2 (by omega) (by omega) ⟨fun z => absurd (by rw [q1] at z; exact z) (fun y => y), fun _ => by rw [q2, i101b hno]; exact ((pif_t hok).trans (pif_t hL)).symm⟩ (fun j hj => by unfold fset; (repeat rw [if_neg (by omega)]); exact hA j hj) ((((((hF.trans (f45.two1 (by omega) (by omega))).trans (f48.two2 (by omega) (by omega))).trans (f81.two1 (by omega) (by omega))).trans (f101.two1 (by omega) (by omega))).trans (f123.two2 (by omega) (by omega))).trans (f172.two2 (by omega) (by omega))))
                  | (have hdo : dgOk T 5 (opD T (sk T b)) := Classical.byContradiction fun z => by have := i101b z; have := dgAt_ne (T := T) (m := 5) (p := opD T (sk T b)) (by omega) (by omega); omega
                     obtain ⟨-, hps3, hv3⟩ := i101a hdo
                     have hOk : opOk T (sk T b) := ⟨hok, fun _ => hdo⟩
                     have hs : sk T (opAt T (sk T b)) = ps3 := by rw [hps3]; exact congrArg _ ((pif_t hok).trans (pif_t hL))
                     rw [show osR T (j + 1) b = _ from (pif_t hOk).trans (pif_f (by rw [hs]; exact c142))] at q1 q2 q3
                     rw [hs] at q2
                     exact k _ _ _ _ c0 c2 (by omega) (by omega) ⟨fun _ => ⟨c133, q2.symm, (fs_at (by omega)).trans (by rw [q3, List.length_append, hpl]; rfl), by rw [q3]; exact oRep_snoc hR (((fs_off (by omega)).trans ((fs_off (by omega)).trans (fs_at (by omega)))).trans (hv1.trans (opV1 hL).symm)) (((fs_off (by omega)).trans (fs_at (by omega))).trans (by rw [hv3]; first | exact (lkV1 hL (by rw [← hQ]; omega)).symm | exact (lkV2 hL (by rw [← hQ]; omega)).symm)) (fun j h0 h1 => (fs_off (by omega)).trans ((fs_off (by omega)).trans (fs_off (by omega))))⟩, fun z => absurd (by rw [q1]; trivial) z⟩ (fun j hj => by unfold fset; (repeat rw [if_neg (by omega)]); exact hA j hj) ((((((hF.trans (f45.two1 (by omega) (by omega))).trans (f48.two2 (by omega) (by omega))).trans (f81.two1 (by omega) (by omega))).trans (f101.two1 (by omega) (by omega))).trans (f123.two2 (by omega) (by omega))).trans (f172.two2 (by omega) (by omega))))
              · refine A.al5_0 d6_readsOptions_136 ?_
                refine A.v0 d6_readsOptions_137 (s6_next c0 c6 hT (by omega) (kS ?_)) (hc := c0)
                refine A.bipush d6_readsOptions_140 ?_
                refine A.ic_ne d6_readsOptions_142 (fun c142 => ?_) (fun c142 => ?_)
                · refine A.iconst d6_readsOptions_149 ?_
                  refine A.is5_3 d6_readsOptions_150 ?_
                  refine A.il5_3 d6_readsOptions_151 ?_
                  refine A.if_eq d6_readsOptions_152 (fun c152 => ?_) (fun c152 => absurd rfl c152)
                  refine A.goto d6_readsOptions_161 ?_
                  refine A.il5_3 d6_readsOptions_4 ?_
                  refine A.if_eq d6_readsOptions_5 (fun c5 => ?_) (fun c5 => absurd rfl c5)
                  refine A.al5_0 d6_readsOptions_164 ?_
                  refine A.getf d6_readsOptions_165 ?_ (hc := c0)
                  refine A.il5_1 d6_readsOptions_168 ?_
                  refine A.iconst d6_readsOptions_169 ?_
                  refine A.iadd d6_readsOptions_170 ?_
                  refine A.il5_2 d6_readsOptions_171 ?_
                  refine A.iast d6_readsOptions_172 (fun h172 e172 f172 => ?_) (hc := c2)
                  first | (have c0 := (f172.2 _ (by omega)).trans c0) | (have c0 := e172)
                  first | (have c2 := (f172.2 _ (by omega)).trans c2) | (have c2 := e172)
                  first | (have c6 := (f172.2 _ (by omega)).trans c6) | (have c6 := e172)
                  refine A.vret d6_readsOptions_173 ?_
                  first
                    | (exfalso; omega)
                    | (have hno : ¬ nmOk T 29 (sk T b) := fun z => c58 (i45a z).1
                       rw [show osR T (j + 1) b = _ from pif_f (fun z => hno z.1)] at q1 q2 q3
                       exact k _ _ _ _ c0 c2 (by omega) (by omega) ⟨fun z => absurd (by rw [q1] at z; exact z) (fun y => y), fun _ => by rw [q2, i45b hno]; exact (pif_f hno).symm⟩ (fun j hj => by unfold fset; (repeat rw [if_neg (by omega)]); exact hA j hj) ((((hF.trans (f45.two1 (by omega) (by omega))).trans (f48.two2 (by omega) (by omega))).trans (f123.two2 (by omega) (by omega))).trans (f172.two2 (by omega) (by omega))))
                    | (have hL : ¬ opL T (sk T b) := by unfold opL; rw [← hQ]; omega
                       have hOk : opOk T (sk T b) := ⟨hok, fun z => absurd z hL⟩
                       have hAt : opAt T (sk T b) = ps1 := (pif_t hok).trans ((pif_f hL).trans hQ.symm)
                       have hV : opV T (sk T b) = (v1, 0, -11) := by rw [hv1]; exact pif_f hL
                       have hs : sk T (opAt T (sk T b)) = ps1 := by rw [hAt, hps1]; exact sk_sk hT (by omega)
                       rw [show osR T (j + 1) b = _ from (pif_t hOk).trans (pif_f (by rw [hs]; exact c142))] at q1 q2 q3
                       rw [hs] at q2
                       exact k _ _ _ _ c0 c2 (by omega) (by omega) ⟨fun _ => ⟨c133, q2.symm, (fs_at (by omega)).trans (by rw [q3, List.length_append, hpl]; rfl), by rw [q3, hV]; exact oRep_snoc hR ((fs_off (by omega)).trans ((fs_off (by omega)).trans (fs_at (by omega)))) (((fs_off (by omega)).trans (fs_at (by omega))).trans lkV0.symm) (fun j h0 h1 => (fs_off (by omega)).trans ((fs_off (by omega)).trans (fs_off (by omega))))⟩, fun z => absurd (by rw [q1]; trivial) z⟩ (fun j hj => by unfold fset; (repeat rw [if_neg (by omega)]); exact hA j hj) ((((hF.trans (f45.two1 (by omega) (by omega))).trans (f48.two2 (by omega) (by omega))).trans (f123.two2 (by omega) (by omega))).trans (f172.two2 (by omega) (by omega))))
                    | (have hno : ¬ dgOk T 5 (opD T (sk T b)) := fun z => c133 (i101a z).1
                       have hnk : ¬ opOk T (sk T b) := fun z => hno (z.2 hL)
                       rw [show osR T (j + 1) b = _ from pif_f hnk] at q1 q2 q3
                       exact k _ _ _ _ c0 c2 (by omega) (by omega) ⟨fun z => absurd (by rw [q1] at z; exact z) (fun y => y), fun _ => by rw [q2, i101b hno]; exact ((pif_t hok).trans (pif_t hL)).symm⟩ (fun j hj => by unfold fset; (repeat rw [if_neg (by omega)]); exact hA j hj) ((((((hF.trans (f45.two1 (by omega) (by omega))).trans (f48.two2 (by omega) (by omega))).trans (f81.two1 (by omega) (by omega))).trans (f101.two1 (by omega) (by omega))).trans (f123.two2 (by omega) (by omega))).trans (f172.two2 (by omega) (by omega))))
                    | (have hdo : dgOk T 5 (opD T (sk T b)) := Classical.byContradiction fun z => by have := i101b z; have := dgAt_ne (T := T) (m := 5) (p := opD T (sk T b)) (by omega) (by omega); omega
                       obtain ⟨-, hps3, hv3⟩ := i101a hdo
                       have hOk : opOk T (sk T b) := ⟨hok, fun _ => hdo⟩
                       have hs : sk T (opAt T (sk T b)) = ps3 := by rw [hps3]; exact congrArg _ ((pif_t hok).trans (pif_t hL))
                       rw [show osR T (j + 1) b = _ from (pif_t hOk).trans (pif_f (by rw [hs]; exact c142))] at q1 q2 q3
                       rw [hs] at q2
                       exact k _ _ _ _ c0 c2 (by omega) (by omega) ⟨fun _ => ⟨c133, q2.symm, (fs_at (by omega)).trans (by rw [q3, List.length_append, hpl]; rfl), by rw [q3]; exact oRep_snoc hR (((fs_off (by omega)).trans ((fs_off (by omega)).trans (fs_at (by omega)))).trans (hv1.trans (opV1 hL).symm)) (((fs_off (by omega)).trans (fs_at (by omega))).trans (by rw [hv3]; first | exact (lkV1 hL (by rw [← hQ]; omega)).symm | exact (lkV2 hL (by rw [← hQ]; omega)).symm)) (fun j h0 h1 => (fs_off (by omega)).trans ((fs_off (by omega)).trans (fs_off (by omega))))⟩, fun z => absurd (by rw [q1]; trivial) z⟩ (fun j hj => by unfold fset; (repeat rw [if_neg (by omega)]); exact hA j hj) ((((((hF.trans (f45.two1 (by omega) (by omega))).trans (f48.two2 (by omega) (by omega))).trans (f81.two1 (by omega) (by omega))).trans (f101.two1 (by omega) (by omega))).trans (f123.two2 (by omega) (by omega))).trans (f172.two2 (by omega) (by omega))))
                · refine A.iconst d6_readsOptions_145 ?_
                  refine A.goto d6_readsOptions_146 ?_
                  refine A.is5_3 d6_readsOptions_150 ?_
                  refine A.il5_3 d6_readsOptions_151 ?_
                  refine A.if_eq d6_readsOptions_152 (fun c152 => absurd c152 (by decide)) (fun c152 => ?_)
                  refine A.al5_0 d6_readsOptions_155 ?_
                  refine A.iconst d6_readsOptions_156 ?_
                  refine A.v1 d6_readsOptions_157 (s6_take1 c0 c6 hT (by omega) (by omega) (by omega) (fun h157 ps4 fa4 e157 b157 d157 i157 j157 f157 => kS ?_)) (hc := c0)
                  have c2 := f157.get c2 (by omega)
                  have c6 := f157.get c6 (by omega)
                  have c0 := e157
                  
                  refine A.pop d6_readsOptions_160 ?_
                  refine A.goto d6_readsOptions_161 ?_
                  first
                    | (exfalso; omega)
                    | (have hL : ¬ opL T (sk T b) := by unfold opL; rw [← hQ]; omega
                       have hOk : opOk T (sk T b) := ⟨hok, fun z => absurd z hL⟩
                       have hAt : opAt T (sk T b) = ps1 := (pif_t hok).trans ((pif_f hL).trans hQ.symm)
                       have hV : opV T (sk T b) = (v1, 0, -11) := by rw [hv1]; exact pif_f hL
                       have hs : sk T (opAt T (sk T b)) = ps1 := by rw [hAt, hps1]; exact sk_sk hT (by omega)
                       rw [show osR T (j + 1) b = _ from (pif_t hOk).trans (pif_t (by rw [hs]; exact c142))] at q1 q2 q3
                       rw [hs] at q1 q2 q3
                       obtain ⟨w1, w2⟩ := i157 (by omega)
                       have hlt := tc_lt (T := T) (p := ps1) (by omega)
                       rw [w1, w2] at c0
                       refine ih (i + 1) (ps1 + 1) _ _ _ _ (by omega) (by omega) (sk_len (by omega)) (by omega) c0 c2 c6 ((((hF.trans (f45.two1 (by omega) (by omega))).trans (f48.two2 (by omega) (by omega))).trans (f123.two2 (by omega) (by omega))).trans (f157.two1 (by omega) (by omega))) (by rw [q1, show 4 - (i + 1) = j by omega]) (by rw [q2, show 4 - (i + 1) = j by omega]) (by rw [q3, show 4 - (i + 1) = j by omega, ← List.append_cons]) (by rw [List.length_append, hpl]; rfl) ?_ (fun j hj => by unfold fset; (repeat rw [if_neg (by omega)]); exact hA j hj) (by omega)
                       rw [hV]
                       exact oRep_snoc hR ((fs_off (by omega)).trans (fs_at (by omega))) ((fs_at (by omega)).trans lkV0.symm) (fun j h0 h1 => (fs_off (by omega)).trans (fs_off (by omega))))
                    | (have hdo : dgOk T 5 (opD T (sk T b)) := Classical.byContradiction fun z => by have := i101b z; have := dgAt_ne (T := T) (m := 5) (p := opD T (sk T b)) (by omega) (by omega); omega
                       obtain ⟨-, hps3, hv3⟩ := i101a hdo
                       have hOk : opOk T (sk T b) := ⟨hok, fun _ => hdo⟩
                       have hs : sk T (opAt T (sk T b)) = ps3 := by rw [hps3]; exact congrArg _ ((pif_t hok).trans (pif_t hL))
                       rw [show osR T (j + 1) b = _ from (pif_t hOk).trans (pif_t (by rw [hs]; exact c142))] at q1 q2 q3
                       rw [hs] at q1 q2 q3
                       obtain ⟨w1, w2⟩ := i157 (by omega)
                       have hlt := tc_lt (T := T) (p := ps3) (by omega)
                       rw [w1, w2] at c0
                       refine ih (i + 1) (ps3 + 1) _ _ _ _ (by omega) (by omega) (sk_len (by omega)) (by omega) c0 c2 c6 ((((((hF.trans (f45.two1 (by omega) (by omega))).trans (f48.two2 (by omega) (by omega))).trans (f81.two1 (by omega) (by omega))).trans (f101.two1 (by omega) (by omega))).trans (f123.two2 (by omega) (by omega))).trans (f157.two1 (by omega) (by omega))) (by rw [q1, show 4 - (i + 1) = j by omega]) (by rw [q2, show 4 - (i + 1) = j by omega]) (by rw [q3, show 4 - (i + 1) = j by omega, ← List.append_cons]) (by rw [List.length_append, hpl]; rfl) ?_ (fun j hj => by unfold fset; (repeat rw [if_neg (by omega)]); exact hA j hj) (by omega)
                       exact oRep_snoc hR (((fs_off (by omega)).trans (fs_at (by omega))).trans (hv1.trans (opV1 hL).symm)) ((fs_at (by omega)).trans (by rw [hv3]; first | exact (lkV1 hL (by rw [← hQ]; omega)).symm | exact (lkV2 hL (by rw [← hQ]; omega)).symm)) (fun j h0 h1 => (fs_off (by omega)).trans (fs_off (by omega))))
            · refine A.al5_0 d6_readsOptions_79 ?_
              refine A.iconst d6_readsOptions_80 ?_
              refine A.v1 d6_readsOptions_81 (s6_take1 c0 c6 hT b45 d45 (by omega) (fun h81 ps2 fa2 e81 b81 d81 i81 j81 f81 => kS ?_)) (hc := c0)
              have c2 := f81.get c2 (by omega)
              have c6 := f81.get c6 (by omega)
              have c0 := e81
              obtain ⟨w81, w82⟩ := i81 (by omega)
              have hL : opL T (sk T b) := by unfold opL; rw [← hQ]; omega
              have hD : ps2 = opD T (sk T b) := by rw [w82, hQ]; rfl
              refine A.bipush d6_readsOptions_84 ?_
              refine A.ic_ne d6_readsOptions_86 (fun c86 => ?_) (fun c86 => ?_)
              · refine A.iconst d6_readsOptions_93 ?_
                refine A.is5_4 d6_readsOptions_94 ?_
                refine A.il5_4 d6_readsOptions_96 ?_
                refine A.iconst d6_readsOptions_98 ?_
                refine A.al5_0 d6_readsOptions_99 ?_
                refine A.iconst d6_readsOptions_100 ?_
                refine A.v1 d6_readsOptions_101 (s6_digit (m := 5) c0 c6 hT b81 d81 (by omega) (fun h101 ps3 fa3 v3 e101 b101 d101 r101 i101 j101 f101 => kS ?_)) (hc := c0)
                have c2 := f101.get c2 (by omega)
                have c6 := f101.get c6 (by omega)
                have c0 := e101
                obtain ⟨i101a, i101b⟩ := i101 (by omega)
                rw [hD] at i101a i101b
                have hD0 : 0 ≤ opD T (sk T b) ∧ opD T (sk T b) ≤ T.1 := by rw [← hD]; exact ⟨b81, d81⟩
                refine A.imul d6_readsOptions_104 ?_
                refine A.iadd d6_readsOptions_105 ?_
                refine A.is5_4 d6_readsOptions_106 ?_
                refine A.al5_0 d6_readsOptions_108 ?_
                refine A.getf d6_readsOptions_109 ?_ (hc := c0)
                refine A.il5_1 d6_readsOptions_112 ?_
                refine A.iconst d6_readsOptions_113 ?_
                refine A.iadd d6_readsOptions_114 ?_
                refine A.iconst d6_readsOptions_115 ?_
                refine A.il5_2 d6_readsOptions_116 ?_
                refine A.imul d6_readsOptions_117 ?_
                refine A.iadd d6_readsOptions_118 ?_
                refine A.iconst d6_readsOptions_119 ?_
                refine A.iadd d6_readsOptions_120 ?_
                refine A.il5_4 d6_readsOptions_121 ?_
                refine A.iast d6_readsOptions_123 (fun h123 e123 f123 => ?_) (hc := c2)
                first | (have c0 := (f123.2 _ (by omega)).trans c0) | (have c0 := e123)
                first | (have c2 := (f123.2 _ (by omega)).trans c2) | (have c2 := e123)
                first | (have c6 := (f123.2 _ (by omega)).trans c6) | (have c6 := e123)
                refine A.ii5_2 d6_readsOptions_124 ?_
                refine A.al5_0 d6_readsOptions_127 ?_
                refine A.getf d6_readsOptions_128 ?_ (hc := c0)
                refine A.bipush d6_readsOptions_131 ?_
                refine A.ic_ne d6_readsOptions_133 (fun c133 => ?_) (fun c133 => ?_)
                · refine A.iconst d6_readsOptions_149 ?_
                  refine A.is5_3 d6_readsOptions_150 ?_
                  refine A.il5_3 d6_readsOptions_151 ?_
                  refine A.if_eq d6_readsOptions_152 (fun c152 => ?_) (fun c152 => absurd rfl c152)
                  refine A.goto d6_readsOptions_161 ?_
                  refine A.il5_3 d6_readsOptions_4 ?_
                  refine A.if_eq d6_readsOptions_5 (fun c5 => ?_) (fun c5 => absurd rfl c5)
                  refine A.al5_0 d6_readsOptions_164 ?_
                  refine A.getf d6_readsOptions_165 ?_ (hc := c0)
                  refine A.il5_1 d6_readsOptions_168 ?_
                  refine A.iconst d6_readsOptions_169 ?_
                  refine A.iadd d6_readsOptions_170 ?_
                  refine A.il5_2 d6_readsOptions_171 ?_
                  refine A.iast d6_readsOptions_172 (fun h172 e172 f172 => ?_) (hc := c2)
                  first | (have c0 := (f172.2 _ (by omega)).trans c0) | (have c0 := e172)
                  first | (have c2 := (f172.2 _ (by omega)).trans c2) | (have c2 := e172)
                  first | (have c6 := (f172.2 _ (by omega)).trans c6) | (have c6 := e172)
                  refine A.vret d6_readsOptions_173 ?_
                  first
                    | (exfalso; omega)
                    | (have hno : ¬ nmOk T 29 (sk T b) := fun z => c58 (i45a z).1
                       rw [show osR T (j + 1) b = _ from pif_f (fun z => hno z.1)] at q1 q2 q3
                       exact k _ _ _ _ c0 c2 (by omega) (by omega) ⟨fun z => absurd (by rw [q1] at z; exact z) (fun y => y), fun _ => by rw [q2, i45b hno]; exact (pif_f hno).symm⟩ (fun j hj => by unfold fset; (repeat rw [if_neg (by omega)]); exact hA j hj) ((((hF.trans (f45.two1 (by omega) (by omega))).trans (f48.two2 (by omega) (by omega))).trans (f123.two2 (by omega) (by omega))).trans (f172.two2 (by omega) (by omega))))
                    | (have hL : ¬ opL T (sk T b) := by unfold opL; rw [← hQ]; omega
                       have hOk : opOk T (sk T b) := ⟨hok, fun z => absurd z hL⟩
                       have hAt : opAt T (sk T b) = ps1 := (pif_t hok).trans ((pif_f hL).trans hQ.symm)
                       have hV : opV T (sk T b) = (v1, 0, -11) := by rw [hv1]; exact pif_f hL
                       have hs : sk T (opAt T (sk T b)) = ps1 := by rw [hAt, hps1]; exact sk_sk hT (by omega)
                       rw [show osR T (j + 1) b = _ from (pif_t hOk).trans (pif_f (by rw [hs]; exact c142))] at q1 q2 q3
                       rw [hs] at q2
                       exact k _ _ _ _ c0 c2 (by omega) (by omega) ⟨fun _ => ⟨c133, q2.symm, (fs_at (by omega)).trans (by rw [q3, List.length_append, hpl]; rfl), by rw [q3, hV]; exact oRep_snoc hR ((fs_off (by omega)).trans ((fs_off (by omega)).trans (fs_at (by omega)))) (((fs_off (by omega)).trans (fs_at (by omega))).trans lkV0.symm) (fun j h0 h1 => (fs_off (by omega)).trans ((fs_off (by omega)).trans (fs_off (by omega))))⟩, fun z => absurd (by rw [q1]; trivial) z⟩ (fun j hj => by unfold fset; (repeat rw [if_neg (by omega)]); exact hA j hj) ((((hF.trans (f45.two1 (by omega) (by omega))).trans (f48.two2 (by omega) (by omega))).trans (f123.two2 (by omega) (by omega))).trans (f172.two2 (by omega) (by omega))))
                    | (have hno : ¬ dgOk T 5 (opD T (sk T b)) := fun z => c133 (i101a z).1
                       have hnk : ¬ opOk T (sk T b) := fun z => hno (z.2 hL)
                       rw [show osR T (j + 1) b = _ from pif_f hnk] at q1 q2 q3
                       exact k _ _ _ _ c0 c2 (by omega) (by omega) ⟨fun z => absurd (by rw [q1] at z; exact z) (fun y => y), fun _ => by rw [q2, i101b hno]; exact ((pif_t hok).trans (pif_t hL)).symm⟩ (fun j hj => by unfold fset; (repeat rw [if_neg (by omega)]); exact hA j hj) ((((((hF.trans (f45.two1 (by omega) (by omega))).trans (f48.two2 (by omega) (by omega))).trans (f81.two1 (by omega) (by omega))).trans (f101.two1 (by omega) (by omega))).trans (f123.two2 (by omega) (by omega))).trans (f172.two2 (by omega) (by omega))))
                    | (have hdo : dgOk T 5 (opD T (sk T b)) := Classical.byContradiction fun z => by have := i101b z; have := dgAt_ne (T := T) (m := 5) (p := opD T (sk T b)) (by omega) (by omega); omega
                       obtain ⟨-, hps3, hv3⟩ := i101a hdo
                       have hOk : opOk T (sk T b) := ⟨hok, fun _ => hdo⟩
                       have hs : sk T (opAt T (sk T b)) = ps3 := by rw [hps3]; exact congrArg _ ((pif_t hok).trans (pif_t hL))
                       rw [show osR T (j + 1) b = _ from (pif_t hOk).trans (pif_f (by rw [hs]; exact c142))] at q1 q2 q3
                       rw [hs] at q2
                       exact k _ _ _ _ c0 c2 (by omega) (by omega) ⟨fun _ => ⟨c133, q2.symm, (fs_at (by omega)).trans (by rw [q3, List.length_append, hpl]; rfl), by rw [q3]; exact oRep_snoc hR (((fs_off (by omega)).trans ((fs_off (by omega)).trans (fs_at (by omega)))).trans (hv1.trans (opV1 hL).symm)) (((fs_off (by omega)).trans (fs_at (by omega))).trans (by rw [hv3]; first | exact (lkV1 hL (by rw [← hQ]; omega)).symm | exact (lkV2 hL (by rw [← hQ]; omega)).symm)) (fun j h0 h1 => (fs_off (by omega)).trans ((fs_off (by omega)).trans (fs_off (by omega))))⟩, fun z => absurd (by rw [q1]; trivial) z⟩ (fun j hj => by unfold fset; (repeat rw [if_neg (by omega)]); exact hA j hj) ((((((hF.trans (f45.two1 (by omega) (by omega))).trans (f48.two2 (by omega) (by omega))).trans (f81.two1 (by omega) (by omega))).trans (f101.two1 (by omega) (by omega))).trans (f123.two2 (by omega) (by omega))).trans (f172.two2 (by omega) (by omega))))
                · refine A.al5_0 d6_readsOptions_136 ?_
                  refine A.v0 d6_readsOptions_137 (s6_next c0 c6 hT (by omega) (kS ?_)) (hc := c0)
                  refine A.bipush d6_readsOptions_140 ?_
                  refine A.ic_ne d6_readsOptions_142 (fun c142 => ?_) (fun c142 => ?_)
                  · refine A.iconst d6_readsOptions_149 ?_
                    refine A.is5_3 d6_readsOptions_150 ?_
                    refine A.il5_3 d6_readsOptions_151 ?_
                    refine A.if_eq d6_readsOptions_152 (fun c152 => ?_) (fun c152 => absurd rfl c152)
                    refine A.goto d6_readsOptions_161 ?_
                    refine A.il5_3 d6_readsOptions_4 ?_
                    refine A.if_eq d6_readsOptions_5 (fun c5 => ?_) (fun c5 => absurd rfl c5)
                    refine A.al5_0 d6_readsOptions_164 ?_
                    refine A.getf d6_readsOptions_165 ?_ (hc := c0)
                    refine A.il5_1 d6_readsOptions_168 ?_
                    refine A.iconst d6_readsOptions_169 ?_
                    refine A.iadd d6_readsOptions_170 ?_
                    refine A.il5_2 d6_readsOptions_171 ?_
                    refine A.iast d6_readsOptions_172 (fun h172 e172 f172 => ?_) (hc := c2)
                    first | (have c0 := (f172.2 _ (by omega)).trans c0) | (have c0 := e172)
                    first | (have c2 := (f172.2 _ (by omega)).trans c2) | (have c2 := e172)
                    first | (have c6 := (f172.2 _ (by omega)).trans c6) | (have c6 := e172)
                    refine A.vret d6_readsOptions_173 ?_
                    first
                      | (exfalso; omega)
                      | (have hno : ¬ nmOk T 29 (sk T b) := fun z => c58 (i45a z).1
                         rw [show osR T (j + 1) b = _ from pif_f (fun z => hno z.1)] at q1 q2 q3
                         exact k _ _ _ _ c0 c2 (by omega) (by omega) ⟨fun z => absurd (by rw [q1] at z; exact z) (fun y => y), fun _ => by rw [q2, i45b hno]; exact (pif_f hno).symm⟩ (fun j hj => by unfold fset; (repeat rw [if_neg (by omega)]); exact hA j hj) ((((hF.trans (f45.two1 (by omega) (by omega))).trans (f48.two2 (by omega) (by omega))).trans (f123.two2 (by omega) (by omega))).trans (f172.two2 (by omega) (by omega))))
                      | (have hL : ¬ opL T (sk T b) := by unfold opL; rw [← hQ]; omega
                         have hOk : opOk T (sk T b) := ⟨hok, fun z => absurd z hL⟩
                         have hAt : opAt T (sk T b) = ps1 := (pif_t hok).trans ((pif_f hL).trans hQ.symm)
                         have hV : opV T (sk T b) = (v1, 0, -11) := by rw [hv1]; exact pif_f hL
                         have hs : sk T (opAt T (sk T b)) = ps1 := by rw [hAt, hps1]; exact sk_sk hT (by omega)
                         rw [show osR T (j + 1) b = _ from (pif_t hOk).trans (pif_f (by rw [hs]; exact c142))] at q1 q2 q3
                         rw [hs] at q2
                         exact k _ _ _ _ c0 c2 (by omega) (by omega) ⟨fun _ => ⟨c133, q2.symm, (fs_at (by omega)).trans (by rw [q3, List.length_append, hpl]; rfl), by rw [q3, hV]; exact oRep_snoc hR ((fs_off (by omega)).trans ((fs_off (by omega)).trans (fs_at (by omega)))) (((fs_off (by omega)).trans (fs_at (by omega))).trans lkV0.symm) (fun j h0 h1 => (fs_off (by omega)).trans ((fs_off (by omega)).trans (fs_off (by omega))))⟩, fun z => absurd (by rw [q1]; trivial) z⟩ (fun j hj => by unfold fset; (repeat rw [if_neg (by omega)]); exact hA j hj) ((((hF.trans (f45.two1 (by omega) (by omega))).trans (f48.two2 (by omega) (by omega))).trans (f123.two2 (by omega) (by omega))).trans (f172.two2 (by omega) (by omega))))
                      | (have hno : ¬ dgOk T 5 (opD T (sk T b)) := fun z => c133 (i101a z).1
                         have hnk : ¬ opOk T (sk T b) := fun z => hno (z.2 hL)
                         rw [show osR T (j + 1) b = _ from pif_f hnk] at q1 q2 q3
                         exact k _ _ _ _ c0 c2 (by omega) (by omega) ⟨fun z => absurd (by rw [q1] at z; exact z) (fun y => y), fun _ => by rw [q2, i101b hno]; exact ((pif_t hok).trans (pif_t hL)).symm⟩ (fun j hj => by unfold fset; (repeat rw [if_neg (by omega)]); exact hA j hj) ((((((hF.trans (f45.two1 (by omega) (by omega))).trans (f48.two2 (by omega) (by omega))).trans (f81.two1 (by omega) (by omega))).trans (f101.two1 (by omega) (by omega))).trans (f123.two2 (by omega) (by omega))).trans (f172.two2 (by omega) (by omega))))
                      | (have hdo : dgOk T 5 (opD T (sk T b)) := Classical.byContradiction fun z => by have := i101b z; have := dgAt_ne (T := T) (m := 5) (p := opD T (sk T b)) (by omega) (by omega); omega
                         obtain ⟨-, hps3, hv3⟩ := i101a hdo
                         have hOk : opOk T (sk T b) := ⟨hok, fun _ => hdo⟩
                         have hs : sk T (opAt T (sk T b)) = ps3 := by rw [hps3]; exact congrArg _ ((pif_t hok).trans (pif_t hL))
                         rw [show osR T (j + 1) b = _ from (pif_t hOk).trans (pif_f (by rw [hs]; exact c142))] at q1 q2 q3
                         rw [hs] at q2
                         exact k _ _ _ _ c0 c2 (by omega) (by omega) ⟨fun _ => ⟨c133, q2.symm, (fs_at (by omega)).trans (by rw [q3, List.length_append, hpl]; rfl), by rw [q3]; exact oRep_snoc hR (((fs_off (by omega)).trans ((fs_off (by omega)).trans (fs_at (by omega)))).trans (hv1.trans (opV1 hL).symm)) (((fs_off (by omega)).trans (fs_at (by omega))).trans (by rw [hv3]; first | exact (lkV1 hL (by rw [← hQ]; omega)).symm | exact (lkV2 hL (by rw [← hQ]; omega)).symm)) (fun j h0 h1 => (fs_off (by omega)).trans ((fs_off (by omega)).trans (fs_off (by omega))))⟩, fun z => absurd (by rw [q1]; trivial) z⟩ (fun j hj => by unfold fset; (repeat rw [if_neg (by omega)]); exact hA j hj) ((((((hF.trans (f45.two1 (by omega) (by omega))).trans (f48.two2 (by omega) (by omega))).trans (f81.two1 (by omega) (by omega))).trans (f101.two1 (by omega) (by omega))).trans (f123.two2 (by omega) (by omega))).trans (f172.two2 (by omega) (by omega))))
                  · refine A.iconst d6_readsOptions_145 ?_
                    refine A.goto d6_readsOptions_146 ?_
                    refine A.is5_3 d6_readsOptions_150 ?_
                    refine A.il5_3 d6_readsOptions_151 ?_
                    refine A.if_eq d6_readsOptions_152 (fun c152 => absurd c152 (by decide)) (fun c152 => ?_)
                    refine A.al5_0 d6_readsOptions_155 ?_
                    refine A.iconst d6_readsOptions_156 ?_
                    refine A.v1 d6_readsOptions_157 (s6_take1 c0 c6 hT (by omega) (by omega) (by omega) (fun h157 ps4 fa4 e157 b157 d157 i157 j157 f157 => kS ?_)) (hc := c0)
                    have c2 := f157.get c2 (by omega)
                    have c6 := f157.get c6 (by omega)
                    have c0 := e157
                    
                    refine A.pop d6_readsOptions_160 ?_
                    refine A.goto d6_readsOptions_161 ?_
                    first
                      | (exfalso; omega)
                      | (have hL : ¬ opL T (sk T b) := by unfold opL; rw [← hQ]; omega
                         have hOk : opOk T (sk T b) := ⟨hok, fun z => absurd z hL⟩
                         have hAt : opAt T (sk T b) = ps1 := (pif_t hok).trans ((pif_f hL).trans hQ.symm)
                         have hV : opV T (sk T b) = (v1, 0, -11) := by rw [hv1]; exact pif_f hL
                         have hs : sk T (opAt T (sk T b)) = ps1 := by rw [hAt, hps1]; exact sk_sk hT (by omega)
                         rw [show osR T (j + 1) b = _ from (pif_t hOk).trans (pif_t (by rw [hs]; exact c142))] at q1 q2 q3
                         rw [hs] at q1 q2 q3
                         obtain ⟨w1, w2⟩ := i157 (by omega)
                         have hlt := tc_lt (T := T) (p := ps1) (by omega)
                         rw [w1, w2] at c0
                         refine ih (i + 1) (ps1 + 1) _ _ _ _ (by omega) (by omega) (sk_len (by omega)) (by omega) c0 c2 c6 ((((hF.trans (f45.two1 (by omega) (by omega))).trans (f48.two2 (by omega) (by omega))).trans (f123.two2 (by omega) (by omega))).trans (f157.two1 (by omega) (by omega))) (by rw [q1, show 4 - (i + 1) = j by omega]) (by rw [q2, show 4 - (i + 1) = j by omega]) (by rw [q3, show 4 - (i + 1) = j by omega, ← List.append_cons]) (by rw [List.length_append, hpl]; rfl) ?_ (fun j hj => by unfold fset; (repeat rw [if_neg (by omega)]); exact hA j hj) (by omega)
                         rw [hV]
                         exact oRep_snoc hR ((fs_off (by omega)).trans (fs_at (by omega))) ((fs_at (by omega)).trans lkV0.symm) (fun j h0 h1 => (fs_off (by omega)).trans (fs_off (by omega))))
                      | (have hdo : dgOk T 5 (opD T (sk T b)) := Classical.byContradiction fun z => by have := i101b z; have := dgAt_ne (T := T) (m := 5) (p := opD T (sk T b)) (by omega) (by omega); omega
                         obtain ⟨-, hps3, hv3⟩ := i101a hdo
                         have hOk : opOk T (sk T b) := ⟨hok, fun _ => hdo⟩
                         have hs : sk T (opAt T (sk T b)) = ps3 := by rw [hps3]; exact congrArg _ ((pif_t hok).trans (pif_t hL))
                         rw [show osR T (j + 1) b = _ from (pif_t hOk).trans (pif_t (by rw [hs]; exact c142))] at q1 q2 q3
                         rw [hs] at q1 q2 q3
                         obtain ⟨w1, w2⟩ := i157 (by omega)
                         have hlt := tc_lt (T := T) (p := ps3) (by omega)
                         rw [w1, w2] at c0
                         refine ih (i + 1) (ps3 + 1) _ _ _ _ (by omega) (by omega) (sk_len (by omega)) (by omega) c0 c2 c6 ((((((hF.trans (f45.two1 (by omega) (by omega))).trans (f48.two2 (by omega) (by omega))).trans (f81.two1 (by omega) (by omega))).trans (f101.two1 (by omega) (by omega))).trans (f123.two2 (by omega) (by omega))).trans (f157.two1 (by omega) (by omega))) (by rw [q1, show 4 - (i + 1) = j by omega]) (by rw [q2, show 4 - (i + 1) = j by omega]) (by rw [q3, show 4 - (i + 1) = j by omega, ← List.append_cons]) (by rw [List.length_append, hpl]; rfl) ?_ (fun j hj => by unfold fset; (repeat rw [if_neg (by omega)]); exact hA j hj) (by omega)
                         exact oRep_snoc hR (((fs_off (by omega)).trans (fs_at (by omega))).trans (hv1.trans (opV1 hL).symm)) ((fs_at (by omega)).trans (by rw [hv3]; first | exact (lkV1 hL (by rw [← hQ]; omega)).symm | exact (lkV2 hL (by rw [← hQ]; omega)).symm)) (fun j h0 h1 => (fs_off (by omega)).trans (fs_off (by omega))))
              · refine A.iconst d6_readsOptions_89 ?_
                refine A.goto d6_readsOptions_90 ?_
                refine A.is5_4 d6_readsOptions_94 ?_
                refine A.il5_4 d6_readsOptions_96 ?_
                refine A.iconst d6_readsOptions_98 ?_
                refine A.al5_0 d6_readsOptions_99 ?_
                refine A.iconst d6_readsOptions_100 ?_
                refine A.v1 d6_readsOptions_101 (s6_digit (m := 5) c0 c6 hT b81 d81 (by omega) (fun h101 ps3 fa3 v3 e101 b101 d101 r101 i101 j101 f101 => kS ?_)) (hc := c0)
                have c2 := f101.get c2 (by omega)
                have c6 := f101.get c6 (by omega)
                have c0 := e101
                obtain ⟨i101a, i101b⟩ := i101 (by omega)
                rw [hD] at i101a i101b
                have hD0 : 0 ≤ opD T (sk T b) ∧ opD T (sk T b) ≤ T.1 := by rw [← hD]; exact ⟨b81, d81⟩
                refine A.imul d6_readsOptions_104 ?_
                refine A.iadd d6_readsOptions_105 ?_
                refine A.is5_4 d6_readsOptions_106 ?_
                refine A.al5_0 d6_readsOptions_108 ?_
                refine A.getf d6_readsOptions_109 ?_ (hc := c0)
                refine A.il5_1 d6_readsOptions_112 ?_
                refine A.iconst d6_readsOptions_113 ?_
                refine A.iadd d6_readsOptions_114 ?_
                refine A.iconst d6_readsOptions_115 ?_
                refine A.il5_2 d6_readsOptions_116 ?_
                refine A.imul d6_readsOptions_117 ?_
                refine A.iadd d6_readsOptions_118 ?_
                refine A.iconst d6_readsOptions_119 ?_
                refine A.iadd d6_readsOptions_120 ?_
                refine A.il5_4 d6_readsOptions_121 ?_
                refine A.iast d6_readsOptions_123 (fun h123 e123 f123 => ?_) (hc := c2)
                first | (have c0 := (f123.2 _ (by omega)).trans c0) | (have c0 := e123)
                first | (have c2 := (f123.2 _ (by omega)).trans c2) | (have c2 := e123)
                first | (have c6 := (f123.2 _ (by omega)).trans c6) | (have c6 := e123)
                refine A.ii5_2 d6_readsOptions_124 ?_
                refine A.al5_0 d6_readsOptions_127 ?_
                refine A.getf d6_readsOptions_128 ?_ (hc := c0)
                refine A.bipush d6_readsOptions_131 ?_
                refine A.ic_ne d6_readsOptions_133 (fun c133 => ?_) (fun c133 => ?_)
                · refine A.iconst d6_readsOptions_149 ?_
                  refine A.is5_3 d6_readsOptions_150 ?_
                  refine A.il5_3 d6_readsOptions_151 ?_
                  refine A.if_eq d6_readsOptions_152 (fun c152 => ?_) (fun c152 => absurd rfl c152)
                  refine A.goto d6_readsOptions_161 ?_
                  refine A.il5_3 d6_readsOptions_4 ?_
                  refine A.if_eq d6_readsOptions_5 (fun c5 => ?_) (fun c5 => absurd rfl c5)
                  refine A.al5_0 d6_readsOptions_164 ?_
                  refine A.getf d6_readsOptions_165 ?_ (hc := c0)
                  refine A.il5_1 d6_readsOptions_168 ?_
                  refine A.iconst d6_readsOptions_169 ?_
                  refine A.iadd d6_readsOptions_170 ?_
                  refine A.il5_2 d6_readsOptions_171 ?_
                  refine A.iast d6_readsOptions_172 (fun h172 e172 f172 => ?_) (hc := c2)
                  first | (have c0 := (f172.2 _ (by omega)).trans c0) | (have c0 := e172)
                  first | (have c2 := (f172.2 _ (by omega)).trans c2) | (have c2 := e172)
                  first | (have c6 := (f172.2 _ (by omega)).trans c6) | (have c6 := e172)
                  refine A.vret d6_readsOptions_173 ?_
                  first
                    | (exfalso; omega)
                    | (have hno : ¬ nmOk T 29 (sk T b) := fun z => c58 (i45a z).1
                       rw [show osR T (j + 1) b = _ from pif_f (fun z => hno z.1)] at q1 q2 q3
                       exact k _ _ _ _ c0 c2 (by omega) (by omega) ⟨fun z => absurd (by rw [q1] at z; exact z) (fun y => y), fun _ => by rw [q2, i45b hno]; exact (pif_f hno).symm⟩ (fun j hj => by unfold fset; (repeat rw [if_neg (by omega)]); exact hA j hj) ((((hF.trans (f45.two1 (by omega) (by omega))).trans (f48.two2 (by omega) (by omega))).trans (f123.two2 (by omega) (by omega))).trans (f172.two2 (by omega) (by omega))))
                    | (have hL : ¬ opL T (sk T b) := by unfold opL; rw [← hQ]; omega
                       have hOk : opOk T (sk T b) := ⟨hok, fun z => absurd z hL⟩
                       have hAt : opAt T (sk T b) = ps1 := (pif_t hok).trans ((pif_f hL).trans hQ.symm)
                       have hV : opV T (sk T b) = (v1, 0, -11) := by rw [hv1]; exact pif_f hL
                       have hs : sk T (opAt T (sk T b)) = ps1 := by rw [hAt, hps1]; exact sk_sk hT (by omega)
                       rw [show osR T (j + 1) b = _ from (pif_t hOk).trans (pif_f (by rw [hs]; exact c142))] at q1 q2 q3
                       rw [hs] at q2
                       exact k _ _ _ _ c0 c2 (by omega) (by omega) ⟨fun _ => ⟨c133, q2.symm, (fs_at (by omega)).trans (by rw [q3, List.length_append, hpl]; rfl), by rw [q3, hV]; exact oRep_snoc hR ((fs_off (by omega)).trans ((fs_off (by omega)).trans (fs_at (by omega)))) (((fs_off (by omega)).trans (fs_at (by omega))).trans lkV0.symm) (fun j h0 h1 => (fs_off (by omega)).trans ((fs_off (by omega)).trans (fs_off (by omega))))⟩, fun z => absurd (by rw [q1]; trivial) z⟩ (fun j hj => by unfold fset; (repeat rw [if_neg (by omega)]); exact hA j hj) ((((hF.trans (f45.two1 (by omega) (by omega))).trans (f48.two2 (by omega) (by omega))).trans (f123.two2 (by omega) (by omega))).trans (f172.two2 (by omega) (by omega))))
                    | (have hno : ¬ dgOk T 5 (opD T (sk T b)) := fun z => c133 (i101a z).1
                       have hnk : ¬ opOk T (sk T b) := fun z => hno (z.2 hL)
                       rw [show osR T (j + 1) b = _ from pif_f hnk] at q1 q2 q3
                       exact k _ _ _ _ c0 c2 (by omega) (by omega) ⟨fun z => absurd (by rw [q1] at z; exact z) (fun y => y), fun _ => by rw [q2, i101b hno]; exact ((pif_t hok).trans (pif_t hL)).symm⟩ (fun j hj => by unfold fset; (repeat rw [if_neg (by omega)]); exact hA j hj) ((((((hF.trans (f45.two1 (by omega) (by omega))).trans (f48.two2 (by omega) (by omega))).trans (f81.two1 (by omega) (by omega))).trans (f101.two1 (by omega) (by omega))).trans (f123.two2 (by omega) (by omega))).trans (f172.two2 (by omega) (by omega))))
                    | (have hdo : dgOk T 5 (opD T (sk T b)) := Classical.byContradiction fun z => by have := i101b z; have := dgAt_ne (T := T) (m := 5) (p := opD T (sk T b)) (by omega) (by omega); omega
                       obtain ⟨-, hps3, hv3⟩ := i101a hdo
                       have hOk : opOk T (sk T b) := ⟨hok, fun _ => hdo⟩
                       have hs : sk T (opAt T (sk T b)) = ps3 := by rw [hps3]; exact congrArg _ ((pif_t hok).trans (pif_t hL))
                       rw [show osR T (j + 1) b = _ from (pif_t hOk).trans (pif_f (by rw [hs]; exact c142))] at q1 q2 q3
                       rw [hs] at q2
                       exact k _ _ _ _ c0 c2 (by omega) (by omega) ⟨fun _ => ⟨c133, q2.symm, (fs_at (by omega)).trans (by rw [q3, List.length_append, hpl]; rfl), by rw [q3]; exact oRep_snoc hR (((fs_off (by omega)).trans ((fs_off (by omega)).trans (fs_at (by omega)))).trans (hv1.trans (opV1 hL).symm)) (((fs_off (by omega)).trans (fs_at (by omega))).trans (by rw [hv3]; first | exact (lkV1 hL (by rw [← hQ]; omega)).symm | exact (lkV2 hL (by rw [← hQ]; omega)).symm)) (fun j h0 h1 => (fs_off (by omega)).trans ((fs_off (by omega)).trans (fs_off (by omega))))⟩, fun z => absurd (by rw [q1]; trivial) z⟩ (fun j hj => by unfold fset; (repeat rw [if_neg (by omega)]); exact hA j hj) ((((((hF.trans (f45.two1 (by omega) (by omega))).trans (f48.two2 (by omega) (by omega))).trans (f81.two1 (by omega) (by omega))).trans (f101.two1 (by omega) (by omega))).trans (f123.two2 (by omega) (by omega))).trans (f172.two2 (by omega) (by omega))))
                · refine A.al5_0 d6_readsOptions_136 ?_
                  refine A.v0 d6_readsOptions_137 (s6_next c0 c6 hT (by omega) (kS ?_)) (hc := c0)
                  refine A.bipush d6_readsOptions_140 ?_
                  refine A.ic_ne d6_readsOptions_142 (fun c142 => ?_) (fun c142 => ?_)
                  · refine A.iconst d6_readsOptions_149 ?_
                    refine A.is5_3 d6_readsOptions_150 ?_
                    refine A.il5_3 d6_readsOptions_151 ?_
                    refine A.if_eq d6_readsOptions_152 (fun c152 => ?_) (fun c152 => absurd rfl c152)
                    refine A.goto d6_readsOptions_161 ?_
                    refine A.il5_3 d6_readsOptions_4 ?_
                    refine A.if_eq d6_readsOptions_5 (fun c5 => ?_) (fun c5 => absurd rfl c5)
                    refine A.al5_0 d6_readsOptions_164 ?_
                    refine A.getf d6_readsOptions_165 ?_ (hc := c0)
                    refine A.il5_1 d6_readsOptions_168 ?_
                    refine A.iconst d6_readsOptions_169 ?_
                    refine A.iadd d6_readsOptions_170 ?_
                    refine A.il5_2 d6_readsOptions_171 ?_
                    refine A.iast d6_readsOptions_172 (fun h172 e172 f172 => ?_) (hc := c2)
                    first | (have c0 := (f172.2 _ (by omega)).trans c0) | (have c0 := e172)
                    first | (have c2 := (f172.2 _ (by omega)).trans c2) | (have c2 := e172)
                    first | (have c6 := (f172.2 _ (by omega)).trans c6) | (have c6 := e172)
                    refine A.vret d6_readsOptions_173 ?_
                    first
                      | (exfalso; omega)
                      | (have hno : ¬ nmOk T 29 (sk T b) := fun z => c58 (i45a z).1
                         rw [show osR T (j + 1) b = _ from pif_f (fun z => hno z.1)] at q1 q2 q3
                         exact k _ _ _ _ c0 c2 (by omega) (by omega) ⟨fun z => absurd (by rw [q1] at z; exact z) (fun y => y), fun _ => by rw [q2, i45b hno]; exact (pif_f hno).symm⟩ (fun j hj => by unfold fset; (repeat rw [if_neg (by omega)]); exact hA j hj) ((((hF.trans (f45.two1 (by omega) (by omega))).trans (f48.two2 (by omega) (by omega))).trans (f123.two2 (by omega) (by omega))).trans (f172.two2 (by omega) (by omega))))
                      | (have hL : ¬ opL T (sk T b) := by unfold opL; rw [← hQ]; omega
                         have hOk : opOk T (sk T b) := ⟨hok, fun z => absurd z hL⟩
                         have hAt : opAt T (sk T b) = ps1 := (pif_t hok).trans ((pif_f hL).trans hQ.symm)
                         have hV : opV T (sk T b) = (v1, 0, -11) := by rw [hv1]; exact pif_f hL
                         have hs : sk T (opAt T (sk T b)) = ps1 := by rw [hAt, hps1]; exact sk_sk hT (by omega)
                         rw [show osR T (j + 1) b = _ from (pif_t hOk).trans (pif_f (by rw [hs]; exact c142))] at q1 q2 q3
                         rw [hs] at q2
                         exact k _ _ _ _ c0 c2 (by omega) (by omega) ⟨fun _ => ⟨c133, q2.symm, (fs_at (by omega)).trans (by rw [q3, List.length_append, hpl]; rfl), by rw [q3, hV]; exact oRep_snoc hR ((fs_off (by omega)).trans ((fs_off (by omega)).trans (fs_at (by omega)))) (((fs_off (by omega)).trans (fs_at (by omega))).trans lkV0.symm) (fun j h0 h1 => (fs_off (by omega)).trans ((fs_off (by omega)).trans (fs_off (by omega))))⟩, fun z => absurd (by rw [q1]; trivial) z⟩ (fun j hj => by unfold fset; (repeat rw [if_neg (by omega)]); exact hA j hj) ((((hF.trans (f45.two1 (by omega) (by omega))).trans (f48.two2 (by omega) (by omega))).trans (f123.two2 (by omega) (by omega))).trans (f172.two2 (by omega) (by omega))))
                      | (have hno : ¬ dgOk T 5 (opD T (sk T b)) := fun z => c133 (i101a z).1
                         have hnk : ¬ opOk T (sk T b) := fun z => hno (z.2 hL)
                         rw [show osR T (j + 1) b = _ from pif_f hnk] at q1 q2 q3
                         exact k _ _ _ _ c0 c2 (by omega) (by omega) ⟨fun z => absurd (by rw [q1] at z; exact z) (fun y => y), fun _ => by rw [q2, i101b hno]; exact ((pif_t hok).trans (pif_t hL)).symm⟩ (fun j hj => by unfold fset; (repeat rw [if_neg (by omega)]); exact hA j hj) ((((((hF.trans (f45.two1 (by omega) (by omega))).trans (f48.two2 (by omega) (by omega))).trans (f81.two1 (by omega) (by omega))).trans (f101.two1 (by omega) (by omega))).trans (f123.two2 (by omega) (by omega))).trans (f172.two2 (by omega) (by omega))))
                      | (have hdo : dgOk T 5 (opD T (sk T b)) := Classical.byContradiction fun z => by have := i101b z; have := dgAt_ne (T := T) (m := 5) (p := opD T (sk T b)) (by omega) (by omega); omega
                         obtain ⟨-, hps3, hv3⟩ := i101a hdo
                         have hOk : opOk T (sk T b) := ⟨hok, fun _ => hdo⟩
                         have hs : sk T (opAt T (sk T b)) = ps3 := by rw [hps3]; exact congrArg _ ((pif_t hok).trans (pif_t hL))
                         rw [show osR T (j + 1) b = _ from (pif_t hOk).trans (pif_f (by rw [hs]; exact c142))] at q1 q2 q3
                         rw [hs] at q2
                         exact k _ _ _ _ c0 c2 (by omega) (by omega) ⟨fun _ => ⟨c133, q2.symm, (fs_at (by omega)).trans (by rw [q3, List.length_append, hpl]; rfl), by rw [q3]; exact oRep_snoc hR (((fs_off (by omega)).trans ((fs_off (by omega)).trans (fs_at (by omega)))).trans (hv1.trans (opV1 hL).symm)) (((fs_off (by omega)).trans (fs_at (by omega))).trans (by rw [hv3]; first | exact (lkV1 hL (by rw [← hQ]; omega)).symm | exact (lkV2 hL (by rw [← hQ]; omega)).symm)) (fun j h0 h1 => (fs_off (by omega)).trans ((fs_off (by omega)).trans (fs_off (by omega))))⟩, fun z => absurd (by rw [q1]; trivial) z⟩ (fun j hj => by unfold fset; (repeat rw [if_neg (by omega)]); exact hA j hj) ((((((hF.trans (f45.two1 (by omega) (by omega))).trans (f48.two2 (by omega) (by omega))).trans (f81.two1 (by omega) (by omega))).trans (f101.two1 (by omega) (by omega))).trans (f123.two2 (by omega) (by omega))).trans (f172.two2 (by omega) (by omega))))
                  · refine A.iconst d6_readsOptions_145 ?_
                    refine A.goto d6_readsOptions_146 ?_
                    refine A.is5_3 d6_readsOptions_150 ?_
                    refine A.il5_3 d6_readsOptions_151 ?_
                    refine A.if_eq d6_readsOptions_152 (fun c152 => absurd c152 (by decide)) (fun c152 => ?_)
                    refine A.al5_0 d6_readsOptions_155 ?_
                    refine A.iconst d6_readsOptions_156 ?_
                    refine A.v1 d6_readsOptions_157 (s6_take1 c0 c6 hT (by omega) (by omega) (by omega) (fun h157 ps4 fa4 e157 b157 d157 i157 j157 f157 => kS ?_)) (hc := c0)
                    have c2 := f157.get c2 (by omega)
                    have c6 := f157.get c6 (by omega)
                    have c0 := e157
                    
                    refine A.pop d6_readsOptions_160 ?_
                    refine A.goto d6_readsOptions_161 ?_
                    first
                      | (exfalso; omega)
                      | (have hL : ¬ opL T (sk T b) := by unfold opL; rw [← hQ]; omega
                         have hOk : opOk T (sk T b) := ⟨hok, fun z => absurd z hL⟩
                         have hAt : opAt T (sk T b) = ps1 := (pif_t hok).trans ((pif_f hL).trans hQ.symm)
                         have hV : opV T (sk T b) = (v1, 0, -11) := by rw [hv1]; exact pif_f hL
                         have hs : sk T (opAt T (sk T b)) = ps1 := by rw [hAt, hps1]; exact sk_sk hT (by omega)
                         rw [show osR T (j + 1) b = _ from (pif_t hOk).trans (pif_t (by rw [hs]; exact c142))] at q1 q2 q3
                         rw [hs] at q1 q2 q3
                         obtain ⟨w1, w2⟩ := i157 (by omega)
                         have hlt := tc_lt (T := T) (p := ps1) (by omega)
                         rw [w1, w2] at c0
                         refine ih (i + 1) (ps1 + 1) _ _ _ _ (by omega) (by omega) (sk_len (by omega)) (by omega) c0 c2 c6 ((((hF.trans (f45.two1 (by omega) (by omega))).trans (f48.two2 (by omega) (by omega))).trans (f123.two2 (by omega) (by omega))).trans (f157.two1 (by omega) (by omega))) (by rw [q1, show 4 - (i + 1) = j by omega]) (by rw [q2, show 4 - (i + 1) = j by omega]) (by rw [q3, show 4 - (i + 1) = j by omega, ← List.append_cons]) (by rw [List.length_append, hpl]; rfl) ?_ (fun j hj => by unfold fset; (repeat rw [if_neg (by omega)]); exact hA j hj) (by omega)
                         rw [hV]
                         exact oRep_snoc hR ((fs_off (by omega)).trans (fs_at (by omega))) ((fs_at (by omega)).trans lkV0.symm) (fun j h0 h1 => (fs_off (by omega)).trans (fs_off (by omega))))
                      | (have hdo : dgOk T 5 (opD T (sk T b)) := Classical.byContradiction fun z => by have := i101b z; have := dgAt_ne (T := T) (m := 5) (p := opD T (sk T b)) (by omega) (by omega); omega
                         obtain ⟨-, hps3, hv3⟩ := i101a hdo
                         have hOk : opOk T (sk T b) := ⟨hok, fun _ => hdo⟩
                         have hs : sk T (opAt T (sk T b)) = ps3 := by rw [hps3]; exact congrArg _ ((pif_t hok).trans (pif_t hL))
                         rw [show osR T (j + 1) b = _ from (pif_t hOk).trans (pif_t (by rw [hs]; exact c142))] at q1 q2 q3
                         rw [hs] at q1 q2 q3
                         obtain ⟨w1, w2⟩ := i157 (by omega)
                         have hlt := tc_lt (T := T) (p := ps3) (by omega)
                         rw [w1, w2] at c0
                         refine ih (i + 1) (ps3 + 1) _ _ _ _ (by omega) (by omega) (sk_len (by omega)) (by omega) c0 c2 c6 ((((((hF.trans (f45.two1 (by omega) (by omega))).trans (f48.two2 (by omega) (by omega))).trans (f81.two1 (by omega) (by omega))).trans (f101.two1 (by omega) (by omega))).trans (f123.two2 (by omega) (by omega))).trans (f157.two1 (by omega) (by omega))) (by rw [q1, show 4 - (i + 1) = j by omega]) (by rw [q2, show 4 - (i + 1) = j by omega]) (by rw [q3, show 4 - (i + 1) = j by omega, ← List.append_cons]) (by rw [List.length_append, hpl]; rfl) ?_ (fun j hj => by unfold fset; (repeat rw [if_neg (by omega)]); exact hA j hj) (by omega)
                         exact oRep_snoc hR (((fs_off (by omega)).trans (fs_at (by omega))).trans (hv1.trans (opV1 hL).symm)) ((fs_at (by omega)).trans (by rw [hv3]; first | exact (lkV1 hL (by rw [← hQ]; omega)).symm | exact (lkV2 hL (by rw [← hQ]; omega)).symm)) (fun j h0 h1 => (fs_off (by omega)).trans (fs_off (by omega))))
      · refine A.al5_0 d6_readsOptions_22 ?_
        refine A.al5_0 d6_readsOptions_23 ?_
        refine A.getf d6_readsOptions_24 ?_ (hc := c0)
        refine A.v1 d6_readsOptions_27 (s6_fails c0 c6 hT (fun h27 e27 f27 => kN ?_)) (hc := c0)
        have c2 := f27.get c2 (by omega)
        have c6 := f27.get c6 (by omega)
        have c0 := e27
        
        refine A.vret d6_readsOptions_30 ?_
        have e : i = 4 := by omega
        subst e
        exact k _ _ _ _ c0 c2 (by omega) hb1 ⟨fun z => absurd (by rw [q1] at z; exact z) (fun y => y), fun _ => by rw [q2, pif_t rfl]; rfl⟩ hA (hF.trans (f27.two1 (by omega) (by omega)))
  refine A.iconst d6_readsOptions_0 ?_
  refine A.is5_2 d6_readsOptions_1 ?_
  refine A.iconst d6_readsOptions_2 ?_
  refine A.is5_3 d6_readsOptions_3 ?_
  exact loop 5 0 ps _ [] B0 h (by omega) hp (by omega) hp2 (by rw [hsk]; exact c0) c2 c6 Fr2.rfl rfl rfl rfl rfl (fun j hj => absurd hj (by simp)) (fun j _ => rfl) (by omega)
