/-! ===== the reference: reads of the chart ===== -/
def isE (e : Int) : Prop := (0 ≤ e ∧ e ≤ 9) ∨ e = -2 ∨ e = -3
def cl (X : CH) (k : Int) : Int := if k = -11 then 0 else X.2.2.2.2.2.1 k + 1
def stR (X : CH) (e : Int) : Int := if X.2.2.2.2.2.2.1 (3 + e) = 0 then -11 else cl X (X.2.2.2.2.2.2.2.1 (3 + e))
def stepW (X : CH) : Nat → Int → Int → Int
  | 0, its, _ => its
  | t + 1, _, k => stepW X t (X.2.2.2.2.1 k) (X.2.2.2.1 k)
def usR (S : SC) (X : CH) (v o : Int) : Prop := ∃ k : Int, (0 ≤ k ∧ k < X.2.1) ∧ X.2.2.1 k / 64 = v ∧ cOpen S v o (X.2.2.1 k % 64)
theorem cl_rng {S : SC} {X : CH} {k : Int} (h : chI S X) (hk : k = -11 ∨ (0 ≤ k ∧ k < X.2.1)) : 0 ≤ cl X k ∧ cl X k ≤ X.2.1 ∧ (k ≠ -11 → 1 ≤ cl X k) := by
  have hn := h.1.1
  unfold cl
  rcases hk with z | z
  · rw [if_pos z]; exact ⟨by omega, hn, fun y => absurd z y⟩
  · rw [if_neg (by omega)]
    obtain ⟨-, -, -, -, -, a, b⟩ := h.2.2.1 k z.1 z.2
    exact ⟨by omega, by omega, fun _ => by omega⟩
theorem cl_step {S : SC} {X : CH} {k : Int} (h : chI S X) (k0 : 0 ≤ k) (k1 : k < X.2.1) : cl X k = cl X (X.2.2.2.1 k) + 1 ∧ (X.2.2.2.1 k = -11 ∨ (0 ≤ X.2.2.2.1 k ∧ X.2.2.2.1 k < X.2.1)) := by
  obtain ⟨-, -, -, a, b, -, -⟩ := h.2.2.1 k k0 k1
  refine ⟨?_, a.elim Or.inl (fun z => Or.inr ⟨z.1, by omega⟩)⟩
  unfold cl
  rw [if_neg (by omega : ¬ k = -11), b]
set_option maxRecDepth 100000 in
set_option maxHeartbeats 4000000 in
theorem s6_situationsOf {d : Nat} {h : AH} {R : RP} {v : Int} {q : Nat} {rd fi co ah se tl ps fa fl ch : Int} {hx : Int64} {S : SC} {B : Int → Int} (w0 : h.2 q = some (mobj q S.1 rd fi co ah se tl ps fa fl ch hx)) (w1 : h.2 (q + 1) = some (kA 0 348 B)) (hB : rScr B S) {Re Ch Fm By Ie Ef Eb : FN} (w9 : h.2 (q + 9) = some (kA 2 1984 Re)) (w10 : h.2 (q + 10) = some (kA 0 1984 Ch)) (w11 : h.2 (q + 11) = some (kA 0 1984 Fm)) (w12 : h.2 (q + 12) = some (kA 0 1984 By)) (w13 : h.2 (q + 13) = some (kA 2 13 Ie)) (w14 : h.2 (q + 14) = some (kA 0 13 Ef)) (w15 : h.2 (q + 15) = some (kA 0 13 Eb)) {X : CH} (hX : chI S X) (hc : cR X ch Re Ch Fm By Ie Ef Eb) (k : R (some (vI (cntW X.1 v 1984))) h) : AM m6_situationsOf (d) h [vR q, vI v] R := by
  refine AM.of (L := [some (vR q), some (vI v), none, none]) ok_6_situationsOf (by decide) (fun G => Nat.le_of_ble_eq_true rfl) rfl ?_
  have loop : ∀ (nf : Nat) (c : Nat) (hi : c ≤ 1984) (hn : 1984 - c < nf), AW m6_situationsOf (d) (mC m6_situationsOf, mS m6_situationsOf) 4 [some (vR q), some (vI v), some (vI (cntW X.1 v c)), some (vI c)] [] h R := by
    intro nf
    induction nf with
    | zero => intro c  hi hn; omega
    | succ nf ih =>
      intro c  hi hn
      have hcw := cntW_le (R := X.1) (v := v) c
      refine A.il4_3 d6_situationsOf_4 ?_
      refine A.sipush d6_situationsOf_5 ?_
      refine A.ic_ge d6_situationsOf_8 (fun c8 => ?_) (fun c8 => ?_)
      · refine A.il4_2 d6_situationsOf_47 ?_
        refine A.iret d6_situationsOf_48 ?_
        have e : c = 1984 := by omega
        subst e
        exact k
      · have hre := hc.2.1 c (by omega) (by omega)
        refine A.il4_2 d6_situationsOf_11 ?_
        refine A.al4_0 d6_situationsOf_12 ?_
        refine A.getf d6_situationsOf_13 ?_ (hc := w0)
        refine A.il4_3 d6_situationsOf_16 ?_
        refine A.bald d6_situationsOf_17 ?_ (hc := w9)
        refine A.if_eq d6_situationsOf_18 (fun c18 => ?_) (fun c18 => ?_)
        · refine A.iconst d6_situationsOf_38 ?_
          refine A.iadd d6_situationsOf_39 ?_
          refine A.is4_2 d6_situationsOf_40 ?_
          refine A.ii4_3 d6_situationsOf_41 ?_
          refine A.goto d6_situationsOf_44 ?_
          have e1 := ih (c + 1) (by omega) (by omega)
          first
            | (rw [show cntW X.1 v (c + 1) = cntW X.1 v c + 1 from if_pos ⟨by omega, by omega⟩] at e1; exact e1)
            | (rw [show cntW X.1 v (c + 1) = cntW X.1 v c from if_neg (fun z => by have := z.1; have := z.2; omega)] at e1; rw [Int.add_zero]; exact e1)
        · refine A.il4_1 d6_situationsOf_21 ?_
          refine A.iconst d6_situationsOf_22 ?_
          refine A.ic_eq d6_situationsOf_23 (fun c23 => ?_) (fun c23 => ?_)
          · refine A.iconst d6_situationsOf_34 ?_
            refine A.goto d6_situationsOf_35 ?_
            refine A.iadd d6_situationsOf_39 ?_
            refine A.is4_2 d6_situationsOf_40 ?_
            refine A.ii4_3 d6_situationsOf_41 ?_
            refine A.goto d6_situationsOf_44 ?_
            have e1 := ih (c + 1) (by omega) (by omega)
            first
              | (rw [show cntW X.1 v (c + 1) = cntW X.1 v c + 1 from if_pos ⟨by omega, by omega⟩] at e1; exact e1)
              | (rw [show cntW X.1 v (c + 1) = cntW X.1 v c from if_neg (fun z => by have := z.1; have := z.2; omega)] at e1; rw [Int.add_zero]; exact e1)
          · refine A.il4_3 d6_situationsOf_26 ?_
            refine A.bipush d6_situationsOf_27 ?_
            refine A.idiv d6_situationsOf_29 ?_
            refine A.il4_1 d6_situationsOf_30 ?_
            refine A.ic_ne d6_situationsOf_31 (fun c31 => ?_) (fun c31 => ?_)
            · refine A.iconst d6_situationsOf_38 ?_
              refine A.iadd d6_situationsOf_39 ?_
              refine A.is4_2 d6_situationsOf_40 ?_
              refine A.ii4_3 d6_situationsOf_41 ?_
              refine A.goto d6_situationsOf_44 ?_
              have e1 := ih (c + 1) (by omega) (by omega)
              first
                | (rw [show cntW X.1 v (c + 1) = cntW X.1 v c + 1 from if_pos ⟨by omega, by omega⟩] at e1; exact e1)
                | (rw [show cntW X.1 v (c + 1) = cntW X.1 v c from if_neg (fun z => by have := z.1; have := z.2; omega)] at e1; rw [Int.add_zero]; exact e1)
            · refine A.iconst d6_situationsOf_34 ?_
              refine A.goto d6_situationsOf_35 ?_
              refine A.iadd d6_situationsOf_39 ?_
              refine A.is4_2 d6_situationsOf_40 ?_
              refine A.ii4_3 d6_situationsOf_41 ?_
              refine A.goto d6_situationsOf_44 ?_
              have e1 := ih (c + 1) (by omega) (by omega)
              first
                | (rw [show cntW X.1 v (c + 1) = cntW X.1 v c + 1 from if_pos ⟨by omega, by omega⟩] at e1; exact e1)
                | (rw [show cntW X.1 v (c + 1) = cntW X.1 v c from if_neg (fun z => by have := z.1; have := z.2; omega)] at e1; rw [Int.add_zero]; exact e1)
  refine A.iconst d6_situationsOf_0 ?_
  refine A.is4_2 d6_situationsOf_1 ?_
  refine A.iconst d6_situationsOf_2 ?_
  refine A.is4_3 d6_situationsOf_3 ?_
  exact loop 1985 0 (by omega) (by omega)
set_option maxRecDepth 100000 in
set_option maxHeartbeats 4000000 in
theorem s6_isEndNumber {d : Nat} {h : AH} {R : RP} {e : Int} (k : R (some (vI (bi (isE e)))) h) : AM m6_isEndNumber (d + 1) h [vI e] R := by
  refine AM.of (L := [some (vI e)]) ok_6_isEndNumber (by decide) (fun G => Nat.le_of_ble_eq_true rfl) rfl ?_
  refine A.il1_0 d6_isEndNumber_0 ?_
  refine A.iconst d6_isEndNumber_1 ?_
  refine A.bipush d6_isEndNumber_2 ?_
  refine A.s3 d6_isEndNumber_4 (s6_in (kS ?_))
  refine A.bz_ne d6_isEndNumber_7 (fun c7 => ?_) (fun c7 => ?_)
  · refine A.iconst d6_isEndNumber_22 ?_
    refine A.goto d6_isEndNumber_23 ?_
    refine A.zret d6_isEndNumber_27 ?_
    first | exact rT k (by unfold isE; omega) | exact rF k (by unfold isE; omega)
  · refine A.il1_0 d6_isEndNumber_10 ?_
    refine A.bipush d6_isEndNumber_11 ?_
    refine A.ic_eq d6_isEndNumber_13 (fun c13 => ?_) (fun c13 => ?_)
    · refine A.iconst d6_isEndNumber_22 ?_
      refine A.goto d6_isEndNumber_23 ?_
      refine A.zret d6_isEndNumber_27 ?_
      first | exact rT k (by unfold isE; omega) | exact rF k (by unfold isE; omega)
    · refine A.il1_0 d6_isEndNumber_16 ?_
      refine A.bipush d6_isEndNumber_17 ?_
      refine A.ic_ne d6_isEndNumber_19 (fun c19 => ?_) (fun c19 => ?_)
      · refine A.iconst d6_isEndNumber_26 ?_
        refine A.zret d6_isEndNumber_27 ?_
        first | exact rT k (by unfold isE; omega) | exact rF k (by unfold isE; omega)
      · refine A.iconst d6_isEndNumber_22 ?_
        refine A.goto d6_isEndNumber_23 ?_
        refine A.zret d6_isEndNumber_27 ?_
        first | exact rT k (by unfold isE; omega) | exact rF k (by unfold isE; omega)
set_option maxRecDepth 100000 in
set_option maxHeartbeats 4000000 in
theorem s6_stepsTo {d : Nat} {h : AH} {R : RP} {e : Int} {q : Nat} {rd fi co ah se tl ps fa fl ch : Int} {hx : Int64} {S : SC} {B : Int → Int} (w0 : h.2 q = some (mobj q S.1 rd fi co ah se tl ps fa fl ch hx)) (w1 : h.2 (q + 1) = some (kA 0 348 B)) (hB : rScr B S) {Re Ch Fm By Ie Ef Eb : FN} (w9 : h.2 (q + 9) = some (kA 2 1984 Re)) (w10 : h.2 (q + 10) = some (kA 0 1984 Ch)) (w11 : h.2 (q + 11) = some (kA 0 1984 Fm)) (w12 : h.2 (q + 12) = some (kA 0 1984 By)) (w13 : h.2 (q + 13) = some (kA 2 13 Ie)) (w14 : h.2 (q + 14) = some (kA 0 13 Ef)) (w15 : h.2 (q + 15) = some (kA 0 13 Eb)) {X : CH} (hX : chI S X) (hc : cR X ch Re Ch Fm By Ie Ef Eb) (he : isE e) (k : R (some (vI (stR X e))) h) : AM m6_stepsTo (d) h [vR q, vI e] R := by
  refine AM.of (L := [some (vR q), some (vI e), none, none]) ok_6_stepsTo (by decide) (fun G => Nat.le_of_ble_eq_true rfl) rfl ?_
  have hee : -3 ≤ e ∧ e ≤ 9 := by unfold isE at he; omega
  obtain ⟨hie, hie2⟩ := hc.2.2.2 (3 + e) (by omega) (by omega)
  obtain ⟨hd1, hd2⟩ := hX.2.2.2 (3 + e) (by omega) (by omega)
  have hn := hX.1
  have hcl := (cntN_le X.1 1984).2
  have loop : ∀ (nf : Nat) (t : Nat) (j : Int) (hj : j = -11 ∨ (0 ≤ j ∧ j < X.2.1)) (hz : X.2.2.2.2.2.2.1 (3 + e) ≠ 0) (ht : (t : Int) + cl X j = cl X (X.2.2.2.2.2.2.2.1 (3 + e))) (hn : (cl X j).toNat < nf), AW m6_stepsTo (d) (mC m6_stepsTo, mS m6_stepsTo) 25 [some (vR q), some (vI e), some (vI t), some (vI j)] [] h R := by
    intro nf
    induction nf with
    | zero => intro t  j  hj hz ht hn; omega
    | succ nf ih =>
      intro t  j  hj hz ht hn
      have hr := cl_rng hX hj
      have hr2 := cl_rng hX (hd2 (by omega))
      refine A.il4_3 d6_stepsTo_25 ?_
      refine A.bipush d6_stepsTo_26 ?_
      refine A.ic_eq d6_stepsTo_28 (fun c28 => ?_) (fun c28 => ?_)
      · refine A.il4_2 d6_stepsTo_44 ?_
        refine A.iret d6_stepsTo_45 ?_
        have e0 : cl X j = 0 := if_pos c28
        exact rI k (by rw [show stR X e = _ from if_neg hz]; omega)
      · have hj2 : 0 ≤ j ∧ j < X.2.1 := by omega
        have hs := cl_step hX hj2.1 hj2.2
        have hf := (hc.2.2.1 j hj2.1 hj2.2).2.1
        refine A.ii4_2 d6_stepsTo_31 ?_
        refine A.al4_0 d6_stepsTo_34 ?_
        refine A.getf d6_stepsTo_35 ?_ (hc := w0)
        refine A.il4_3 d6_stepsTo_38 ?_
        refine A.iald d6_stepsTo_39 ?_ (hc := w11)
        rw [hf]
        refine A.is4_3 d6_stepsTo_40 ?_
        refine A.goto d6_stepsTo_41 ?_
        exact ih (t + 1) _ hs.2 hz (by omega) (by omega)
  refine A.al4_0 d6_stepsTo_0 ?_
  refine A.getf d6_stepsTo_1 ?_ (hc := w0)
  refine A.iconst d6_stepsTo_4 ?_
  refine A.il4_1 d6_stepsTo_5 ?_
  refine A.iadd d6_stepsTo_6 ?_
  refine A.bald d6_stepsTo_7 ?_ (hc := w13)
  refine A.if_ne d6_stepsTo_8 (fun c8 => ?_) (fun c8 => ?_)
  · have hq := hie2 (by omega)
    refine A.iconst d6_stepsTo_14 ?_
    refine A.is4_2 d6_stepsTo_15 ?_
    refine A.al4_0 d6_stepsTo_16 ?_
    refine A.getf d6_stepsTo_17 ?_ (hc := w0)
    refine A.iconst d6_stepsTo_20 ?_
    refine A.il4_1 d6_stepsTo_21 ?_
    refine A.iadd d6_stepsTo_22 ?_
    refine A.iald d6_stepsTo_23 ?_ (hc := w14)
    rw [hq.1]
    refine A.is4_3 d6_stepsTo_24 ?_
    exact loop ((cl X (X.2.2.2.2.2.2.2.1 (3 + e))).toNat + 1) 0 _ (hd2 (by omega)) (by omega) (by omega) (by omega)
  · refine A.bipush d6_stepsTo_11 ?_
    refine A.iret d6_stepsTo_13 ?_
    exact rI k (if_pos (by omega) : stR X e = _).symm
set_option maxRecDepth 100000 in
set_option maxHeartbeats 4000000 in
theorem s6_isUsable {d : Nat} {h : AH} {R : RP} {v o : Int} {q : Nat} {rd fi co ah se tl ps fa fl ch : Int} {hx : Int64} {S : SC} {B : Int → Int} (w0 : h.2 q = some (mobj q S.1 rd fi co ah se tl ps fa fl ch hx)) (w1 : h.2 (q + 1) = some (kA 0 348 B)) (hB : rScr B S) {Re Ch Fm By Ie Ef Eb : FN} (w9 : h.2 (q + 9) = some (kA 2 1984 Re)) (w10 : h.2 (q + 10) = some (kA 0 1984 Ch)) (w11 : h.2 (q + 11) = some (kA 0 1984 Fm)) (w12 : h.2 (q + 12) = some (kA 0 1984 By)) (w13 : h.2 (q + 13) = some (kA 2 13 Ie)) (w14 : h.2 (q + 14) = some (kA 0 13 Ef)) (w15 : h.2 (q + 15) = some (kA 0 13 Eb)) {X : CH} (hX : chI S X) (hc : cR X ch Re Ch Fm By Ie Ef Eb) (hk6 : cKind S v = 6) (o0 : 0 ≤ o) (o1 : o < cOpts S v) (k : R (some (vI (bi (usR S X v o)))) h) : AM m6_isUsable (d + 2) h [vR q, vI v, vI o] R := by
  refine AM.of (L := [some (vR q), some (vI v), some (vI o), none]) ok_6_isUsable (by decide) (fun G => Nat.le_of_ble_eq_true rfl) rfl ?_
  have hkl := kd_lt (S := S) (v := v) (by rw [hk6]; decide)
  have hn := hX.1
  have hcl := (cntN_le X.1 1984).2
  have hcn := hc.1
  have loop : ∀ (nf : Nat) (c : Nat) (hi : c ≤ 1984) (hno : ∀ j : Int, 0 ≤ j → j < c → ¬ (X.2.2.1 j / 64 = v ∧ cOpen S v o (X.2.2.1 j % 64))) (hn : 1984 - c < nf), AW m6_isUsable (d + 2) (mC m6_isUsable, mS m6_isUsable) 2 [some (vR q), some (vI v), some (vI o), some (vI c)] [] h R := by
    intro nf
    induction nf with
    | zero => intro c  hi hno hn; omega
    | succ nf ih =>
      intro c  hi hno hn
      refine A.il4_3 d6_isUsable_2 ?_
      refine A.al4_0 d6_isUsable_3 ?_
      refine A.getf d6_isUsable_4 ?_ (hc := w0)
      refine A.ic_ge d6_isUsable_7 (fun c7 => ?_) (fun c7 => ?_)
      · refine A.iconst d6_isUsable_49 ?_
        refine A.iret d6_isUsable_50 ?_
        exact rF k (fun ⟨j, j1, j2⟩ => hno j j1.1 (by omega) j2)
      · obtain ⟨hch, -, -⟩ := hc.2.2.1 c (by omega) (by omega)
        obtain ⟨hq1, -, -, -⟩ := hX.2.2.1 c (by omega) (by omega)
        refine A.al4_0 d6_isUsable_10 ?_
        refine A.getf d6_isUsable_11 ?_ (hc := w0)
        refine A.il4_3 d6_isUsable_14 ?_
        refine A.iald d6_isUsable_15 ?_ (hc := w10)
        rw [hch]
        refine A.bipush d6_isUsable_16 ?_
        refine A.idiv d6_isUsable_18 ?_
        refine A.il4_1 d6_isUsable_19 ?_
        refine A.ic_ne d6_isUsable_20 (fun c20 => ?_) (fun c20 => ?_)
        · refine A.ii4_3 d6_isUsable_43 ?_
          refine A.goto d6_isUsable_46 ?_
          refine ih (c + 1) (by omega) (fun j j0 j1 z => ?_) (by omega)
          by_cases e : j = c
          · subst e
            first | exact absurd z.1 (by omega) | exact c38 z.2
          · exact hno j j0 (by omega) z
        · refine A.al4_0 d6_isUsable_23 ?_
          refine A.il4_1 d6_isUsable_24 ?_
          refine A.il4_2 d6_isUsable_25 ?_
          refine A.al4_0 d6_isUsable_26 ?_
          refine A.getf d6_isUsable_27 ?_ (hc := w0)
          refine A.il4_3 d6_isUsable_30 ?_
          refine A.iald d6_isUsable_31 ?_ (hc := w10)
          rw [hch]
          refine A.bipush d6_isUsable_32 ?_
          refine A.irem d6_isUsable_34 ?_
          refine A.v3 d6_isUsable_35 (s6_isLocked w0 w1 hB hkl.1 hkl.2.1 hk6 o0 o1 (kS ?_)) (hc := w0)
          refine A.bz_ne d6_isUsable_38 (fun c38 => ?_) (fun c38 => ?_)
          · refine A.ii4_3 d6_isUsable_43 ?_
            refine A.goto d6_isUsable_46 ?_
            refine ih (c + 1) (by omega) (fun j j0 j1 z => ?_) (by omega)
            by_cases e : j = c
            · subst e
              first | exact absurd z.1 (by omega) | exact c38 z.2
            · exact hno j j0 (by omega) z
          · refine A.iconst d6_isUsable_41 ?_
            refine A.iret d6_isUsable_42 ?_
            exact rT k ⟨c, ⟨by omega, by omega⟩, by omega, Classical.not_not.1 c38⟩
  refine A.iconst d6_isUsable_0 ?_
  refine A.is4_3 d6_isUsable_1 ?_
  exact loop 1985 0 (by omega) (fun j j0 j1 => by omega) (by omega)
