/-! ===== the law: numbers, what is shown, nodes carried out ===== -/
def mReg (f : FN) (m : MO) : Prop := f 0 = m.1 ∧ f 1 = m.2.1 ∧ f 2 = mpk m
theorem cIt_s {S : SC} {n : Nat} {m : MO} {v : Int} (h : ¬ cShown S v) : cIt S (n + 1) (m, v) = cIt S n (cDo S m v) := pif_f h
theorem moQ_fl {m : MO} {f : Int} (h : moQ m) (h0 : 0 ≤ f ∧ f ≤ 63) : moQ (m.1, f, m.2.2) := ⟨h0, h.2⟩
theorem pNode.k {fp : FN} {S : SC} {v : Int} (h : pNode fp S v) : fp (4 * v) = cKind S v := h.1
theorem pNode.n {fp : FN} {S : SC} {v : Int} (h : pNode fp S v) (hk : cKind S v ≠ 6) : fp (4 * v + 1) = cNum S v 0 ∧ fp (4 * v + 2) = cNum S v 1 ∧ fp (4 * v + 3) = cNum S v 2 := h.2.1 hk
set_option maxRecDepth 100000 in
set_option maxHeartbeats 4000000 in
theorem sL_low {d : Nat} {h : AH} {R : RP} {v n : Int} (h0 : 0 < n) (k : R (some (vI (lowF v n))) h) : AM mL_low (d) h [vI v, vI n] R := by
  refine AM.of (L := [some (vI v), some (vI n)]) ok_L_low (by decide) (fun G => Nat.le_of_ble_eq_true rfl) rfl ?_
  refine A.il2_0 dL_low_0 ?_
  refine A.ldcI dL_low_1 ?_
  refine A.iand dL_low_3 ?_
  refine A.il2_1 dL_low_4 ?_
  refine A.irem dL_low_5 ?_ (h0 := and_max _)
  refine A.iret dL_low_6 ?_
  exact k
set_option maxRecDepth 100000 in
set_option maxHeartbeats 4000000 in
theorem sL_cell {d : Nat} {h : AH} {R : RP} {v : Int} (h0 : 0 ≤ v) (h1 : v ≤ 1000) (k : ∀ w : Int, R (some (vI w)) h) : AM mL_cell (d) h [vX, vI v] R := by
  refine AM.of (L := [some (vX), some (vI v)]) ok_L_cell (by decide) (fun G => Nat.le_of_ble_eq_true rfl) rfl ?_
  refine A.il2_1 dL_cell_0 ?_
  refine A.ax2_0 dL_cell_1 ?_
  refine A.xlen dL_cell_2 ?_
  refine A.ic_ge dL_cell_3 (fun c3 => ?_) (fun c3 => ?_)
  · refine A.ldcI dL_cell_12 ?_
    refine A.il2_1 dL_cell_14 ?_
    refine A.iconst dL_cell_15 ?_
    refine A.iadd dL_cell_16 ?_
    refine A.imulW dL_cell_17 ?_
    refine A.iret dL_cell_18 ?_
    exact k _
  · refine A.ax2_0 dL_cell_6 ?_
    refine A.il2_1 dL_cell_7 ?_
    refine A.xld dL_cell_8 ?_
    refine A.goto dL_cell_9 ?_
    refine A.iret dL_cell_18 ?_
    exact k _
set_option maxRecDepth 100000 in
set_option maxHeartbeats 4000000 in
theorem sL_low5 {d : Nat} {h : AH} {R : RP} {x v : Int} (h0 : 0 ≤ v) (h1 : v ≤ 5) (k : R (some (vI (bAnd (bShr x (5 * v)) 31))) h) : AM mL_low5 (d) h [vI x, vI v] R := by
  refine AM.of (L := [some (vI x), some (vI v)]) ok_L_low5 (by decide) (fun G => Nat.le_of_ble_eq_true rfl) rfl ?_
  refine A.il2_0 dL_low5_0 ?_
  refine A.iconst dL_low5_1 ?_
  refine A.il2_1 dL_low5_2 ?_
  refine A.imul dL_low5_3 ?_
  refine A.ishr dL_low5_4 ?_
  refine A.bipush dL_low5_5 ?_
  refine A.iand dL_low5_7 ?_
  refine A.iret dL_low5_8 ?_
  exact k
set_option maxRecDepth 100000 in
set_option maxHeartbeats 4000000 in
theorem sL_shownKind {d : Nat} {h : AH} {R : RP} {v : Int} {a : Nat} {fp : FN} {S : SC} {B : FN} (p0 : h.2 a = some (kA 0 64 fp)) (hp : pRel fp S) (hB : rScr B S) (v0 : 0 ≤ v) (v1 : v ≤ 30) (k : R (some (vI (lSK S v))) h) : AM mL_shownKind (d) h [vR a, vI v] R := by
  refine AM.of (L := [some (vR a), some (vI v), none]) ok_L_shownKind (by decide) (fun G => Nat.le_of_ble_eq_true rfl) rfl ?_
  have hp1 := hp.1
  have hp2 := hp.2.1
  refine A.il3_1 dL_shownKind_0 ?_
  refine A.al3_0 dL_shownKind_1 ?_
  refine A.bipush dL_shownKind_2 ?_
  refine A.iald dL_shownKind_4 ?_ (hc := p0)
  refine A.ic_lt dL_shownKind_5 (fun c5 => ?_) (fun c5 => ?_)
  · have pn := (hp.2.2 v v0 (by omega)).k
    refine A.al3_0 dL_shownKind_10 ?_
    refine A.iconst dL_shownKind_11 ?_
    refine A.il3_1 dL_shownKind_12 ?_
    refine A.imul dL_shownKind_13 ?_
    refine A.iald dL_shownKind_14 ?_ (hc := p0)
    refine A.is3_2 dL_shownKind_15 ?_
    refine A.il3_2 dL_shownKind_16 ?_
    refine A.if_ne dL_shownKind_17 (fun c17 => ?_) (fun c17 => ?_)
    · refine A.il3_2 dL_shownKind_24 ?_
      refine A.bipush dL_shownKind_25 ?_
      refine A.ic_ne dL_shownKind_27 (fun c27 => ?_) (fun c27 => ?_)
      · refine A.il3_2 dL_shownKind_34 ?_
        refine A.bipush dL_shownKind_35 ?_
        refine A.ic_ne dL_shownKind_37 (fun c37 => ?_) (fun c37 => ?_)
        · refine A.iconst dL_shownKind_44 ?_
          refine A.iret dL_shownKind_45 ?_
          exact rI k (by unfold lSK; rw [if_neg (by omega)]; (repeat' split) <;> omega)
        · refine A.iconst dL_shownKind_40 ?_
          refine A.goto dL_shownKind_41 ?_
          refine A.iret dL_shownKind_45 ?_
          exact rI k (by unfold lSK; rw [if_neg (by omega)]; (repeat' split) <;> omega)
      · refine A.iconst dL_shownKind_30 ?_
        refine A.goto dL_shownKind_31 ?_
        refine A.iret dL_shownKind_45 ?_
        exact rI k (by unfold lSK; rw [if_neg (by omega)]; (repeat' split) <;> omega)
    · refine A.iconst dL_shownKind_20 ?_
      refine A.goto dL_shownKind_21 ?_
      refine A.iret dL_shownKind_45 ?_
      exact rI k (by unfold lSK; rw [if_neg (by omega)]; (repeat' split) <;> omega)
  · refine A.iconst dL_shownKind_8 ?_
    refine A.iret dL_shownKind_9 ?_
    exact rI k (if_pos (by omega) : lSK S v = _).symm
set_option maxRecDepth 100000 in
set_option maxHeartbeats 4000000 in
theorem sL_without {d : Nat} {h : AH} {R : RP} {v : Int} {m : MO} (hq : moQ m) (v0 : 0 ≤ v) (v1 : v ≤ 5) (k : R (some (vI (mpk (hideM m v)))) h) : AM mL_without (d) h [vI (mpk m), vI v] R := by
  refine AM.of (L := [some (vI (mpk m)), some (vI v), none, none]) ok_L_without (by decide) (fun G => Nat.le_of_ble_eq_true rfl) rfl ?_
  have loop : ∀ (nf : Nat) (i : Nat) (hi : i ≤ 3) (hn : 3 - i < nf), AW mL_without (d) (mC mL_without, mS mL_without) 4 [some (vI (mpk m)), some (vI v), some (vI (mpk (hidM m v i))), some (vI i)] [] h R := by
    intro nf
    induction nf with
    | zero => intro i  hi hn; omega
    | succ nf ih =>
      intro i  hi hn
      refine A.il4_3 dL_without_4 ?_
      refine A.iconst dL_without_5 ?_
      refine A.ic_ge dL_without_6 (fun c6 => ?_) (fun c6 => ?_)
      · refine A.il4_2 dL_without_49 ?_
        refine A.iret dL_without_50 ?_
        have e : i = 3 := by omega
        subst e
        exact k
      · have q := hidM_q hq v i
        have gi := mpk_get q (k := (i : Int)) (by omega) (by omega)
        have pl := q.at (k := (i : Int)) (by omega) (by omega)
        have er := en_rng pl
        refine A.il4_2 dL_without_9 ?_
        refine A.bipush dL_without_10 ?_
        refine A.il4_3 dL_without_12 ?_
        refine A.imul dL_without_13 ?_
        refine A.ishr dL_without_14 ?_
        refine A.bipush dL_without_15 ?_
        refine A.iand dL_without_17 ?_
        rw [gi]
        refine A.bipush dL_without_18 ?_
        refine A.idiv dL_without_20 ?_
        refine A.il4_1 dL_without_21 ?_
        refine A.iconst dL_without_22 ?_
        refine A.iadd dL_without_23 ?_
        refine A.ic_ne dL_without_24 (fun c24 => ?_) (fun c24 => ?_)
        · refine A.il4_2 dL_without_41 ?_
          refine A.is4_2 dL_without_42 ?_
          refine A.ii4_3 dL_without_43 ?_
          refine A.goto dL_without_46 ?_
          have e := hidM_s (m := m) (v := v) (i := i)
          first
            | (rw [if_neg (fun z => c24 ((en_v pl v0).2 z))] at e
               have z := ih (i + 1) (by omega) (by omega)
               rw [e] at z
               exact z)
            | (rw [if_pos ((en_v pl v0).1 (by omega))] at e
               have z := ih (i + 1) (by omega) (by omega)
               rw [e, ← mpk_clr q (k := (i : Int)) (by omega) (by omega)] at z
               exact z)
        · refine A.il4_2 dL_without_27 ?_
          refine A.bipush dL_without_28 ?_
          refine A.bipush dL_without_30 ?_
          refine A.il4_3 dL_without_32 ?_
          refine A.imul dL_without_33 ?_
          refine A.ishl dL_without_34 ?_
          refine A.iconst dL_without_35 ?_
          refine A.ixor dL_without_36 ?_
          refine A.iand dL_without_37 ?_
          refine A.goto dL_without_38 ?_
          refine A.is4_2 dL_without_42 ?_
          refine A.ii4_3 dL_without_43 ?_
          refine A.goto dL_without_46 ?_
          have e := hidM_s (m := m) (v := v) (i := i)
          first
            | (rw [if_neg (fun z => c24 ((en_v pl v0).2 z))] at e
               have z := ih (i + 1) (by omega) (by omega)
               rw [e] at z
               exact z)
            | (rw [if_pos ((en_v pl v0).1 (by omega))] at e
               have z := ih (i + 1) (by omega) (by omega)
               rw [e, ← mpk_clr q (k := (i : Int)) (by omega) (by omega)] at z
               exact z)
  refine A.il4_0 dL_without_0 ?_
  refine A.is4_2 dL_without_1 ?_
  refine A.iconst dL_without_2 ?_
  refine A.is4_3 dL_without_3 ?_
  exact loop 4 0 (by omega) (by omega)
theorem put_fl (m : MO) (p v f : Int) : (putM m p v f).2.1 = m.2.1 := by
  unfold putM
  split <;> rfl
set_option maxRecDepth 100000 in
set_option maxHeartbeats 4000000 in
theorem sL_carries {d : Nat} {h : AH} {R : RP} {v : Int} {b : Nat} {fm : FN} {m : MO} {a : Nat} {fp : FN} {S : SC} {B : FN} (p0 : h.2 a = some (kA 0 64 fp)) (hp : pRel fp S) (hB : rScr B S) (m0 : h.2 b = some (kA 0 3 fm)) (hab : a ≠ b) (hq : moQ m) (e1 : fm 1 = m.2.1) (e2 : fm 2 = mpk m) (v0 : 0 ≤ v) (v1 : v ≤ 30) (k : ∀ h' fm', h'.2 b = some (kA 0 3 fm') → mReg fm' (cCome S m v) → moQ (cCome S m v) → Fr h h' b 1 → R none h') : AM mL_carries (d + 1) h [vR a, vR b, vI v] R := by
  refine AM.of (L := [some (vR a), some (vR b), some (vI v), none, none, none, none, none]) ok_L_carries (by decide) (fun G => Nat.le_of_ble_eq_true rfl) rfl ?_
  have hp1 := hp.1
  have hp2 := hp.2.1
  have loop : ∀ (nf : Nat) (i : Nat) (nd : Int) (m1 : MO) (fm1 : FN) (x5 x6 x7 : Option AV) (h1 : AH) (hi : i ≤ 60) (n0 : 0 ≤ nd) (n1 : nd ≤ 30) (p0 : h1.2 a = some (kA 0 64 fp)) (m0 : h1.2 b = some (kA 0 3 fm1)) (hq : moQ m1) (e1 : fm1 1 = m1.2.1) (e2 : fm1 2 = mpk m1) (hF : Fr h h1 b 1) (he : cIt S 60 (m, v) = cIt S (60 - i) (m1, nd)) (hn : 60 - i < nf), AW mL_carries (d + 1) (mC mL_carries, mS mL_carries) 5 [some (vR a), some (vR b), some (vI v), some (vI nd), some (vI i), x5, x6, x7] [] h1 R := by
    intro nf
    induction nf with
    | zero => intro i  nd  m1  fm1  x5 x6 x7  h1  hi n0 n1 p0 m0 hq e1 e2 hF he hn; omega
    | succ nf ih =>
      intro i  nd  m1  fm1  x5 x6 x7  h1  hi n0 n1 p0 m0 hq e1 e2 hF he hn
      refine A.al8_0 dL_carries_5 ?_
      refine A.il8_3 dL_carries_6 ?_
      refine A.s2 dL_carries_7 (sL_shownKind p0 hp hB (by omega) (by omega) (kS ?_))
      refine A.if_ge dL_carries_10 (fun c10 => ?_) (fun c10 => ?_)
      · refine A.al8_1 dL_carries_204 ?_
        refine A.iconst dL_carries_205 ?_
        refine A.il8_3 dL_carries_206 ?_
        refine A.iast dL_carries_207 (fun h207 e207 f207 => ?_) (hc := m0)
        first | (have p0 := (f207.2 _ (by omega)).trans p0) | (have p0 := e207)
        first | (have m0 := (f207.2 _ (by omega)).trans m0) | (have m0 := e207)
        refine A.vret dL_carries_208 ?_
        have ys := (lSK_y hB n0 (by omega)).1
        have hz : cCome S m v = (nd, m1.2) := by
          unfold cCome
          rw [he]
          rcases (show 60 - i = 0 ∨ ∃ j, 60 - i = j + 1 by cases 60 - i with | zero => exact Or.inl rfl | succ j => exact Or.inr ⟨j, rfl⟩) with z | ⟨j, z⟩
          · rw [z]; show (pif (cShown S nd) nd 30, m1.2) = _; rw [pif_t ys]
          · rw [z, show cIt S (j + 1) (m1, nd) = (m1, nd) from pif_t ys]; show (pif (cShown S nd) nd 30, m1.2) = _; rw [pif_t ys]
        exact k _ _ m0 (by rw [hz]; exact ⟨fs_at rfl, (fs_off (by decide)).trans e1, (fs_off (by decide)).trans e2⟩) (by rw [hz]; exact hq) (hF.then f207 (by omega) (by omega))
      · refine A.il8_4 dL_carries_13 ?_
        refine A.bipush dL_carries_15 ?_
        refine A.ic_ne dL_carries_17 (fun c17 => ?_) (fun c17 => ?_)
        · have ns := lSK_n hB n0 (by omega)
          obtain ⟨w1, w2, w3⟩ := not_shown hB n0 ns
          have g := hB.2 nd n0 w1
          have pn := hp.2.2 nd n0 w1
          have q0 := pn.k
          obtain ⟨q1, q2, q3⟩ := pn.n (by omega)
          have q3 : fp (4 * (nd + 1) - 1) = cNum S nd 2 := by rw [show 4 * (nd + 1) - 1 = 4 * nd + 3 by omega]; exact q3
          refine A.ii8_4 dL_carries_26 ?_
          refine A.al8_0 dL_carries_29 ?_
          refine A.iconst dL_carries_30 ?_
          refine A.il8_3 dL_carries_31 ?_
          refine A.imul dL_carries_32 ?_
          refine A.iconst dL_carries_33 ?_
          refine A.iadd dL_carries_34 ?_
          refine A.iald dL_carries_35 ?_ (hc := p0)
          rw [q1]
          refine A.is8_5 dL_carries_36 ?_
          refine A.al8_0 dL_carries_38 ?_
          refine A.iconst dL_carries_39 ?_
          refine A.il8_3 dL_carries_40 ?_
          refine A.imul dL_carries_41 ?_
          refine A.iconst dL_carries_42 ?_
          refine A.iadd dL_carries_43 ?_
          refine A.iald dL_carries_44 ?_ (hc := p0)
          rw [q2]
          refine A.is8_6 dL_carries_45 ?_
          refine A.al8_0 dL_carries_47 ?_
          refine A.iconst dL_carries_48 ?_
          refine A.il8_3 dL_carries_49 ?_
          refine A.imul dL_carries_50 ?_
          refine A.iald dL_carries_51 ?_ (hc := p0)
          rw [q0]
          refine A.is8_7 dL_carries_52 ?_
          refine A.ii8_3 dL_carries_54 ?_
          refine A.il8_7 dL_carries_57 ?_
          refine A.iconst dL_carries_59 ?_
          refine A.ic_ne dL_carries_60 (fun c60 => ?_) (fun c60 => ?_)
          · refine A.il8_7 dL_carries_110 ?_
            refine A.iconst dL_carries_112 ?_
            refine A.ic_ne dL_carries_113 (fun c113 => ?_) (fun c113 => ?_)
            · refine A.il8_7 dL_carries_130 ?_
              refine A.iconst dL_carries_132 ?_
              refine A.ic_ne dL_carries_133 (fun c133 => ?_) (fun c133 => ?_)
              · refine A.il8_7 dL_carries_169 ?_
                refine A.iconst dL_carries_171 ?_
                refine A.ic_eq dL_carries_172 (fun c172 => ?_) (fun c172 => ?_)
                · first | have rr := g.r4 (by omega) | have rr := g.r5 (by omega)
                  refine A.il8_7 dL_carries_187 ?_
                  refine A.iconst dL_carries_189 ?_
                  refine A.ic_ne dL_carries_190 (fun c190 => ?_) (fun c190 => ?_)
                  · refine A.il8_6 dL_carries_198 ?_
                    refine A.is8_3 dL_carries_200 ?_
                    refine A.goto dL_carries_201 ?_
                    obtain ⟨j, hj⟩ : ∃ j, 60 - i = j + 1 := ⟨60 - i - 1, by omega⟩
                    first
                      | (exfalso; omega)
                      | (have ra := g.r1 (by omega)
                         exact ih (i + 1) (nd + 1) (putM m1 (cNum S nd 1) (cNum S nd 0) (cNum S nd 2)) _ _ _ _ _ (by omega) (by omega) (by omega) p0 m0 (mpk_put hq (p := cNum S nd 1) (v := cNum S nd 0) (f := cNum S nd 2) (by omega) (by omega) (by omega) (by omega) (by omega) (by omega)).2 ((fs_off (by omega)).trans (e1.trans (put_fl _ _ _ _).symm)) ((fs_at rfl).trans (mpk_put hq (p := cNum S nd 1) (v := cNum S nd 0) (f := cNum S nd 2) (by omega) (by omega) (by omega) (by omega) (by omega) (by omega)).1) (hF.then f106 (by omega) (by omega)) (by rw [he, hj, show 60 - (i + 1) = j by omega, cIt_s ns]; rw [cDo1 (by omega)]) (by omega))
                      | (have ra := g.r2 (by omega)
                         exact ih (i + 1) (nd + 1) (hideM m1 (cNum S nd 0)) _ _ _ _ _ (by omega) (by omega) (by omega) p0 m0 (hidM_q hq _ 3) ((fs_off (by omega)).trans e1) (fs_at rfl) (hF.then f126 (by omega) (by omega)) (by rw [he, hj, show 60 - (i + 1) = j by omega, cIt_s ns]; rw [cDo2 (by omega)]) (by omega))
                      | (have ra := g.r3 (by omega)
                         exact ih (i + 1) (nd + 1) (m1.1, bOr m1.2.1 (bShl 1 (cNum S nd 0)), m1.2.2) _ _ _ _ _ (by omega) (by omega) (by omega) p0 m0 (moQ_fl hq (flOr hq.1.1 hq.1.2 (by omega) (by omega))) (fs_at rfl) ((fs_off (by omega)).trans e2) (hF.then f165 (by omega) (by omega)) (by rw [he, hj, show 60 - (i + 1) = j by omega, cIt_s ns]; rw [cDo3 (by omega), if_pos (by omega)]) (by omega))
                      | (have ra := g.r3 (by omega)
                         exact ih (i + 1) (nd + 1) (m1.1, bAnd m1.2.1 (bXor (bShl 1 (cNum S nd 0)) (-1)), m1.2.2) _ _ _ _ _ (by omega) (by omega) (by omega) p0 m0 (moQ_fl hq (flAnd hq.1.1 hq.1.2 (by omega) (by omega))) (fs_at rfl) ((fs_off (by omega)).trans e2) (hF.then f165 (by omega) (by omega)) (by rw [he, hj, show 60 - (i + 1) = j by omega, cIt_s ns]; rw [cDo3 (by omega), if_neg (by omega)]) (by omega))
                      | (have ra := g.r4 (by omega)
                         exact ih (i + 1) (cNum S nd 0) m1 _ _ _ _ _ (by omega) (by omega) (by omega) p0 m0 hq e1 e2 hF (by rw [he, hj, show 60 - (i + 1) = j by omega, cIt_s ns]; rw [cDo4 (by omega)]) (by omega))
                      | (have ra := g.r5 (by omega)
                         exact ih (i + 1) (cNum S nd 1) m1 _ _ _ _ _ (by omega) (by omega) (by omega) p0 m0 hq e1 e2 hF (by rw [he, hj, show 60 - (i + 1) = j by omega, cIt_s ns]; rw [cDo5 (by omega), pif_t (show fon m1.2.1 (cNum S nd 0) by unfold fon; omega)]) (by omega))
                      | (have ra := g.r5 (by omega)
                         exact ih (i + 1) (nd + 1) m1 _ _ _ _ _ (by omega) (by omega) (by omega) p0 m0 hq e1 e2 hF (by rw [he, hj, show 60 - (i + 1) = j by omega, cIt_s ns]; rw [cDo5 (by omega), pif_f (show ¬ fon m1.2.1 (cNum S nd 0) by unfold fon; omega)]) (by omega))
                  · refine A.il8_5 dL_carries_193 ?_
                    refine A.goto dL_carries_195 ?_
                    refine A.is8_3 dL_carries_200 ?_
                    refine A.goto dL_carries_201 ?_
                    obtain ⟨j, hj⟩ : ∃ j, 60 - i = j + 1 := ⟨60 - i - 1, by omega⟩
                    first
                      | (exfalso; omega)
                      | (have ra := g.r1 (by omega)
                         exact ih (i + 1) (nd + 1) (putM m1 (cNum S nd 1) (cNum S nd 0) (cNum S nd 2)) _ _ _ _ _ (by omega) (by omega) (by omega) p0 m0 (mpk_put hq (p := cNum S nd 1) (v := cNum S nd 0) (f := cNum S nd 2) (by omega) (by omega) (by omega) (by omega) (by omega) (by omega)).2 ((fs_off (by omega)).trans (e1.trans (put_fl _ _ _ _).symm)) ((fs_at rfl).trans (mpk_put hq (p := cNum S nd 1) (v := cNum S nd 0) (f := cNum S nd 2) (by omega) (by omega) (by omega) (by omega) (by omega) (by omega)).1) (hF.then f106 (by omega) (by omega)) (by rw [he, hj, show 60 - (i + 1) = j by omega, cIt_s ns]; rw [cDo1 (by omega)]) (by omega))
                      | (have ra := g.r2 (by omega)
                         exact ih (i + 1) (nd + 1) (hideM m1 (cNum S nd 0)) _ _ _ _ _ (by omega) (by omega) (by omega) p0 m0 (hidM_q hq _ 3) ((fs_off (by omega)).trans e1) (fs_at rfl) (hF.then f126 (by omega) (by omega)) (by rw [he, hj, show 60 - (i + 1) = j by omega, cIt_s ns]; rw [cDo2 (by omega)]) (by omega))
                      | (have ra := g.r3 (by omega)
                         exact ih (i + 1) (nd + 1) (m1.1, bOr m1.2.1 (bShl 1 (cNum S nd 0)), m1.2.2) _ _ _ _ _ (by omega) (by omega) (by omega) p0 m0 (moQ_fl hq (flOr hq.1.1 hq.1.2 (by omega) (by omega))) (fs_at rfl) ((fs_off (by omega)).trans e2) (hF.then f165 (by omega) (by omega)) (by rw [he, hj, show 60 - (i + 1) = j by omega, cIt_s ns]; rw [cDo3 (by omega), if_pos (by omega)]) (by omega))
                      | (have ra := g.r3 (by omega)
                         exact ih (i + 1) (nd + 1) (m1.1, bAnd m1.2.1 (bXor (bShl 1 (cNum S nd 0)) (-1)), m1.2.2) _ _ _ _ _ (by omega) (by omega) (by omega) p0 m0 (moQ_fl hq (flAnd hq.1.1 hq.1.2 (by omega) (by omega))) (fs_at rfl) ((fs_off (by omega)).trans e2) (hF.then f165 (by omega) (by omega)) (by rw [he, hj, show 60 - (i + 1) = j by omega, cIt_s ns]; rw [cDo3 (by omega), if_neg (by omega)]) (by omega))
                      | (have ra := g.r4 (by omega)
                         exact ih (i + 1) (cNum S nd 0) m1 _ _ _ _ _ (by omega) (by omega) (by omega) p0 m0 hq e1 e2 hF (by rw [he, hj, show 60 - (i + 1) = j by omega, cIt_s ns]; rw [cDo4 (by omega)]) (by omega))
                      | (have ra := g.r5 (by omega)
                         exact ih (i + 1) (cNum S nd 1) m1 _ _ _ _ _ (by omega) (by omega) (by omega) p0 m0 hq e1 e2 hF (by rw [he, hj, show 60 - (i + 1) = j by omega, cIt_s ns]; rw [cDo5 (by omega), pif_t (show fon m1.2.1 (cNum S nd 0) by unfold fon; omega)]) (by omega))
                      | (have ra := g.r5 (by omega)
                         exact ih (i + 1) (nd + 1) m1 _ _ _ _ _ (by omega) (by omega) (by omega) p0 m0 hq e1 e2 hF (by rw [he, hj, show 60 - (i + 1) = j by omega, cIt_s ns]; rw [cDo5 (by omega), pif_f (show ¬ fon m1.2.1 (cNum S nd 0) by unfold fon; omega)]) (by omega))
                · have rr := g.r5 (by omega)
                  refine A.al8_1 dL_carries_175 ?_
                  refine A.iconst dL_carries_176 ?_
                  refine A.iald dL_carries_177 ?_ (hc := m0)
                  rw [e1]
                  refine A.il8_5 dL_carries_178 ?_
                  refine A.ishr dL_carries_180 ?_
                  refine A.iconst dL_carries_181 ?_
                  refine A.iand dL_carries_182 ?_
                  refine A.iconst dL_carries_183 ?_
                  refine A.ic_ne dL_carries_184 (fun c184 => ?_) (fun c184 => ?_)
                  · refine A.goto dL_carries_201 ?_
                    obtain ⟨j, hj⟩ : ∃ j, 60 - i = j + 1 := ⟨60 - i - 1, by omega⟩
                    first
                      | (exfalso; omega)
                      | (have ra := g.r1 (by omega)
                         exact ih (i + 1) (nd + 1) (putM m1 (cNum S nd 1) (cNum S nd 0) (cNum S nd 2)) _ _ _ _ _ (by omega) (by omega) (by omega) p0 m0 (mpk_put hq (p := cNum S nd 1) (v := cNum S nd 0) (f := cNum S nd 2) (by omega) (by omega) (by omega) (by omega) (by omega) (by omega)).2 ((fs_off (by omega)).trans (e1.trans (put_fl _ _ _ _).symm)) ((fs_at rfl).trans (mpk_put hq (p := cNum S nd 1) (v := cNum S nd 0) (f := cNum S nd 2) (by omega) (by omega) (by omega) (by omega) (by omega) (by omega)).1) (hF.then f106 (by omega) (by omega)) (by rw [he, hj, show 60 - (i + 1) = j by omega, cIt_s ns]; rw [cDo1 (by omega)]) (by omega))
                      | (have ra := g.r2 (by omega)
                         exact ih (i + 1) (nd + 1) (hideM m1 (cNum S nd 0)) _ _ _ _ _ (by omega) (by omega) (by omega) p0 m0 (hidM_q hq _ 3) ((fs_off (by omega)).trans e1) (fs_at rfl) (hF.then f126 (by omega) (by omega)) (by rw [he, hj, show 60 - (i + 1) = j by omega, cIt_s ns]; rw [cDo2 (by omega)]) (by omega))
                      | (have ra := g.r3 (by omega)
                         exact ih (i + 1) (nd + 1) (m1.1, bOr m1.2.1 (bShl 1 (cNum S nd 0)), m1.2.2) _ _ _ _ _ (by omega) (by omega) (by omega) p0 m0 (moQ_fl hq (flOr hq.1.1 hq.1.2 (by omega) (by omega))) (fs_at rfl) ((fs_off (by omega)).trans e2) (hF.then f165 (by omega) (by omega)) (by rw [he, hj, show 60 - (i + 1) = j by omega, cIt_s ns]; rw [cDo3 (by omega), if_pos (by omega)]) (by omega))
                      | (have ra := g.r3 (by omega)
                         exact ih (i + 1) (nd + 1) (m1.1, bAnd m1.2.1 (bXor (bShl 1 (cNum S nd 0)) (-1)), m1.2.2) _ _ _ _ _ (by omega) (by omega) (by omega) p0 m0 (moQ_fl hq (flAnd hq.1.1 hq.1.2 (by omega) (by omega))) (fs_at rfl) ((fs_off (by omega)).trans e2) (hF.then f165 (by omega) (by omega)) (by rw [he, hj, show 60 - (i + 1) = j by omega, cIt_s ns]; rw [cDo3 (by omega), if_neg (by omega)]) (by omega))
                      | (have ra := g.r4 (by omega)
                         exact ih (i + 1) (cNum S nd 0) m1 _ _ _ _ _ (by omega) (by omega) (by omega) p0 m0 hq e1 e2 hF (by rw [he, hj, show 60 - (i + 1) = j by omega, cIt_s ns]; rw [cDo4 (by omega)]) (by omega))
                      | (have ra := g.r5 (by omega)
                         exact ih (i + 1) (cNum S nd 1) m1 _ _ _ _ _ (by omega) (by omega) (by omega) p0 m0 hq e1 e2 hF (by rw [he, hj, show 60 - (i + 1) = j by omega, cIt_s ns]; rw [cDo5 (by omega), pif_t (show fon m1.2.1 (cNum S nd 0) by unfold fon; omega)]) (by omega))
                      | (have ra := g.r5 (by omega)
                         exact ih (i + 1) (nd + 1) m1 _ _ _ _ _ (by omega) (by omega) (by omega) p0 m0 hq e1 e2 hF (by rw [he, hj, show 60 - (i + 1) = j by omega, cIt_s ns]; rw [cDo5 (by omega), pif_f (show ¬ fon m1.2.1 (cNum S nd 0) by unfold fon; omega)]) (by omega))
                  · first | have rr := g.r4 (by omega) | have rr := g.r5 (by omega)
                    refine A.il8_7 dL_carries_187 ?_
                    refine A.iconst dL_carries_189 ?_
                    refine A.ic_ne dL_carries_190 (fun c190 => ?_) (fun c190 => ?_)
                    · refine A.il8_6 dL_carries_198 ?_
                      refine A.is8_3 dL_carries_200 ?_
                      refine A.goto dL_carries_201 ?_
                      obtain ⟨j, hj⟩ : ∃ j, 60 - i = j + 1 := ⟨60 - i - 1, by omega⟩
                      first
                        | (exfalso; omega)
                        | (have ra := g.r1 (by omega)
                           exact ih (i + 1) (nd + 1) (putM m1 (cNum S nd 1) (cNum S nd 0) (cNum S nd 2)) _ _ _ _ _ (by omega) (by omega) (by omega) p0 m0 (mpk_put hq (p := cNum S nd 1) (v := cNum S nd 0) (f := cNum S nd 2) (by omega) (by omega) (by omega) (by omega) (by omega) (by omega)).2 ((fs_off (by omega)).trans (e1.trans (put_fl _ _ _ _).symm)) ((fs_at rfl).trans (mpk_put hq (p := cNum S nd 1) (v := cNum S nd 0) (f := cNum S nd 2) (by omega) (by omega) (by omega) (by omega) (by omega) (by omega)).1) (hF.then f106 (by omega) (by omega)) (by rw [he, hj, show 60 - (i + 1) = j by omega, cIt_s ns]; rw [cDo1 (by omega)]) (by omega))
                        | (have ra := g.r2 (by omega)
                           exact ih (i + 1) (nd + 1) (hideM m1 (cNum S nd 0)) _ _ _ _ _ (by omega) (by omega) (by omega) p0 m0 (hidM_q hq _ 3) ((fs_off (by omega)).trans e1) (fs_at rfl) (hF.then f126 (by omega) (by omega)) (by rw [he, hj, show 60 - (i + 1) = j by omega, cIt_s ns]; rw [cDo2 (by omega)]) (by omega))
                        | (have ra := g.r3 (by omega)
                           exact ih (i + 1) (nd + 1) (m1.1, bOr m1.2.1 (bShl 1 (cNum S nd 0)), m1.2.2) _ _ _ _ _ (by omega) (by omega) (by omega) p0 m0 (moQ_fl hq (flOr hq.1.1 hq.1.2 (by omega) (by omega))) (fs_at rfl) ((fs_off (by omega)).trans e2) (hF.then f165 (by omega) (by omega)) (by rw [he, hj, show 60 - (i + 1) = j by omega, cIt_s ns]; rw [cDo3 (by omega), if_pos (by omega)]) (by omega))
                        | (have ra := g.r3 (by omega)
                           exact ih (i + 1) (nd + 1) (m1.1, bAnd m1.2.1 (bXor (bShl 1 (cNum S nd 0)) (-1)), m1.2.2) _ _ _ _ _ (by omega) (by omega) (by omega) p0 m0 (moQ_fl hq (flAnd hq.1.1 hq.1.2 (by omega) (by omega))) (fs_at rfl) ((fs_off (by omega)).trans e2) (hF.then f165 (by omega) (by omega)) (by rw [he, hj, show 60 - (i + 1) = j by omega, cIt_s ns]; rw [cDo3 (by omega), if_neg (by omega)]) (by omega))
                        | (have ra := g.r4 (by omega)
                           exact ih (i + 1) (cNum S nd 0) m1 _ _ _ _ _ (by omega) (by omega) (by omega) p0 m0 hq e1 e2 hF (by rw [he, hj, show 60 - (i + 1) = j by omega, cIt_s ns]; rw [cDo4 (by omega)]) (by omega))
                        | (have ra := g.r5 (by omega)
                           exact ih (i + 1) (cNum S nd 1) m1 _ _ _ _ _ (by omega) (by omega) (by omega) p0 m0 hq e1 e2 hF (by rw [he, hj, show 60 - (i + 1) = j by omega, cIt_s ns]; rw [cDo5 (by omega), pif_t (show fon m1.2.1 (cNum S nd 0) by unfold fon; omega)]) (by omega))
                        | (have ra := g.r5 (by omega)
                           exact ih (i + 1) (nd + 1) m1 _ _ _ _ _ (by omega) (by omega) (by omega) p0 m0 hq e1 e2 hF (by rw [he, hj, show 60 - (i + 1) = j by omega, cIt_s ns]; rw [cDo5 (by omega), pif_f (show ¬ fon m1.2.1 (cNum S nd 0) by unfold fon; omega)]) (by omega))
                    · refine A.il8_5 dL_carries_193 ?_
                      refine A.goto dL_carries_195 ?_
                      refine A.is8_3 dL_carries_200 ?_
                      refine A.goto dL_carries_201 ?_
                      obtain ⟨j, hj⟩ : ∃ j, 60 - i = j + 1 := ⟨60 - i - 1, by omega⟩
                      first
                        | (exfalso; omega)
                        | (have ra := g.r1 (by omega)
                           exact ih (i + 1) (nd + 1) (putM m1 (cNum S nd 1) (cNum S nd 0) (cNum S nd 2)) _ _ _ _ _ (by omega) (by omega) (by omega) p0 m0 (mpk_put hq (p := cNum S nd 1) (v := cNum S nd 0) (f := cNum S nd 2) (by omega) (by omega) (by omega) (by omega) (by omega) (by omega)).2 ((fs_off (by omega)).trans (e1.trans (put_fl _ _ _ _).symm)) ((fs_at rfl).trans (mpk_put hq (p := cNum S nd 1) (v := cNum S nd 0) (f := cNum S nd 2) (by omega) (by omega) (by omega) (by omega) (by omega) (by omega)).1) (hF.then f106 (by omega) (by omega)) (by rw [he, hj, show 60 - (i + 1) = j by omega, cIt_s ns]; rw [cDo1 (by omega)]) (by omega))
                        | (have ra := g.r2 (by omega)
                           exact ih (i + 1) (nd + 1) (hideM m1 (cNum S nd 0)) _ _ _ _ _ (by omega) (by omega) (by omega) p0 m0 (hidM_q hq _ 3) ((fs_off (by omega)).trans e1) (fs_at rfl) (hF.then f126 (by omega) (by omega)) (by rw [he, hj, show 60 - (i + 1) = j by omega, cIt_s ns]; rw [cDo2 (by omega)]) (by omega))
                        | (have ra := g.r3 (by omega)
                           exact ih (i + 1) (nd + 1) (m1.1, bOr m1.2.1 (bShl 1 (cNum S nd 0)), m1.2.2) _ _ _ _ _ (by omega) (by omega) (by omega) p0 m0 (moQ_fl hq (flOr hq.1.1 hq.1.2 (by omega) (by omega))) (fs_at rfl) ((fs_off (by omega)).trans e2) (hF.then f165 (by omega) (by omega)) (by rw [he, hj, show 60 - (i + 1) = j by omega, cIt_s ns]; rw [cDo3 (by omega), if_pos (by omega)]) (by omega))
                        | (have ra := g.r3 (by omega)
                           exact ih (i + 1) (nd + 1) (m1.1, bAnd m1.2.1 (bXor (bShl 1 (cNum S nd 0)) (-1)), m1.2.2) _ _ _ _ _ (by omega) (by omega) (by omega) p0 m0 (moQ_fl hq (flAnd hq.1.1 hq.1.2 (by omega) (by omega))) (fs_at rfl) ((fs_off (by omega)).trans e2) (hF.then f165 (by omega) (by omega)) (by rw [he, hj, show 60 - (i + 1) = j by omega, cIt_s ns]; rw [cDo3 (by omega), if_neg (by omega)]) (by omega))
                        | (have ra := g.r4 (by omega)
                           exact ih (i + 1) (cNum S nd 0) m1 _ _ _ _ _ (by omega) (by omega) (by omega) p0 m0 hq e1 e2 hF (by rw [he, hj, show 60 - (i + 1) = j by omega, cIt_s ns]; rw [cDo4 (by omega)]) (by omega))
                        | (have ra := g.r5 (by omega)
                           exact ih (i + 1) (cNum S nd 1) m1 _ _ _ _ _ (by omega) (by omega) (by omega) p0 m0 hq e1 e2 hF (by rw [he, hj, show 60 - (i + 1) = j by omega, cIt_s ns]; rw [cDo5 (by omega), pif_t (show fon m1.2.1 (cNum S nd 0) by unfold fon; omega)]) (by omega))
                        | (have ra := g.r5 (by omega)
                           exact ih (i + 1) (nd + 1) m1 _ _ _ _ _ (by omega) (by omega) (by omega) p0 m0 hq e1 e2 hF (by rw [he, hj, show 60 - (i + 1) = j by omega, cIt_s ns]; rw [cDo5 (by omega), pif_f (show ¬ fon m1.2.1 (cNum S nd 0) by unfold fon; omega)]) (by omega))
              · have rr := g.r3 (by omega)
                refine A.al8_1 dL_carries_136 ?_
                refine A.iconst dL_carries_137 ?_
                refine A.il8_6 dL_carries_138 ?_
                refine A.iconst dL_carries_140 ?_
                refine A.ic_ne dL_carries_141 (fun c141 => ?_) (fun c141 => ?_)
                · refine A.al8_1 dL_carries_155 ?_
                  refine A.iconst dL_carries_156 ?_
                  refine A.iald dL_carries_157 ?_ (hc := m0)
                  rw [e1]
                  refine A.iconst dL_carries_158 ?_
                  refine A.il8_5 dL_carries_159 ?_
                  refine A.ishl dL_carries_161 ?_
                  refine A.iconst dL_carries_162 ?_
                  refine A.ixor dL_carries_163 ?_
                  refine A.iand dL_carries_164 ?_
                  refine A.iast dL_carries_165 (fun h165 e165 f165 => ?_) (hc := m0)
                  first | (have p0 := (f165.2 _ (by omega)).trans p0) | (have p0 := e165)
                  first | (have m0 := (f165.2 _ (by omega)).trans m0) | (have m0 := e165)
                  refine A.goto dL_carries_166 ?_
                  refine A.goto dL_carries_201 ?_
                  obtain ⟨j, hj⟩ : ∃ j, 60 - i = j + 1 := ⟨60 - i - 1, by omega⟩
                  first
                    | (exfalso; omega)
                    | (have ra := g.r1 (by omega)
                       exact ih (i + 1) (nd + 1) (putM m1 (cNum S nd 1) (cNum S nd 0) (cNum S nd 2)) _ _ _ _ _ (by omega) (by omega) (by omega) p0 m0 (mpk_put hq (p := cNum S nd 1) (v := cNum S nd 0) (f := cNum S nd 2) (by omega) (by omega) (by omega) (by omega) (by omega) (by omega)).2 ((fs_off (by omega)).trans (e1.trans (put_fl _ _ _ _).symm)) ((fs_at rfl).trans (mpk_put hq (p := cNum S nd 1) (v := cNum S nd 0) (f := cNum S nd 2) (by omega) (by omega) (by omega) (by omega) (by omega) (by omega)).1) (hF.then f106 (by omega) (by omega)) (by rw [he, hj, show 60 - (i + 1) = j by omega, cIt_s ns]; rw [cDo1 (by omega)]) (by omega))
                    | (have ra := g.r2 (by omega)
                       exact ih (i + 1) (nd + 1) (hideM m1 (cNum S nd 0)) _ _ _ _ _ (by omega) (by omega) (by omega) p0 m0 (hidM_q hq _ 3) ((fs_off (by omega)).trans e1) (fs_at rfl) (hF.then f126 (by omega) (by omega)) (by rw [he, hj, show 60 - (i + 1) = j by omega, cIt_s ns]; rw [cDo2 (by omega)]) (by omega))
                    | (have ra := g.r3 (by omega)
                       exact ih (i + 1) (nd + 1) (m1.1, bOr m1.2.1 (bShl 1 (cNum S nd 0)), m1.2.2) _ _ _ _ _ (by omega) (by omega) (by omega) p0 m0 (moQ_fl hq (flOr hq.1.1 hq.1.2 (by omega) (by omega))) (fs_at rfl) ((fs_off (by omega)).trans e2) (hF.then f165 (by omega) (by omega)) (by rw [he, hj, show 60 - (i + 1) = j by omega, cIt_s ns]; rw [cDo3 (by omega), if_pos (by omega)]) (by omega))
                    | (have ra := g.r3 (by omega)
                       exact ih (i + 1) (nd + 1) (m1.1, bAnd m1.2.1 (bXor (bShl 1 (cNum S nd 0)) (-1)), m1.2.2) _ _ _ _ _ (by omega) (by omega) (by omega) p0 m0 (moQ_fl hq (flAnd hq.1.1 hq.1.2 (by omega) (by omega))) (fs_at rfl) ((fs_off (by omega)).trans e2) (hF.then f165 (by omega) (by omega)) (by rw [he, hj, show 60 - (i + 1) = j by omega, cIt_s ns]; rw [cDo3 (by omega), if_neg (by omega)]) (by omega))
                    | (have ra := g.r4 (by omega)
                       exact ih (i + 1) (cNum S nd 0) m1 _ _ _ _ _ (by omega) (by omega) (by omega) p0 m0 hq e1 e2 hF (by rw [he, hj, show 60 - (i + 1) = j by omega, cIt_s ns]; rw [cDo4 (by omega)]) (by omega))
                    | (have ra := g.r5 (by omega)
                       exact ih (i + 1) (cNum S nd 1) m1 _ _ _ _ _ (by omega) (by omega) (by omega) p0 m0 hq e1 e2 hF (by rw [he, hj, show 60 - (i + 1) = j by omega, cIt_s ns]; rw [cDo5 (by omega), pif_t (show fon m1.2.1 (cNum S nd 0) by unfold fon; omega)]) (by omega))
                    | (have ra := g.r5 (by omega)
                       exact ih (i + 1) (nd + 1) m1 _ _ _ _ _ (by omega) (by omega) (by omega) p0 m0 hq e1 e2 hF (by rw [he, hj, show 60 - (i + 1) = j by omega, cIt_s ns]; rw [cDo5 (by omega), pif_f (show ¬ fon m1.2.1 (cNum S nd 0) by unfold fon; omega)]) (by omega))
                · refine A.al8_1 dL_carries_144 ?_
                  refine A.iconst dL_carries_145 ?_
                  refine A.iald dL_carries_146 ?_ (hc := m0)
                  rw [e1]
                  refine A.iconst dL_carries_147 ?_
                  refine A.il8_5 dL_carries_148 ?_
                  refine A.ishl dL_carries_150 ?_
                  refine A.ior dL_carries_151 ?_
                  refine A.goto dL_carries_152 ?_
                  refine A.iast dL_carries_165 (fun h165 e165 f165 => ?_) (hc := m0)
                  first | (have p0 := (f165.2 _ (by omega)).trans p0) | (have p0 := e165)
                  first | (have m0 := (f165.2 _ (by omega)).trans m0) | (have m0 := e165)
                  refine A.goto dL_carries_166 ?_
                  refine A.goto dL_carries_201 ?_
                  obtain ⟨j, hj⟩ : ∃ j, 60 - i = j + 1 := ⟨60 - i - 1, by omega⟩
                  first
                    | (exfalso; omega)
                    | (have ra := g.r1 (by omega)
                       exact ih (i + 1) (nd + 1) (putM m1 (cNum S nd 1) (cNum S nd 0) (cNum S nd 2)) _ _ _ _ _ (by omega) (by omega) (by omega) p0 m0 (mpk_put hq (p := cNum S nd 1) (v := cNum S nd 0) (f := cNum S nd 2) (by omega) (by omega) (by omega) (by omega) (by omega) (by omega)).2 ((fs_off (by omega)).trans (e1.trans (put_fl _ _ _ _).symm)) ((fs_at rfl).trans (mpk_put hq (p := cNum S nd 1) (v := cNum S nd 0) (f := cNum S nd 2) (by omega) (by omega) (by omega) (by omega) (by omega) (by omega)).1) (hF.then f106 (by omega) (by omega)) (by rw [he, hj, show 60 - (i + 1) = j by omega, cIt_s ns]; rw [cDo1 (by omega)]) (by omega))
                    | (have ra := g.r2 (by omega)
                       exact ih (i + 1) (nd + 1) (hideM m1 (cNum S nd 0)) _ _ _ _ _ (by omega) (by omega) (by omega) p0 m0 (hidM_q hq _ 3) ((fs_off (by omega)).trans e1) (fs_at rfl) (hF.then f126 (by omega) (by omega)) (by rw [he, hj, show 60 - (i + 1) = j by omega, cIt_s ns]; rw [cDo2 (by omega)]) (by omega))
                    | (have ra := g.r3 (by omega)
                       exact ih (i + 1) (nd + 1) (m1.1, bOr m1.2.1 (bShl 1 (cNum S nd 0)), m1.2.2) _ _ _ _ _ (by omega) (by omega) (by omega) p0 m0 (moQ_fl hq (flOr hq.1.1 hq.1.2 (by omega) (by omega))) (fs_at rfl) ((fs_off (by omega)).trans e2) (hF.then f165 (by omega) (by omega)) (by rw [he, hj, show 60 - (i + 1) = j by omega, cIt_s ns]; rw [cDo3 (by omega), if_pos (by omega)]) (by omega))
                    | (have ra := g.r3 (by omega)
                       exact ih (i + 1) (nd + 1) (m1.1, bAnd m1.2.1 (bXor (bShl 1 (cNum S nd 0)) (-1)), m1.2.2) _ _ _ _ _ (by omega) (by omega) (by omega) p0 m0 (moQ_fl hq (flAnd hq.1.1 hq.1.2 (by omega) (by omega))) (fs_at rfl) ((fs_off (by omega)).trans e2) (hF.then f165 (by omega) (by omega)) (by rw [he, hj, show 60 - (i + 1) = j by omega, cIt_s ns]; rw [cDo3 (by omega), if_neg (by omega)]) (by omega))
                    | (have ra := g.r4 (by omega)
                       exact ih (i + 1) (cNum S nd 0) m1 _ _ _ _ _ (by omega) (by omega) (by omega) p0 m0 hq e1 e2 hF (by rw [he, hj, show 60 - (i + 1) = j by omega, cIt_s ns]; rw [cDo4 (by omega)]) (by omega))
                    | (have ra := g.r5 (by omega)
                       exact ih (i + 1) (cNum S nd 1) m1 _ _ _ _ _ (by omega) (by omega) (by omega) p0 m0 hq e1 e2 hF (by rw [he, hj, show 60 - (i + 1) = j by omega, cIt_s ns]; rw [cDo5 (by omega), pif_t (show fon m1.2.1 (cNum S nd 0) by unfold fon; omega)]) (by omega))
                    | (have ra := g.r5 (by omega)
                       exact ih (i + 1) (nd + 1) m1 _ _ _ _ _ (by omega) (by omega) (by omega) p0 m0 hq e1 e2 hF (by rw [he, hj, show 60 - (i + 1) = j by omega, cIt_s ns]; rw [cDo5 (by omega), pif_f (show ¬ fon m1.2.1 (cNum S nd 0) by unfold fon; omega)]) (by omega))
            · have rr := g.r2 (by omega)
              refine A.al8_1 dL_carries_116 ?_
              refine A.iconst dL_carries_117 ?_
              refine A.al8_1 dL_carries_118 ?_
              refine A.iconst dL_carries_119 ?_
              refine A.iald dL_carries_120 ?_ (hc := m0)
              rw [e2]
              refine A.il8_5 dL_carries_121 ?_
              refine A.s2 dL_carries_123 (sL_without hq (by omega) (by omega) (kS ?_))
              refine A.iast dL_carries_126 (fun h126 e126 f126 => ?_) (hc := m0)
              first | (have p0 := (f126.2 _ (by omega)).trans p0) | (have p0 := e126)
              first | (have m0 := (f126.2 _ (by omega)).trans m0) | (have m0 := e126)
              refine A.goto dL_carries_127 ?_
              refine A.goto dL_carries_201 ?_
              obtain ⟨j, hj⟩ : ∃ j, 60 - i = j + 1 := ⟨60 - i - 1, by omega⟩
              first
                | (exfalso; omega)
                | (have ra := g.r1 (by omega)
                   exact ih (i + 1) (nd + 1) (putM m1 (cNum S nd 1) (cNum S nd 0) (cNum S nd 2)) _ _ _ _ _ (by omega) (by omega) (by omega) p0 m0 (mpk_put hq (p := cNum S nd 1) (v := cNum S nd 0) (f := cNum S nd 2) (by omega) (by omega) (by omega) (by omega) (by omega) (by omega)).2 ((fs_off (by omega)).trans (e1.trans (put_fl _ _ _ _).symm)) ((fs_at rfl).trans (mpk_put hq (p := cNum S nd 1) (v := cNum S nd 0) (f := cNum S nd 2) (by omega) (by omega) (by omega) (by omega) (by omega) (by omega)).1) (hF.then f106 (by omega) (by omega)) (by rw [he, hj, show 60 - (i + 1) = j by omega, cIt_s ns]; rw [cDo1 (by omega)]) (by omega))
                | (have ra := g.r2 (by omega)
                   exact ih (i + 1) (nd + 1) (hideM m1 (cNum S nd 0)) _ _ _ _ _ (by omega) (by omega) (by omega) p0 m0 (hidM_q hq _ 3) ((fs_off (by omega)).trans e1) (fs_at rfl) (hF.then f126 (by omega) (by omega)) (by rw [he, hj, show 60 - (i + 1) = j by omega, cIt_s ns]; rw [cDo2 (by omega)]) (by omega))
                | (have ra := g.r3 (by omega)
                   exact ih (i + 1) (nd + 1) (m1.1, bOr m1.2.1 (bShl 1 (cNum S nd 0)), m1.2.2) _ _ _ _ _ (by omega) (by omega) (by omega) p0 m0 (moQ_fl hq (flOr hq.1.1 hq.1.2 (by omega) (by omega))) (fs_at rfl) ((fs_off (by omega)).trans e2) (hF.then f165 (by omega) (by omega)) (by rw [he, hj, show 60 - (i + 1) = j by omega, cIt_s ns]; rw [cDo3 (by omega), if_pos (by omega)]) (by omega))
                | (have ra := g.r3 (by omega)
                   exact ih (i + 1) (nd + 1) (m1.1, bAnd m1.2.1 (bXor (bShl 1 (cNum S nd 0)) (-1)), m1.2.2) _ _ _ _ _ (by omega) (by omega) (by omega) p0 m0 (moQ_fl hq (flAnd hq.1.1 hq.1.2 (by omega) (by omega))) (fs_at rfl) ((fs_off (by omega)).trans e2) (hF.then f165 (by omega) (by omega)) (by rw [he, hj, show 60 - (i + 1) = j by omega, cIt_s ns]; rw [cDo3 (by omega), if_neg (by omega)]) (by omega))
                | (have ra := g.r4 (by omega)
                   exact ih (i + 1) (cNum S nd 0) m1 _ _ _ _ _ (by omega) (by omega) (by omega) p0 m0 hq e1 e2 hF (by rw [he, hj, show 60 - (i + 1) = j by omega, cIt_s ns]; rw [cDo4 (by omega)]) (by omega))
                | (have ra := g.r5 (by omega)
                   exact ih (i + 1) (cNum S nd 1) m1 _ _ _ _ _ (by omega) (by omega) (by omega) p0 m0 hq e1 e2 hF (by rw [he, hj, show 60 - (i + 1) = j by omega, cIt_s ns]; rw [cDo5 (by omega), pif_t (show fon m1.2.1 (cNum S nd 0) by unfold fon; omega)]) (by omega))
                | (have ra := g.r5 (by omega)
                   exact ih (i + 1) (nd + 1) m1 _ _ _ _ _ (by omega) (by omega) (by omega) p0 m0 hq e1 e2 hF (by rw [he, hj, show 60 - (i + 1) = j by omega, cIt_s ns]; rw [cDo5 (by omega), pif_f (show ¬ fon m1.2.1 (cNum S nd 0) by unfold fon; omega)]) (by omega))
          · have rr := g.r1 (by omega)
            refine A.al8_1 dL_carries_63 ?_
            refine A.iconst dL_carries_64 ?_
            refine A.al8_1 dL_carries_65 ?_
            refine A.iconst dL_carries_66 ?_
            refine A.iald dL_carries_67 ?_ (hc := m0)
            rw [e2]
            refine A.il8_5 dL_carries_68 ?_
            refine A.s2 dL_carries_70 (sL_without hq (by omega) (by omega) (kS ?_))
            refine A.bipush dL_carries_73 ?_
            refine A.bipush dL_carries_75 ?_
            refine A.il8_6 dL_carries_77 ?_
            refine A.imul dL_carries_79 ?_
            refine A.ishl dL_carries_80 ?_
            refine A.iconst dL_carries_81 ?_
            refine A.ixor dL_carries_82 ?_
            refine A.iand dL_carries_83 ?_
            refine A.bipush dL_carries_84 ?_
            refine A.il8_5 dL_carries_86 ?_
            refine A.iconst dL_carries_88 ?_
            refine A.iadd dL_carries_89 ?_
            refine A.imul dL_carries_90 ?_
            refine A.al8_0 dL_carries_91 ?_
            refine A.iconst dL_carries_92 ?_
            refine A.il8_3 dL_carries_93 ?_
            refine A.imul dL_carries_94 ?_
            refine A.iconst dL_carries_95 ?_
            refine A.isub dL_carries_96 ?_
            refine A.iald dL_carries_97 ?_ (hc := p0)
            rw [q3]
            refine A.iadd dL_carries_98 ?_
            refine A.bipush dL_carries_99 ?_
            refine A.il8_6 dL_carries_101 ?_
            refine A.imul dL_carries_103 ?_
            refine A.ishl dL_carries_104 ?_
            refine A.ior dL_carries_105 ?_
            refine A.iast dL_carries_106 (fun h106 e106 f106 => ?_) (hc := m0)
            first | (have p0 := (f106.2 _ (by omega)).trans p0) | (have p0 := e106)
            first | (have m0 := (f106.2 _ (by omega)).trans m0) | (have m0 := e106)
            refine A.goto dL_carries_107 ?_
            refine A.goto dL_carries_201 ?_
            obtain ⟨j, hj⟩ : ∃ j, 60 - i = j + 1 := ⟨60 - i - 1, by omega⟩
            first
              | (exfalso; omega)
              | (have ra := g.r1 (by omega)
                 exact ih (i + 1) (nd + 1) (putM m1 (cNum S nd 1) (cNum S nd 0) (cNum S nd 2)) _ _ _ _ _ (by omega) (by omega) (by omega) p0 m0 (mpk_put hq (p := cNum S nd 1) (v := cNum S nd 0) (f := cNum S nd 2) (by omega) (by omega) (by omega) (by omega) (by omega) (by omega)).2 ((fs_off (by omega)).trans (e1.trans (put_fl _ _ _ _).symm)) ((fs_at rfl).trans (mpk_put hq (p := cNum S nd 1) (v := cNum S nd 0) (f := cNum S nd 2) (by omega) (by omega) (by omega) (by omega) (by omega) (by omega)).1) (hF.then f106 (by omega) (by omega)) (by rw [he, hj, show 60 - (i + 1) = j by omega, cIt_s ns]; rw [cDo1 (by omega)]) (by omega))
              | (have ra := g.r2 (by omega)
                 exact ih (i + 1) (nd + 1) (hideM m1 (cNum S nd 0)) _ _ _ _ _ (by omega) (by omega) (by omega) p0 m0 (hidM_q hq _ 3) ((fs_off (by omega)).trans e1) (fs_at rfl) (hF.then f126 (by omega) (by omega)) (by rw [he, hj, show 60 - (i + 1) = j by omega, cIt_s ns]; rw [cDo2 (by omega)]) (by omega))
              | (have ra := g.r3 (by omega)
                 exact ih (i + 1) (nd + 1) (m1.1, bOr m1.2.1 (bShl 1 (cNum S nd 0)), m1.2.2) _ _ _ _ _ (by omega) (by omega) (by omega) p0 m0 (moQ_fl hq (flOr hq.1.1 hq.1.2 (by omega) (by omega))) (fs_at rfl) ((fs_off (by omega)).trans e2) (hF.then f165 (by omega) (by omega)) (by rw [he, hj, show 60 - (i + 1) = j by omega, cIt_s ns]; rw [cDo3 (by omega), if_pos (by omega)]) (by omega))
              | (have ra := g.r3 (by omega)
                 exact ih (i + 1) (nd + 1) (m1.1, bAnd m1.2.1 (bXor (bShl 1 (cNum S nd 0)) (-1)), m1.2.2) _ _ _ _ _ (by omega) (by omega) (by omega) p0 m0 (moQ_fl hq (flAnd hq.1.1 hq.1.2 (by omega) (by omega))) (fs_at rfl) ((fs_off (by omega)).trans e2) (hF.then f165 (by omega) (by omega)) (by rw [he, hj, show 60 - (i + 1) = j by omega, cIt_s ns]; rw [cDo3 (by omega), if_neg (by omega)]) (by omega))
              | (have ra := g.r4 (by omega)
                 exact ih (i + 1) (cNum S nd 0) m1 _ _ _ _ _ (by omega) (by omega) (by omega) p0 m0 hq e1 e2 hF (by rw [he, hj, show 60 - (i + 1) = j by omega, cIt_s ns]; rw [cDo4 (by omega)]) (by omega))
              | (have ra := g.r5 (by omega)
                 exact ih (i + 1) (cNum S nd 1) m1 _ _ _ _ _ (by omega) (by omega) (by omega) p0 m0 hq e1 e2 hF (by rw [he, hj, show 60 - (i + 1) = j by omega, cIt_s ns]; rw [cDo5 (by omega), pif_t (show fon m1.2.1 (cNum S nd 0) by unfold fon; omega)]) (by omega))
              | (have ra := g.r5 (by omega)
                 exact ih (i + 1) (nd + 1) m1 _ _ _ _ _ (by omega) (by omega) (by omega) p0 m0 hq e1 e2 hF (by rw [he, hj, show 60 - (i + 1) = j by omega, cIt_s ns]; rw [cDo5 (by omega), pif_f (show ¬ fon m1.2.1 (cNum S nd 0) by unfold fon; omega)]) (by omega))
        · refine A.al8_1 dL_carries_20 ?_
          refine A.iconst dL_carries_21 ?_
          refine A.bipush dL_carries_22 ?_
          refine A.iast dL_carries_24 (fun h24 e24 f24 => ?_) (hc := m0)
          first | (have p0 := (f24.2 _ (by omega)).trans p0) | (have p0 := e24)
          first | (have m0 := (f24.2 _ (by omega)).trans m0) | (have m0 := e24)
          refine A.vret dL_carries_25 ?_
          have ns := lSK_n hB n0 (by omega)
          have hz : cCome S m v = (30, m1.2) := by unfold cCome; rw [he, show 60 - i = 0 by omega]; show (pif (cShown S nd) nd 30, m1.2) = _; rw [pif_f ns]
          exact k _ _ m0 (by rw [hz]; exact ⟨fs_at rfl, (fs_off (by decide)).trans e1, (fs_off (by decide)).trans e2⟩) (by rw [hz]; exact hq) (hF.then f24 (by omega) (by omega))
  refine A.il8_2 dL_carries_0 ?_
  refine A.is8_3 dL_carries_1 ?_
  refine A.iconst dL_carries_2 ?_
  refine A.is8_4 dL_carries_3 ?_
  exact loop 61 0 v m fm _ _ _ h (by omega) v0 v1 p0 m0 hq e1 e2 Fr.rfl rfl (by omega)
