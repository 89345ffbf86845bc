/-! ===== Moment: what nodes do ===== -/
set_option maxRecDepth 100000 in
set_option maxHeartbeats 4000000 in
theorem s1_carryOut {d : Nat} {h : AH} {R : RP} {v : Int} {a b : Nat} {m : MO} {S : SC} (hM : moAt h a m) (hS : scAt h b S) (hd : a + 3 ≤ b ∨ b + 6 ≤ a) (h0 : 0 ≤ v) (h1 : v ≤ 100) (k : ∀ h', moAt h' a (cDo S m v).1 → Fr h h' a 3 → R (some (vI (cDo S m v).2)) h') : AM m1_carryOut (d + 2) h [vR a, vR b, vI v] R := by
  refine AM.of (L := [some (vR a), some (vR b), some (vI v), none, none]) ok_1_carryOut (by decide) (fun G => Nat.le_of_ble_eq_true rfl) rfl ?_
  refine A.al5_1 d1_carryOut_0 ?_
  refine A.il5_2 d1_carryOut_1 ?_
  refine A.iconst d1_carryOut_2 ?_
  refine A.v2 d1_carryOut_3 (s3_numberOf hS (kS ?_)) (hc := hS.1)
  refine A.is5_3 d1_carryOut_6 ?_
  refine A.al5_1 d1_carryOut_7 ?_
  refine A.il5_2 d1_carryOut_8 ?_
  refine A.iconst d1_carryOut_9 ?_
  refine A.v2 d1_carryOut_10 (s3_numberOf hS (kS ?_)) (hc := hS.1)
  refine A.is5_4 d1_carryOut_13 ?_
  refine A.al5_1 d1_carryOut_15 ?_
  refine A.il5_2 d1_carryOut_16 ?_
  refine A.v1 d1_carryOut_17 (s3_kindOf hS (kS ?_)) (hc := hS.1)
  refine A.tsw5 d1_carryOut_20 (fun c20 => ?_) (fun c20 => ?_) (fun c20 => ?_) (fun c20 => ?_) (fun c20 => ?_) (fun c20 => ?_)
  · refine A.al5_0 d1_carryOut_56 ?_
    refine A.il5_4 d1_carryOut_57 ?_
    refine A.il5_3 d1_carryOut_59 ?_
    refine A.al5_1 d1_carryOut_60 ?_
    refine A.il5_2 d1_carryOut_61 ?_
    refine A.iconst d1_carryOut_62 ?_
    refine A.v2 d1_carryOut_63 (s3_numberOf hS (kS ?_)) (hc := hS.1)
    refine A.v3 d1_carryOut_66 (s1_putAt hM (fun h66 hM2 f66 => kN ?_)) (hc := hM.1)
    refine A.il5_2 d1_carryOut_69 ?_
    refine A.iconst d1_carryOut_70 ?_
    refine A.iadd d1_carryOut_71 ?_
    refine A.iret d1_carryOut_72 ?_
    have e : cDo S m v = (putM m (cNum S v 1) (cNum S v 0) (cNum S v 2), v + 1) := by unfold cDo; rw [if_pos (by omega)]
    rw [e] at k
    exact k _ hM2 f66
  · refine A.al5_0 d1_carryOut_73 ?_
    refine A.il5_3 d1_carryOut_74 ?_
    refine A.v1 d1_carryOut_75 (s1_hide hM (fun h75 hM2 f75 => kN ?_)) (hc := hM.1)
    refine A.il5_2 d1_carryOut_78 ?_
    refine A.iconst d1_carryOut_79 ?_
    refine A.iadd d1_carryOut_80 ?_
    refine A.iret d1_carryOut_81 ?_
    have e : cDo S m v = (hideM m (cNum S v 0), v + 1) := by unfold cDo; rw [if_neg (by omega), if_pos (by omega)]
    rw [e] at k
    exact k _ hM2 f75
  · refine A.al5_0 d1_carryOut_82 ?_
    refine A.il5_4 d1_carryOut_83 ?_
    refine A.iconst d1_carryOut_85 ?_
    refine A.ic_ne d1_carryOut_86 (fun c86 => ?_) (fun c86 => ?_)
    · refine A.al5_0 d1_carryOut_100 ?_
      refine A.getf d1_carryOut_101 ?_ (hc := hM.1)
      refine A.iconst d1_carryOut_104 ?_
      refine A.il5_3 d1_carryOut_105 ?_
      refine A.ishl d1_carryOut_106 ?_
      refine A.iconst d1_carryOut_107 ?_
      refine A.ixor d1_carryOut_108 ?_
      refine A.iand d1_carryOut_109 ?_
      refine A.putf d1_carryOut_110 (fun h110 e110 f110 => ?_) (hc := hM.1) (hk := blt_ok rfl)
      refine A.il5_2 d1_carryOut_113 ?_
      refine A.iconst d1_carryOut_114 ?_
      refine A.iadd d1_carryOut_115 ?_
      refine A.iret d1_carryOut_116 ?_
      have e : cDo S m v = ((m.1, (if cNum S v 1 = 1 then bOr m.2.1 (bShl 1 (cNum S v 0)) else bAnd m.2.1 (bXor (bShl 1 (cNum S v 0)) (-1))), m.2.2), v + 1) := by unfold cDo; rw [if_neg (by omega), if_neg (by omega), if_pos (by omega)]
      rw [e] at k
      first | (rw [if_pos c86] at k; exact k _ ⟨e110, f110.get hM.2.1 (by omega), f110.get hM.2.2 (by omega)⟩ (f110.wide (by omega) (by omega))) | (rw [if_neg c86] at k; exact k _ ⟨e110, f110.get hM.2.1 (by omega), f110.get hM.2.2 (by omega)⟩ (f110.wide (by omega) (by omega)))
    · refine A.al5_0 d1_carryOut_89 ?_
      refine A.getf d1_carryOut_90 ?_ (hc := hM.1)
      refine A.iconst d1_carryOut_93 ?_
      refine A.il5_3 d1_carryOut_94 ?_
      refine A.ishl d1_carryOut_95 ?_
      refine A.ior d1_carryOut_96 ?_
      refine A.goto d1_carryOut_97 ?_
      refine A.putf d1_carryOut_110 (fun h110 e110 f110 => ?_) (hc := hM.1) (hk := blt_ok rfl)
      refine A.il5_2 d1_carryOut_113 ?_
      refine A.iconst d1_carryOut_114 ?_
      refine A.iadd d1_carryOut_115 ?_
      refine A.iret d1_carryOut_116 ?_
      have e : cDo S m v = ((m.1, (if cNum S v 1 = 1 then bOr m.2.1 (bShl 1 (cNum S v 0)) else bAnd m.2.1 (bXor (bShl 1 (cNum S v 0)) (-1))), m.2.2), v + 1) := by unfold cDo; rw [if_neg (by omega), if_neg (by omega), if_pos (by omega)]
      rw [e] at k
      first | (rw [if_pos c86] at k; exact k _ ⟨e110, f110.get hM.2.1 (by omega), f110.get hM.2.2 (by omega)⟩ (f110.wide (by omega) (by omega))) | (rw [if_neg c86] at k; exact k _ ⟨e110, f110.get hM.2.1 (by omega), f110.get hM.2.2 (by omega)⟩ (f110.wide (by omega) (by omega)))
  · refine A.il5_3 d1_carryOut_117 ?_
    refine A.iret d1_carryOut_118 ?_
    have e : cDo S m v = (m, cNum S v 0) := by unfold cDo; rw [if_neg (by omega), if_neg (by omega), if_neg (by omega), if_pos (by omega)]
    rw [e] at k
    exact k _ hM Fr.rfl
  · refine A.al5_0 d1_carryOut_119 ?_
    refine A.getf d1_carryOut_120 ?_ (hc := hM.1)
    refine A.il5_3 d1_carryOut_123 ?_
    refine A.ishr d1_carryOut_124 ?_
    refine A.iconst d1_carryOut_125 ?_
    refine A.iand d1_carryOut_126 ?_
    refine A.iconst d1_carryOut_127 ?_
    refine A.ic_ne d1_carryOut_128 (fun c128 => ?_) (fun c128 => ?_)
    · refine A.il5_2 d1_carryOut_136 ?_
      refine A.iconst d1_carryOut_137 ?_
      refine A.iadd d1_carryOut_138 ?_
      refine A.iret d1_carryOut_139 ?_
      have e : cDo S m v = (m, pif (fon m.2.1 (cNum S v 0)) (cNum S v 1) (v + 1)) := by unfold cDo; rw [if_neg (by omega), if_neg (by omega), if_neg (by omega), if_neg (by omega), if_pos (by omega)]
      rw [e] at k
      first | (rw [show pif (fon m.2.1 (cNum S v 0)) (cNum S v 1) (v + 1) = cNum S v 1 from pif_t c128] at k; exact k _ hM Fr.rfl) | (rw [show pif (fon m.2.1 (cNum S v 0)) (cNum S v 1) (v + 1) = v + 1 from pif_f c128] at k; exact k _ hM Fr.rfl)
    · refine A.il5_4 d1_carryOut_131 ?_
      refine A.goto d1_carryOut_133 ?_
      refine A.iret d1_carryOut_139 ?_
      have e : cDo S m v = (m, pif (fon m.2.1 (cNum S v 0)) (cNum S v 1) (v + 1)) := by unfold cDo; rw [if_neg (by omega), if_neg (by omega), if_neg (by omega), if_neg (by omega), if_pos (by omega)]
      rw [e] at k
      first | (rw [show pif (fon m.2.1 (cNum S v 0)) (cNum S v 1) (v + 1) = cNum S v 1 from pif_t c128] at k; exact k _ hM Fr.rfl) | (rw [show pif (fon m.2.1 (cNum S v 0)) (cNum S v 1) (v + 1) = v + 1 from pif_f c128] at k; exact k _ hM Fr.rfl)
  · refine A.il5_2 d1_carryOut_140 ?_
    refine A.iconst d1_carryOut_141 ?_
    refine A.iadd d1_carryOut_142 ?_
    refine A.iret d1_carryOut_143 ?_
    have e : cDo S m v = (m, v + 1) := by unfold cDo; rw [if_neg (by omega), if_neg (by omega), if_neg (by omega), if_neg (by omega), if_neg (by omega)]
    rw [e] at k
    exact k _ hM Fr.rfl
set_option maxRecDepth 100000 in
set_option maxHeartbeats 4000000 in
theorem s1_comeFrom {d : Nat} {h : AH} {R : RP} {v : Int} {a b : Nat} {m : MO} {S : SC} (hM : moAt h a m) (hS : scAt h b S) (hd : a + 3 ≤ b ∨ b + 6 ≤ a) (k : ∀ h', moAt h' a (cCome S m v) → Fr h h' a 3 → R none h') : AM m1_comeFrom (d + 3) h [vR a, vR b, vI v] R := by
  refine AM.of (L := [some (vR a), some (vR b), some (vI v), none, none]) ok_1_comeFrom (by decide) (fun G => Nat.le_of_ble_eq_true rfl) rfl ?_
  have loop : ∀ (nf : Nat) (i : Nat) (x : MO × Int) (h1 : AH) (hi : i ≤ 60) (hM : moAt h1 a x.1) (hS : scAt h1 b S) (hF : Fr h h1 a 3) (hx : cIt S 60 (m, v) = cIt S (60 - i) x) (hn : 60 - i < nf), AW m1_comeFrom (d + 3) (mC m1_comeFrom, mS m1_comeFrom) 5 [some (vR a), some (vR b), some (vI v), some (vI x.2), some (vI i)] [] h1 R := by
    intro nf
    induction nf with
    | zero => intro i  x  h1  hi hM hS hF hx hn; omega
    | succ nf ih =>
      intro i  x  h1  hi hM hS hF hx hn
      have hfin : cIt S (60 - i) x = x → ∀ (h2 : AH), h2.2 a = some (kO 1 [vI (pif (cShown S x.2) x.2 30), vI x.1.2.1, vR (a + 1), vR (a + 2)]) → Fr h1 h2 a 3 → h2.2 (a + 1) = some (kA 0 3 x.1.2.2.1) → h2.2 (a + 2) = some (kA 0 3 x.1.2.2.2) → R none h2 := by
        intro e h2 q0 q1 q2 q3
        refine k h2 ?_ (hF.then q1 (by omega) (by omega))
        unfold cCome
        rw [hx, e]
        exact ⟨q0, q2, q3⟩
      refine A.il5_4 d1_comeFrom_5 ?_
      refine A.bipush d1_comeFrom_7 ?_
      refine A.ic_ge d1_comeFrom_9 (fun c9 => ?_) (fun c9 => ?_)
      · refine A.al5_0 d1_comeFrom_33 ?_
        refine A.al5_1 d1_comeFrom_34 ?_
        refine A.il5_3 d1_comeFrom_35 ?_
        refine A.v1 d1_comeFrom_36 (s3_isShown hS (kS ?_)) (hc := hS.1)
        refine A.bz_eq d1_comeFrom_39 (fun c39 => ?_) (fun c39 => ?_)
        · refine A.bipush d1_comeFrom_46 ?_
          refine A.putf d1_comeFrom_48 (fun h48 e48 f48 => ?_) (hc := hM.1) (hk := blt_ok rfl)
          refine A.vret d1_comeFrom_51 ?_
          first | exact hfin (by first | (rw [show 60 - i = 0 by omega]; rfl) | (obtain ⟨j, hj⟩ : ∃ j, 60 - i = j + 1 := ⟨60 - i - 1, by omega⟩; rw [hj]; exact pif_t c17)) _ (by first | (rw [pif_t c39]; exact e48) | (rw [pif_f c39]; exact e48)) (f48.wide (by omega) (by omega)) (f48.get hM.2.1 (by omega)) (f48.get hM.2.2 (by omega)) | exact absurd c17 c39
        · refine A.il5_3 d1_comeFrom_42 ?_
          refine A.goto d1_comeFrom_43 ?_
          refine A.putf d1_comeFrom_48 (fun h48 e48 f48 => ?_) (hc := hM.1) (hk := blt_ok rfl)
          refine A.vret d1_comeFrom_51 ?_
          first | exact hfin (by first | (rw [show 60 - i = 0 by omega]; rfl) | (obtain ⟨j, hj⟩ : ∃ j, 60 - i = j + 1 := ⟨60 - i - 1, by omega⟩; rw [hj]; exact pif_t c17)) _ (by first | (rw [pif_t c39]; exact e48) | (rw [pif_f c39]; exact e48)) (f48.wide (by omega) (by omega)) (f48.get hM.2.1 (by omega)) (f48.get hM.2.2 (by omega)) | exact absurd c17 c39
      · refine A.al5_1 d1_comeFrom_12 ?_
        refine A.il5_3 d1_comeFrom_13 ?_
        refine A.v1 d1_comeFrom_14 (s3_isShown hS (kS ?_)) (hc := hS.1)
        refine A.bz_ne d1_comeFrom_17 (fun c17 => ?_) (fun c17 => ?_)
        · refine A.al5_0 d1_comeFrom_33 ?_
          refine A.al5_1 d1_comeFrom_34 ?_
          refine A.il5_3 d1_comeFrom_35 ?_
          refine A.v1 d1_comeFrom_36 (s3_isShown hS (kS ?_)) (hc := hS.1)
          refine A.bz_eq d1_comeFrom_39 (fun c39 => ?_) (fun c39 => ?_)
          · refine A.bipush d1_comeFrom_46 ?_
            refine A.putf d1_comeFrom_48 (fun h48 e48 f48 => ?_) (hc := hM.1) (hk := blt_ok rfl)
            refine A.vret d1_comeFrom_51 ?_
            first | exact hfin (by first | (rw [show 60 - i = 0 by omega]; rfl) | (obtain ⟨j, hj⟩ : ∃ j, 60 - i = j + 1 := ⟨60 - i - 1, by omega⟩; rw [hj]; exact pif_t c17)) _ (by first | (rw [pif_t c39]; exact e48) | (rw [pif_f c39]; exact e48)) (f48.wide (by omega) (by omega)) (f48.get hM.2.1 (by omega)) (f48.get hM.2.2 (by omega)) | exact absurd c17 c39
          · refine A.il5_3 d1_comeFrom_42 ?_
            refine A.goto d1_comeFrom_43 ?_
            refine A.putf d1_comeFrom_48 (fun h48 e48 f48 => ?_) (hc := hM.1) (hk := blt_ok rfl)
            refine A.vret d1_comeFrom_51 ?_
            first | exact hfin (by first | (rw [show 60 - i = 0 by omega]; rfl) | (obtain ⟨j, hj⟩ : ∃ j, 60 - i = j + 1 := ⟨60 - i - 1, by omega⟩; rw [hj]; exact pif_t c17)) _ (by first | (rw [pif_t c39]; exact e48) | (rw [pif_f c39]; exact e48)) (f48.wide (by omega) (by omega)) (f48.get hM.2.1 (by omega)) (f48.get hM.2.2 (by omega)) | exact absurd c17 c39
        · have hb : 0 ≤ x.2 ∧ x.2 < 29 := by
            have q := c17
            unfold cShown cKind at q
            refine Classical.byContradiction fun z => q ?_
            rw [if_neg (by omega)]
            exact Or.inl rfl
          refine A.al5_0 d1_comeFrom_20 ?_
          refine A.al5_1 d1_comeFrom_21 ?_
          refine A.il5_3 d1_comeFrom_22 ?_
          refine A.v2 d1_comeFrom_23 (s1_carryOut hM hS hd hb.1 (by omega) (fun h23 hM2 f23 => kS ?_)) (hc := hM.1)
          refine A.is5_3 d1_comeFrom_26 ?_
          refine A.ii5_4 d1_comeFrom_27 ?_
          refine A.goto d1_comeFrom_30 ?_
          refine ih (i + 1) (cDo S x.1 x.2) h23 (by omega) hM2 (hS.fr f23 (by omega)) (hF.then f23 (by omega) (by omega)) ?_ (by omega)
          rw [hx]
          obtain ⟨j, hj⟩ : ∃ j, 60 - i = j + 1 := ⟨60 - i - 1, by omega⟩
          rw [hj, show 60 - (i + 1) = j by omega]
          exact pif_f c17
  refine A.il5_2 d1_comeFrom_0 ?_
  refine A.is5_3 d1_comeFrom_1 ?_
  refine A.iconst d1_comeFrom_2 ?_
  refine A.is5_4 d1_comeFrom_3 ?_
  exact loop 61 0 (m, v) h (by omega) hM hS Fr.rfl rfl (by omega)
