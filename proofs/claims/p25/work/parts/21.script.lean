/-! ===== Script: writes; what is unlocked ===== -/
noncomputable def pif {α : Type} (P : Prop) (a b : α) : α := @ite α P (Classical.propDecidable P) a b
theorem pif_t {α : Type} {P : Prop} {a b : α} (h : P) : pif P a b = a := @if_pos P (Classical.propDecidable P) h α a b
theorem pif_f {α : Type} {P : Prop} {a b : α} (h : ¬ P) : pif P a b = b := @if_neg P (Classical.propDecidable P) h α a b
noncomputable def oSum (S : SC) (v fl : Int) : Nat → Int
  | 0 => 0
  | k + 1 => pif (cOpen S v k fl) (bOr (oSum S v fl k) (bShl 1 k)) (oSum S v fl k)
noncomputable def cOS (S : SC) (v fl : Int) : Int := if cKind S v = 6 then oSum S v fl 4 else -11
set_option maxRecDepth 100000 in
set_option maxHeartbeats 4000000 in
theorem s3_openOptions {d : Nat} {h : AH} {R : RP} {v fl : Int} {a : Nat} {S : SC} (hS : scAt h a S) (k : R (some (vI (cOS S v fl))) h) : AM m3_openOptions (d + 3) h [vR a, vI v, vI fl] R := by
  refine AM.of (L := [some (vR a), some (vI v), some (vI fl), none, none]) ok_3_openOptions (by decide) (fun G => Nat.le_of_ble_eq_true rfl) rfl ?_
  have loop : ∀ (nf : Nat) (i : Nat) (c7 : cKind S v = 6) (hi : i ≤ 4) (hn : 4 - i < nf), AW m3_openOptions (d + 3) (mC m3_openOptions, mS m3_openOptions) 18 [some (vR a), some (vI v), some (vI fl), some (vI (oSum S v fl i)), some (vI i)] [] h R := by
    intro nf
    induction nf with
    | zero => intro i  c7 hi hn; omega
    | succ nf ih =>
      intro i  c7 hi hn
      refine A.il5_4 d3_openOptions_18 ?_
      refine A.iconst d3_openOptions_20 ?_
      refine A.ic_ge d3_openOptions_21 (fun c21 => ?_) (fun c21 => ?_)
      · refine A.il5_3 d3_openOptions_48 ?_
        refine A.iret d3_openOptions_49 ?_
        have e : i = 4 := by omega
        subst e
        exact rI k (by unfold cOS; rw [if_pos (by omega)])
      · refine A.al5_0 d3_openOptions_24 ?_
        refine A.il5_1 d3_openOptions_25 ?_
        refine A.il5_4 d3_openOptions_26 ?_
        refine A.il5_2 d3_openOptions_28 ?_
        refine A.v3 d3_openOptions_29 (s3_isOpen hS (kS ?_)) (hc := hS.1)
        refine A.bz_eq d3_openOptions_32 (fun c32 => ?_) (fun c32 => ?_)
        · refine A.ii5_4 d3_openOptions_42 ?_
          refine A.goto d3_openOptions_45 ?_
          have g := ih (i + 1) c7 (by omega) (by omega)
          first | rw [show oSum S v fl (i + 1) = bOr (oSum S v fl i) (bShl 1 i) from pif_t c32] at g | rw [show oSum S v fl (i + 1) = oSum S v fl i from pif_f c32] at g
          exact g
        · refine A.il5_3 d3_openOptions_35 ?_
          refine A.iconst d3_openOptions_36 ?_
          refine A.il5_4 d3_openOptions_37 ?_
          refine A.ishl d3_openOptions_39 ?_
          refine A.ior d3_openOptions_40 ?_
          refine A.is5_3 d3_openOptions_41 ?_
          refine A.ii5_4 d3_openOptions_42 ?_
          refine A.goto d3_openOptions_45 ?_
          have g := ih (i + 1) c7 (by omega) (by omega)
          first | rw [show oSum S v fl (i + 1) = bOr (oSum S v fl i) (bShl 1 i) from pif_t c32] at g | rw [show oSum S v fl (i + 1) = oSum S v fl i from pif_f c32] at g
          exact g
  refine A.al5_0 d3_openOptions_0 ?_
  refine A.il5_1 d3_openOptions_1 ?_
  refine A.v1 d3_openOptions_2 (s3_kindOf hS (kS ?_)) (hc := hS.1)
  refine A.bipush d3_openOptions_5 ?_
  refine A.ic_eq d3_openOptions_7 (fun c7 => ?_) (fun c7 => ?_)
  · refine A.iconst d3_openOptions_13 ?_
    refine A.is5_3 d3_openOptions_14 ?_
    refine A.iconst d3_openOptions_15 ?_
    refine A.is5_4 d3_openOptions_16 ?_
    exact loop 5 0 (by omega) (by omega) (by omega)
  · refine A.bipush d3_openOptions_10 ?_
    refine A.iret d3_openOptions_12 ?_
    exact rI k (by unfold cOS; rw [if_neg (by omega)])
