/-! ===== the law: options, ends, moments kept ===== -/
theorem pNode.o {fp : FN} {S : SC} {v : Int} (h : pNode fp S v) (hk : cKind S v = 6) : fp (4 * v + 1) = cOpts S v ∧ ∀ o : Int, 0 ≤ o → o < cOpts S v → bAnd (bShr (fp (4 * v + 2)) (5 * o)) 31 = cPart S v o 0 ∧ bAnd (bShr (fp (4 * v + 3)) (4 * o)) 15 = lkc (cPart S v o 1, cPart S v o 2) := h.2.2 hk
/-- an option's lock in its two forms -/
theorem lk_form {S : SC} {B : FN} {v o : Int} (hB : rScr B S) (v0 : 0 ≤ v) (v1 : v < S.1) (hk : cKind S v = 6) (o0 : 0 ≤ o) (o1 : o < cOpts S v) : (cPart S v o 1 = 0 ∧ lkc (cPart S v o 1, cPart S v o 2) = 0) ∨ ((cPart S v o 1 = 1 ∨ cPart S v o 1 = 2) ∧ (0 ≤ cPart S v o 2 ∧ cPart S v o 2 ≤ 5) ∧ lkc (cPart S v o 1, cPart S v o 2) = cPart S v o 1 + 2 * cPart S v o 2) := by
  have g := ((hB.2 v v0 v1).r6 hk).2.2 o o0 o1
  obtain ⟨-, -, -, g4⟩ := g
  rcases g4 with ⟨a, b⟩ | ⟨a, b⟩
  · exact Or.inl ⟨a, if_pos a⟩
  · exact Or.inr ⟨a, b, if_neg (by show ¬ cPart S v o 1 = 0; omega)⟩
theorem open_0 {S : SC} {v o fl : Int} (o0 : 0 ≤ o) (o1 : o < cOpts S v) (h : cPart S v o 1 = 0) : cOpen S v o fl := ⟨o0, o1, Or.inl h⟩
theorem open_1 {S : SC} {v o fl : Int} (o0 : 0 ≤ o) (o1 : o < cOpts S v) (h : cPart S v o 1 = 1) : cOpen S v o fl ↔ fon fl (cPart S v o 2) :=
  ⟨fun z => by rcases z.2.2 with q | q
               · omega
               · exact q.2 h, fun z => ⟨o0, o1, Or.inr ⟨fun _ => h, fun _ => z⟩⟩⟩
theorem open_2 {S : SC} {v o fl : Int} (o0 : 0 ≤ o) (o1 : o < cOpts S v) (h : cPart S v o 1 = 2) : cOpen S v o fl ↔ ¬ fon fl (cPart S v o 2) :=
  ⟨fun z y => by rcases z.2.2 with q | q
                 · omega
                 · have := q.1 y; omega, fun z => ⟨o0, o1, Or.inr ⟨fun y => absurd y z, fun y => by omega⟩⟩⟩
set_option maxRecDepth 100000 in
set_option maxHeartbeats 4000000 in
theorem sL_isOpen {d : Nat} {h : AH} {R : RP} {v o fl : Int} {a : Nat} {fp : FN} {S : SC} {B : FN} (p0 : h.2 a = some (kA 0 64 fp)) (hp : pRel fp S) (hB : rScr B S) (v0 : 0 ≤ v) (v1 : v < S.1) (hk : cKind S v = 6) (o0 : 0 ≤ o) (o1 : o < cOpts S v) (k : R (some (vI (bi (cOpen S v o fl)))) h) : AM mL_isOpen (d) h [vR a, vI v, vI o, vI fl] R := by
  refine AM.of (L := [some (vR a), some (vI v), some (vI o), some (vI fl), none, none]) ok_L_isOpen (by decide) (fun G => Nat.le_of_ble_eq_true rfl) rfl ?_
  have hp2 := hp.2.1
  have g6 := ((hB.2 v v0 v1).r6 hk).2.1
  have q := (((hp.2.2 v v0 v1).o hk).2 o o0 o1).2
  have lk := lk_form hB v0 v1 hk o0 o1
  have lr : 0 ≤ lkc (cPart S v o 1, cPart S v o 2) ∧ lkc (cPart S v o 1, cPart S v o 2) ≤ 12 := by omega
  refine A.al6_0 dL_isOpen_0 ?_
  refine A.iconst dL_isOpen_1 ?_
  refine A.il6_1 dL_isOpen_2 ?_
  refine A.imul dL_isOpen_3 ?_
  refine A.iconst dL_isOpen_4 ?_
  refine A.iadd dL_isOpen_5 ?_
  refine A.iald dL_isOpen_6 ?_ (hc := p0)
  refine A.iconst dL_isOpen_7 ?_
  refine A.il6_2 dL_isOpen_8 ?_
  refine A.imul dL_isOpen_9 ?_
  refine A.ishr dL_isOpen_10 ?_
  refine A.bipush dL_isOpen_11 ?_
  refine A.iand dL_isOpen_13 ?_
  rw [q]
  refine A.is6_4 dL_isOpen_14 ?_
  refine A.il6_3 dL_isOpen_16 ?_
  refine A.il6_4 dL_isOpen_17 ?_
  refine A.iconst dL_isOpen_19 ?_
  refine A.isub dL_isOpen_20 ?_
  refine A.iconst dL_isOpen_21 ?_
  refine A.idivT dL_isOpen_22 ?_
  refine A.ishr dL_isOpen_23 ?_
  refine A.iconst dL_isOpen_24 ?_
  refine A.iand dL_isOpen_25 ?_
  refine A.iconst dL_isOpen_26 ?_
  refine A.ic_ne dL_isOpen_27 (fun c27 => ?_) (fun c27 => ?_)
  · refine A.iconst dL_isOpen_34 ?_
    refine A.is6_5 dL_isOpen_35 ?_
    refine A.il6_4 dL_isOpen_37 ?_
    refine A.if_eq dL_isOpen_39 (fun c39 => ?_) (fun c39 => ?_)
    · refine A.iconst dL_isOpen_60 ?_
      refine A.goto dL_isOpen_61 ?_
      refine A.zret dL_isOpen_65 ?_
      rcases lk with ⟨u1, u2⟩ | ⟨u1, u2, u3⟩
      · first
          | (exfalso; omega)
          | exact rT k (open_0 o0 o1 u1)
      · have dv : bDiv (lkc (cPart S v o 1, cPart S v o 2) - 1) 2 = cPart S v o 2 := by rw [bDiv_pos (by omega) (by omega) (by decide) (by decide)]; omega
        have ff : fon fl (cPart S v o 2) ↔ bAnd (bShr fl (cPart S v o 2)) 1 = 1 := Iff.rfl
        rw [dv] at c27
        rcases u1 with u1 | u1
        · have oo := open_1 (fl := fl) o0 o1 u1
          first
            | (exfalso; omega)
            | exact rT k (oo.2 (ff.2 (by omega)))
            | exact rF k (fun z => absurd (ff.1 (oo.1 z)) (by omega))
        · have oo := open_2 (fl := fl) o0 o1 u1
          first
            | (exfalso; omega)
            | exact rT k (oo.2 (fun y => absurd (ff.1 y) (by omega)))
            | exact rF k (fun z => oo.1 z (ff.2 (by omega)))
    · refine A.il6_5 dL_isOpen_42 ?_
      refine A.il6_4 dL_isOpen_44 ?_
      refine A.iconst dL_isOpen_46 ?_
      refine A.irem dL_isOpen_47 ?_
      refine A.iconst dL_isOpen_48 ?_
      refine A.ic_ne dL_isOpen_49 (fun c49 => ?_) (fun c49 => ?_)
      · refine A.iconst dL_isOpen_56 ?_
        refine A.ic_ne dL_isOpen_57 (fun c57 => ?_) (fun c57 => ?_)
        · refine A.iconst dL_isOpen_64 ?_
          refine A.zret dL_isOpen_65 ?_
          rcases lk with ⟨u1, u2⟩ | ⟨u1, u2, u3⟩
          · first
              | (exfalso; omega)
              | exact rT k (open_0 o0 o1 u1)
          · have dv : bDiv (lkc (cPart S v o 1, cPart S v o 2) - 1) 2 = cPart S v o 2 := by rw [bDiv_pos (by omega) (by omega) (by decide) (by decide)]; omega
            have ff : fon fl (cPart S v o 2) ↔ bAnd (bShr fl (cPart S v o 2)) 1 = 1 := Iff.rfl
            rw [dv] at c27
            rcases u1 with u1 | u1
            · have oo := open_1 (fl := fl) o0 o1 u1
              first
                | (exfalso; omega)
                | exact rT k (oo.2 (ff.2 (by omega)))
                | exact rF k (fun z => absurd (ff.1 (oo.1 z)) (by omega))
            · have oo := open_2 (fl := fl) o0 o1 u1
              first
                | (exfalso; omega)
                | exact rT k (oo.2 (fun y => absurd (ff.1 y) (by omega)))
                | exact rF k (fun z => oo.1 z (ff.2 (by omega)))
        · refine A.iconst dL_isOpen_60 ?_
          refine A.goto dL_isOpen_61 ?_
          refine A.zret dL_isOpen_65 ?_
          rcases lk with ⟨u1, u2⟩ | ⟨u1, u2, u3⟩
          · first
              | (exfalso; omega)
              | exact rT k (open_0 o0 o1 u1)
          · have dv : bDiv (lkc (cPart S v o 1, cPart S v o 2) - 1) 2 = cPart S v o 2 := by rw [bDiv_pos (by omega) (by omega) (by decide) (by decide)]; omega
            have ff : fon fl (cPart S v o 2) ↔ bAnd (bShr fl (cPart S v o 2)) 1 = 1 := Iff.rfl
            rw [dv] at c27
            rcases u1 with u1 | u1
            · have oo := open_1 (fl := fl) o0 o1 u1
              first
                | (exfalso; omega)
                | exact rT k (oo.2 (ff.2 (by omega)))
                | exact rF k (fun z => absurd (ff.1 (oo.1 z)) (by omega))
            · have oo := open_2 (fl := fl) o0 o1 u1
              first
                | (exfalso; omega)
                | exact rT k (oo.2 (fun y => absurd (ff.1 y) (by omega)))
                | exact rF k (fun z => oo.1 z (ff.2 (by omega)))
      · refine A.iconst dL_isOpen_52 ?_
        refine A.goto dL_isOpen_53 ?_
        refine A.ic_ne dL_isOpen_57 (fun c57 => ?_) (fun c57 => ?_)
        · refine A.iconst dL_isOpen_64 ?_
          refine A.zret dL_isOpen_65 ?_
          rcases lk with ⟨u1, u2⟩ | ⟨u1, u2, u3⟩
          · first
              | (exfalso; omega)
              | exact rT k (open_0 o0 o1 u1)
          · have dv : bDiv (lkc (cPart S v o 1, cPart S v o 2) - 1) 2 = cPart S v o 2 := by rw [bDiv_pos (by omega) (by omega) (by decide) (by decide)]; omega
            have ff : fon fl (cPart S v o 2) ↔ bAnd (bShr fl (cPart S v o 2)) 1 = 1 := Iff.rfl
            rw [dv] at c27
            rcases u1 with u1 | u1
            · have oo := open_1 (fl := fl) o0 o1 u1
              first
                | (exfalso; omega)
                | exact rT k (oo.2 (ff.2 (by omega)))
                | exact rF k (fun z => absurd (ff.1 (oo.1 z)) (by omega))
            · have oo := open_2 (fl := fl) o0 o1 u1
              first
                | (exfalso; omega)
                | exact rT k (oo.2 (fun y => absurd (ff.1 y) (by omega)))
                | exact rF k (fun z => oo.1 z (ff.2 (by omega)))
        · refine A.iconst dL_isOpen_60 ?_
          refine A.goto dL_isOpen_61 ?_
          refine A.zret dL_isOpen_65 ?_
          rcases lk with ⟨u1, u2⟩ | ⟨u1, u2, u3⟩
          · first
              | (exfalso; omega)
              | exact rT k (open_0 o0 o1 u1)
          · have dv : bDiv (lkc (cPart S v o 1, cPart S v o 2) - 1) 2 = cPart S v o 2 := by rw [bDiv_pos (by omega) (by omega) (by decide) (by decide)]; omega
            have ff : fon fl (cPart S v o 2) ↔ bAnd (bShr fl (cPart S v o 2)) 1 = 1 := Iff.rfl
            rw [dv] at c27
            rcases u1 with u1 | u1
            · have oo := open_1 (fl := fl) o0 o1 u1
              first
                | (exfalso; omega)
                | exact rT k (oo.2 (ff.2 (by omega)))
                | exact rF k (fun z => absurd (ff.1 (oo.1 z)) (by omega))
            · have oo := open_2 (fl := fl) o0 o1 u1
              first
                | (exfalso; omega)
                | exact rT k (oo.2 (fun y => absurd (ff.1 y) (by omega)))
                | exact rF k (fun z => oo.1 z (ff.2 (by omega)))
  · refine A.iconst dL_isOpen_30 ?_
    refine A.goto dL_isOpen_31 ?_
    refine A.is6_5 dL_isOpen_35 ?_
    refine A.il6_4 dL_isOpen_37 ?_
    refine A.if_eq dL_isOpen_39 (fun c39 => ?_) (fun c39 => ?_)
    · refine A.iconst dL_isOpen_60 ?_
      refine A.goto dL_isOpen_61 ?_
      refine A.zret dL_isOpen_65 ?_
      rcases lk with ⟨u1, u2⟩ | ⟨u1, u2, u3⟩
      · first
          | (exfalso; omega)
          | exact rT k (open_0 o0 o1 u1)
      · have dv : bDiv (lkc (cPart S v o 1, cPart S v o 2) - 1) 2 = cPart S v o 2 := by rw [bDiv_pos (by omega) (by omega) (by decide) (by decide)]; omega
        have ff : fon fl (cPart S v o 2) ↔ bAnd (bShr fl (cPart S v o 2)) 1 = 1 := Iff.rfl
        rw [dv] at c27
        rcases u1 with u1 | u1
        · have oo := open_1 (fl := fl) o0 o1 u1
          first
            | (exfalso; omega)
            | exact rT k (oo.2 (ff.2 (by omega)))
            | exact rF k (fun z => absurd (ff.1 (oo.1 z)) (by omega))
        · have oo := open_2 (fl := fl) o0 o1 u1
          first
            | (exfalso; omega)
            | exact rT k (oo.2 (fun y => absurd (ff.1 y) (by omega)))
            | exact rF k (fun z => oo.1 z (ff.2 (by omega)))
    · refine A.il6_5 dL_isOpen_42 ?_
      refine A.il6_4 dL_isOpen_44 ?_
      refine A.iconst dL_isOpen_46 ?_
      refine A.irem dL_isOpen_47 ?_
      refine A.iconst dL_isOpen_48 ?_
      refine A.ic_ne dL_isOpen_49 (fun c49 => ?_) (fun c49 => ?_)
      · refine A.iconst dL_isOpen_56 ?_
        refine A.ic_ne dL_isOpen_57 (fun c57 => ?_) (fun c57 => ?_)
        · refine A.iconst dL_isOpen_64 ?_
          refine A.zret dL_isOpen_65 ?_
          rcases lk with ⟨u1, u2⟩ | ⟨u1, u2, u3⟩
          · first
              | (exfalso; omega)
              | exact rT k (open_0 o0 o1 u1)
          · have dv : bDiv (lkc (cPart S v o 1, cPart S v o 2) - 1) 2 = cPart S v o 2 := by rw [bDiv_pos (by omega) (by omega) (by decide) (by decide)]; omega
            have ff : fon fl (cPart S v o 2) ↔ bAnd (bShr fl (cPart S v o 2)) 1 = 1 := Iff.rfl
            rw [dv] at c27
            rcases u1 with u1 | u1
            · have oo := open_1 (fl := fl) o0 o1 u1
              first
                | (exfalso; omega)
                | exact rT k (oo.2 (ff.2 (by omega)))
                | exact rF k (fun z => absurd (ff.1 (oo.1 z)) (by omega))
            · have oo := open_2 (fl := fl) o0 o1 u1
              first
                | (exfalso; omega)
                | exact rT k (oo.2 (fun y => absurd (ff.1 y) (by omega)))
                | exact rF k (fun z => oo.1 z (ff.2 (by omega)))
        · refine A.iconst dL_isOpen_60 ?_
          refine A.goto dL_isOpen_61 ?_
          refine A.zret dL_isOpen_65 ?_
          rcases lk with ⟨u1, u2⟩ | ⟨u1, u2, u3⟩
          · first
              | (exfalso; omega)
              | exact rT k (open_0 o0 o1 u1)
          · have dv : bDiv (lkc (cPart S v o 1, cPart S v o 2) - 1) 2 = cPart S v o 2 := by rw [bDiv_pos (by omega) (by omega) (by decide) (by decide)]; omega
            have ff : fon fl (cPart S v o 2) ↔ bAnd (bShr fl (cPart S v o 2)) 1 = 1 := Iff.rfl
            rw [dv] at c27
            rcases u1 with u1 | u1
            · have oo := open_1 (fl := fl) o0 o1 u1
              first
                | (exfalso; omega)
                | exact rT k (oo.2 (ff.2 (by omega)))
                | exact rF k (fun z => absurd (ff.1 (oo.1 z)) (by omega))
            · have oo := open_2 (fl := fl) o0 o1 u1
              first
                | (exfalso; omega)
                | exact rT k (oo.2 (fun y => absurd (ff.1 y) (by omega)))
                | exact rF k (fun z => oo.1 z (ff.2 (by omega)))
      · refine A.iconst dL_isOpen_52 ?_
        refine A.goto dL_isOpen_53 ?_
        refine A.ic_ne dL_isOpen_57 (fun c57 => ?_) (fun c57 => ?_)
        · refine A.iconst dL_isOpen_64 ?_
          refine A.zret dL_isOpen_65 ?_
          rcases lk with ⟨u1, u2⟩ | ⟨u1, u2, u3⟩
          · first
              | (exfalso; omega)
              | exact rT k (open_0 o0 o1 u1)
          · have dv : bDiv (lkc (cPart S v o 1, cPart S v o 2) - 1) 2 = cPart S v o 2 := by rw [bDiv_pos (by omega) (by omega) (by decide) (by decide)]; omega
            have ff : fon fl (cPart S v o 2) ↔ bAnd (bShr fl (cPart S v o 2)) 1 = 1 := Iff.rfl
            rw [dv] at c27
            rcases u1 with u1 | u1
            · have oo := open_1 (fl := fl) o0 o1 u1
              first
                | (exfalso; omega)
                | exact rT k (oo.2 (ff.2 (by omega)))
                | exact rF k (fun z => absurd (ff.1 (oo.1 z)) (by omega))
            · have oo := open_2 (fl := fl) o0 o1 u1
              first
                | (exfalso; omega)
                | exact rT k (oo.2 (fun y => absurd (ff.1 y) (by omega)))
                | exact rF k (fun z => oo.1 z (ff.2 (by omega)))
        · refine A.iconst dL_isOpen_60 ?_
          refine A.goto dL_isOpen_61 ?_
          refine A.zret dL_isOpen_65 ?_
          rcases lk with ⟨u1, u2⟩ | ⟨u1, u2, u3⟩
          · first
              | (exfalso; omega)
              | exact rT k (open_0 o0 o1 u1)
          · have dv : bDiv (lkc (cPart S v o 1, cPart S v o 2) - 1) 2 = cPart S v o 2 := by rw [bDiv_pos (by omega) (by omega) (by decide) (by decide)]; omega
            have ff : fon fl (cPart S v o 2) ↔ bAnd (bShr fl (cPart S v o 2)) 1 = 1 := Iff.rfl
            rw [dv] at c27
            rcases u1 with u1 | u1
            · have oo := open_1 (fl := fl) o0 o1 u1
              first
                | (exfalso; omega)
                | exact rT k (oo.2 (ff.2 (by omega)))
                | exact rF k (fun z => absurd (ff.1 (oo.1 z)) (by omega))
            · have oo := open_2 (fl := fl) o0 o1 u1
              first
                | (exfalso; omega)
                | exact rT k (oo.2 (fun y => absurd (ff.1 y) (by omega)))
                | exact rF k (fun z => oo.1 z (ff.2 (by omega)))
theorem oS_z (S : SC) (v fl : Int) : ∀ n : Nat, bOr (oSum S v fl n) 0 = oSum S v fl n := by
  intro n
  induction n with
  | zero => show bOr 0 0 = 0; decide
  | succ n ih =>
    by_cases c : cOpen S v n fl
    · rw [show oSum S v fl (n + 1) = bOr (oSum S v fl n) (bShl 1 n) from pif_t c, bOr_z]
    · rw [show oSum S v fl (n + 1) = oSum S v fl n from pif_f c, ih]
set_option maxRecDepth 100000 in
set_option maxHeartbeats 4000000 in
theorem sL_openOnes {d : Nat} {h : AH} {R : RP} {v fl : Int} {a : Nat} {fp : FN} {S : SC} {B : FN} (p0 : h.2 a = some (kA 0 64 fp)) (hp : pRel fp S) (hB : rScr B S) (v0 : 0 ≤ v) (v1 : v < S.1) (hk : cKind S v = 6) (k : R (some (vI (cOS S v fl))) h) : AM mL_openOnes (d + 1) h [vR a, vI v, vI fl] R := by
  refine AM.of (L := [some (vR a), some (vI v), some (vI fl), none, none]) ok_L_openOnes (by decide) (fun G => Nat.le_of_ble_eq_true rfl) rfl ?_
  have hp2 := hp.2.1
  have g6 := ((hB.2 v v0 v1).r6 hk).2.1
  have q1 := ((hp.2.2 v v0 v1).o hk).1
  have loop : ∀ (nf : Nat) (i : Nat) (hi : (i : Int) ≤ cOpts S v) (hn : 4 - i < nf), AW mL_openOnes (d + 1) (mC mL_openOnes, mS mL_openOnes) 5 [some (vR a), some (vI v), some (vI fl), some (vI (oSum S v fl i)), some (vI i)] [] h R := by
    intro nf
    induction nf with
    | zero => intro i  hi hn; omega
    | succ nf ih =>
      intro i  hi hn
      refine A.il5_4 dL_openOnes_5 ?_
      refine A.al5_0 dL_openOnes_7 ?_
      refine A.iconst dL_openOnes_8 ?_
      refine A.il5_1 dL_openOnes_9 ?_
      refine A.imul dL_openOnes_10 ?_
      refine A.iconst dL_openOnes_11 ?_
      refine A.iadd dL_openOnes_12 ?_
      refine A.iald dL_openOnes_13 ?_ (hc := p0)
      rw [q1]
      refine A.ic_ge dL_openOnes_14 (fun c14 => ?_) (fun c14 => ?_)
      · refine A.il5_3 dL_openOnes_45 ?_
        refine A.iret dL_openOnes_46 ?_
        have e : (i : Int) = cOpts S v := by omega
        exact rI k (by unfold cOS; rw [if_pos hk, oSum_more (k := i) (fun j hj z => absurd z.2.1 (by omega)) 4 (by omega)])
      · refine A.il5_3 dL_openOnes_17 ?_
        refine A.al5_0 dL_openOnes_18 ?_
        refine A.il5_1 dL_openOnes_19 ?_
        refine A.il5_4 dL_openOnes_20 ?_
        refine A.il5_2 dL_openOnes_22 ?_
        refine A.s4 dL_openOnes_23 (sL_isOpen p0 hp hB v0 v1 hk (by omega) (by omega) (kS ?_))
        refine A.bz_eq dL_openOnes_26 (fun c26 => ?_) (fun c26 => ?_)
        · refine A.iconst dL_openOnes_36 ?_
          refine A.ior dL_openOnes_37 ?_
          refine A.is5_3 dL_openOnes_38 ?_
          refine A.ii5_4 dL_openOnes_39 ?_
          refine A.goto dL_openOnes_42 ?_
          first
            | (have g := ih (i + 1) (by omega) (by omega)
               rw [show oSum S v fl (i + 1) = bOr (oSum S v fl i) (bShl 1 i) from pif_t c26] at g
               exact g)
            | (have g := ih (i + 1) (by omega) (by omega)
               rw [show oSum S v fl (i + 1) = oSum S v fl i from pif_f c26] at g
               rw [oS_z]
               exact g)
        · refine A.iconst dL_openOnes_29 ?_
          refine A.il5_4 dL_openOnes_30 ?_
          refine A.ishl dL_openOnes_32 ?_
          refine A.goto dL_openOnes_33 ?_
          refine A.ior dL_openOnes_37 ?_
          refine A.is5_3 dL_openOnes_38 ?_
          refine A.ii5_4 dL_openOnes_39 ?_
          refine A.goto dL_openOnes_42 ?_
          first
            | (have g := ih (i + 1) (by omega) (by omega)
               rw [show oSum S v fl (i + 1) = bOr (oSum S v fl i) (bShl 1 i) from pif_t c26] at g
               exact g)
            | (have g := ih (i + 1) (by omega) (by omega)
               rw [show oSum S v fl (i + 1) = oSum S v fl i from pif_f c26] at g
               rw [oS_z]
               exact g)
  refine A.iconst dL_openOnes_0 ?_
  refine A.is5_3 dL_openOnes_1 ?_
  refine A.iconst dL_openOnes_2 ?_
  refine A.is5_4 dL_openOnes_3 ?_
  exact loop 5 0 (by omega) (by omega)
theorem lEnd {S : SC} {B : FN} {fp : FN} {v : Int} (hp : pRel fp S) (hB : rScr B S) (v0 : 0 ≤ v) (v1 : v < S.1) (hk : cKind S v ≠ 0) : fp (4 * v + 1) = cSN S v := by
  have hp2 := hp.2.1
  have pn := hp.2.2 v v0 v1
  have e : cSN S v = _ := (if_neg (by omega)).trans (if_pos (by omega))
  rw [e, if_neg hk]
  by_cases c : cKind S v = 6
  · rw [(pn.o c).1]; exact ((hB.2 v v0 v1).r6 c).1
  · exact (pn.n c).1
set_option maxRecDepth 100000 in
set_option maxHeartbeats 4000000 in
theorem sL_endOf {d : Nat} {h : AH} {R : RP} {v : Int} {a : Nat} {fp : FN} {S : SC} {B : FN} (p0 : h.2 a = some (kA 0 64 fp)) (hp : pRel fp S) (hB : rScr B S) (v0 : 0 ≤ v) (v1 : v ≤ 30) (hk : cKind S v ≠ 0) (k : R (some (vI (cSN S v))) h) : AM mL_endOf (d) h [vR a, vI v] R := by
  refine AM.of (L := [some (vR a), some (vI v)]) ok_L_endOf (by decide) (fun G => Nat.le_of_ble_eq_true rfl) rfl ?_
  have hp1 := hp.1
  have hp2 := hp.2.1
  refine A.il2_1 dL_endOf_0 ?_
  refine A.bipush dL_endOf_1 ?_
  refine A.ic_ne dL_endOf_3 (fun c3 => ?_) (fun c3 => ?_)
  · refine A.il2_1 dL_endOf_11 ?_
    refine A.al2_0 dL_endOf_12 ?_
    refine A.bipush dL_endOf_13 ?_
    refine A.iald dL_endOf_15 ?_ (hc := p0)
    refine A.ic_lt dL_endOf_16 (fun c16 => ?_) (fun c16 => ?_)
    · refine A.al2_0 dL_endOf_24 ?_
      refine A.iconst dL_endOf_25 ?_
      refine A.il2_1 dL_endOf_26 ?_
      refine A.imul dL_endOf_27 ?_
      refine A.iconst dL_endOf_28 ?_
      refine A.iadd dL_endOf_29 ?_
      refine A.iald dL_endOf_30 ?_ (hc := p0)
      refine A.iret dL_endOf_31 ?_
      first | exact rI k (if_pos (by omega) : cSN S v = _).symm | exact rI k ((if_neg (by omega)).trans (if_neg (by omega)) : cSN S v = _).symm | exact rI k (lEnd hp hB v0 (by omega) hk)
    · refine A.bipush dL_endOf_19 ?_
      refine A.goto dL_endOf_21 ?_
      refine A.iret dL_endOf_31 ?_
      first | exact rI k (if_pos (by omega) : cSN S v = _).symm | exact rI k ((if_neg (by omega)).trans (if_neg (by omega)) : cSN S v = _).symm | exact rI k (lEnd hp hB v0 (by omega) hk)
  · refine A.bipush dL_endOf_6 ?_
    refine A.goto dL_endOf_8 ?_
    refine A.iret dL_endOf_31 ?_
    first | exact rI k (if_pos (by omega) : cSN S v = _).symm | exact rI k ((if_neg (by omega)).trans (if_neg (by omega)) : cSN S v = _).symm | exact rI k (lEnd hp hB v0 (by omega) hk)
theorem mpk_empty (mm : MO) : moQ (emptyM mm) ∧ mpk (emptyM mm) = 0 := by
  have f : ∀ (g : FN) (k : Int), 0 ≤ k → k < 3 → fillN (-11) 3 g k = -11 := fun g k h0 h1 => fillN_in (-11) g 3 k h0 (by omega)
  have a : ∀ k : Int, 0 ≤ k → k < 3 → plOk (emptyM mm).2.2.1 (emptyM mm).2.2.2 k := fun k h0 h1 => Or.inl ⟨f _ k h0 h1, f _ k h0 h1⟩
  have b : ∀ k : Int, 0 ≤ k → k < 3 → en (emptyM mm).2.2.1 (emptyM mm).2.2.2 k = 0 := fun k h0 h1 => if_pos (f _ k h0 h1)
  refine ⟨⟨⟨by show (0 : Int) ≤ 0; omega, by show (0 : Int) ≤ 63; omega⟩, a 0 (by decide) (by decide), a 1 (by decide) (by decide), a 2 (by decide) (by decide)⟩, ?_⟩
  unfold mpk
  rw [b 0 (by decide) (by decide), b 1 (by decide) (by decide), b 2 (by decide) (by decide)]
  rfl
set_option maxRecDepth 100000 in
set_option maxHeartbeats 4000000 in
theorem sL_begins {d : Nat} {h : AH} {R : RP} {b : Nat} {fm : FN} (mm : MO) {a : Nat} {fp : FN} {S : SC} {B : FN} (p0 : h.2 a = some (kA 0 64 fp)) (hp : pRel fp S) (hB : rScr B S) (m0 : h.2 b = some (kA 0 3 fm)) (hab : a ≠ b) (k : ∀ h' fm', h'.2 b = some (kA 0 3 fm') → mReg fm' (cCome S (emptyM mm) 0) → moQ (cCome S (emptyM mm) 0) → Fr h h' b 1 → R none h') : AM mL_begins (d + 2) h [vR a, vR b] R := by
  refine AM.of (L := [some (vR a), some (vR b)]) ok_L_begins (by decide) (fun G => Nat.le_of_ble_eq_true rfl) rfl ?_
  obtain ⟨ea, eb⟩ := mpk_empty mm
  refine A.al2_1 dL_begins_0 ?_
  refine A.iconst dL_begins_1 ?_
  refine A.iconst dL_begins_2 ?_
  refine A.iast dL_begins_3 (fun h3 e3 f3 => ?_) (hc := m0)
  first | (have p0 := (f3.2 _ (by omega)).trans p0) | (have p0 := e3)
  first | (have m0 := (f3.2 _ (by omega)).trans m0) | (have m0 := e3)
  refine A.al2_1 dL_begins_4 ?_
  refine A.iconst dL_begins_5 ?_
  refine A.iconst dL_begins_6 ?_
  refine A.iast dL_begins_7 (fun h7 e7 f7 => ?_) (hc := m0)
  first | (have p0 := (f7.2 _ (by omega)).trans p0) | (have p0 := e7)
  first | (have m0 := (f7.2 _ (by omega)).trans m0) | (have m0 := e7)
  refine A.al2_0 dL_begins_8 ?_
  refine A.al2_1 dL_begins_9 ?_
  refine A.iconst dL_begins_10 ?_
  refine A.s3 dL_begins_11 (sL_carries p0 hp hB m0 hab ea (((fs_off (by decide)).trans (fs_at rfl)).trans rfl) ((fs_at rfl).trans eb.symm) (by decide) (by decide) (fun h11 fm11 m11 r11 q11 f11 => kN ?_))
  have p0 := f11.get p0 (by omega)
  have m0 := m11
  refine A.vret dL_begins_14 ?_
  exact k _ _ m0 r11 q11 ((Fr.rfl.then f3 (by omega) (by omega)).then f7 (by omega) (by omega) |>.then f11 (by omega) (by omega))
set_option maxRecDepth 100000 in
set_option maxHeartbeats 4000000 in
theorem sL_takes {d : Nat} {h : AH} {R : RP} {kk : Int} {a b N : Nat} {f g : FN} (s0 : h.2 a = some (kA 0 N f)) (m0 : h.2 b = some (kA 0 3 g)) (hab : a ≠ b) (k0 : 0 ≤ kk) (k1 : 3 * kk + 2 < N) (hN : N ≤ 64) (k : ∀ h' g', h'.2 b = some (kA 0 3 g') → g' 0 = f (3 * kk) → g' 1 = f (3 * kk + 1) → g' 2 = f (3 * kk + 2) → Fr h h' b 1 → R none h') : AM mL_takes (d) h [vR a, vR b, vI kk] R := by
  refine AM.of (L := [some (vR a), some (vR b), some (vI kk)]) ok_L_takes (by decide) (fun G => Nat.le_of_ble_eq_true rfl) rfl ?_
  refine A.al3_1 dL_takes_0 ?_
  refine A.iconst dL_takes_1 ?_
  refine A.al3_0 dL_takes_2 ?_
  refine A.iconst dL_takes_3 ?_
  refine A.il3_2 dL_takes_4 ?_
  refine A.imul dL_takes_5 ?_
  refine A.iald dL_takes_6 ?_ (hc := s0)
  refine A.iast dL_takes_7 (fun h7 e7 f7 => ?_) (hc := m0)
  first | (have s0 := (f7.2 _ (by omega)).trans s0) | (have s0 := e7)
  first | (have m0 := (f7.2 _ (by omega)).trans m0) | (have m0 := e7)
  refine A.al3_1 dL_takes_8 ?_
  refine A.iconst dL_takes_9 ?_
  refine A.al3_0 dL_takes_10 ?_
  refine A.iconst dL_takes_11 ?_
  refine A.il3_2 dL_takes_12 ?_
  refine A.imul dL_takes_13 ?_
  refine A.iconst dL_takes_14 ?_
  refine A.iadd dL_takes_15 ?_
  refine A.iald dL_takes_16 ?_ (hc := s0)
  refine A.iast dL_takes_17 (fun h17 e17 f17 => ?_) (hc := m0)
  first | (have s0 := (f17.2 _ (by omega)).trans s0) | (have s0 := e17)
  first | (have m0 := (f17.2 _ (by omega)).trans m0) | (have m0 := e17)
  refine A.al3_1 dL_takes_18 ?_
  refine A.iconst dL_takes_19 ?_
  refine A.al3_0 dL_takes_20 ?_
  refine A.iconst dL_takes_21 ?_
  refine A.il3_2 dL_takes_22 ?_
  refine A.imul dL_takes_23 ?_
  refine A.iconst dL_takes_24 ?_
  refine A.iadd dL_takes_25 ?_
  refine A.iald dL_takes_26 ?_ (hc := s0)
  refine A.iast dL_takes_27 (fun h27 e27 f27 => ?_) (hc := m0)
  first | (have s0 := (f27.2 _ (by omega)).trans s0) | (have s0 := e27)
  first | (have m0 := (f27.2 _ (by omega)).trans m0) | (have m0 := e27)
  refine A.vret dL_takes_28 ?_
  exact k _ _ m0 ((fs_off (by decide)).trans ((fs_off (by decide)).trans (fs_at rfl))) ((fs_off (by decide)).trans (fs_at rfl)) (fs_at rfl) (((Fr.rfl.then f7 (by omega) (by omega)).then f17 (by omega) (by omega)).then f27 (by omega) (by omega))
/-- behind puts: so many moments before it, how far they were moved -/
def putR (f g f' : FN) : Prop := ∃ n sh : Int, ((f 60 = 20 ∧ n = 19 ∧ sh = 3) ∨ (f 60 < 20 ∧ n = f 60 ∧ sh = 0)) ∧ (∀ j : Int, 0 ≤ j → j < 3 * n → f' j = f (j + sh)) ∧ f' (3 * n) = g 0 ∧ f' (3 * n + 1) = g 1 ∧ f' (3 * n + 2) = g 2 ∧ f' 60 = n + 1 ∧ f' 61 = 0 ∧ f' 62 = bOr (f 62) (bShl 1 (g 0))
set_option maxRecDepth 100000 in
set_option maxHeartbeats 4000000 in
theorem sL_puts {d : Nat} {h : AH} {R : RP} {a b : Nat} {f g : FN} (s0 : h.2 a = some (kA 0 64 f)) (m0 : h.2 b = some (kA 0 3 g)) (hab : a ≠ b) (n0 : 0 ≤ f 60) (n1 : f 60 ≤ 20) (k : ∀ h' f', h'.2 a = some (kA 0 64 f') → putR f g f' → Fr h h' a 1 → R none h') : AM mL_puts (d) h [vR a, vR b] R := by
  refine AM.of (L := [some (vR a), some (vR b), none]) ok_L_puts (by decide) (fun G => Nat.le_of_ble_eq_true rfl) rfl ?_
  have fin : ∀ (n sh : Int) (f1 : FN) (h1 : AH) (x2 : Option AV) (hn : (f 60 = 20 ∧ n = 19 ∧ sh = 3) ∨ (f 60 < 20 ∧ n = f 60 ∧ sh = 0)) (y0 : ∀ j : Int, 0 ≤ j → j < 3 * n → f1 j = f (j + sh)) (y1 : f1 60 = n) (y2 : f1 62 = f 62) (s0 : h1.2 a = some (kA 0 64 f1)) (m0 : h1.2 b = some (kA 0 3 g)) (hF : Fr h h1 a 1), AW mL_puts (d) (mC mL_puts, mS mL_puts) 39 [some (vR a), some (vR b), x2] [] h1 R := by
    intro n sh  f1  h1  x2  hn y0 y1 y2 s0 m0 hF
    refine A.iconst dL_puts_39 ?_
    refine A.al3_0 dL_puts_40 ?_
    refine A.bipush dL_puts_41 ?_
    refine A.iald dL_puts_43 ?_ (hc := s0)
    rw [y1]
    refine A.imul dL_puts_44 ?_
    refine A.is3_2 dL_puts_45 ?_
    refine A.al3_0 dL_puts_46 ?_
    refine A.il3_2 dL_puts_47 ?_
    refine A.al3_1 dL_puts_48 ?_
    refine A.iconst dL_puts_49 ?_
    refine A.iald dL_puts_50 ?_ (hc := m0)
    refine A.iast dL_puts_51 (fun h51 e51 f51 => ?_) (hc := s0)
    first | (have s0 := (f51.2 _ (by omega)).trans s0) | (have s0 := e51)
    first | (have m0 := (f51.2 _ (by omega)).trans m0) | (have m0 := e51)
    refine A.al3_0 dL_puts_52 ?_
    refine A.il3_2 dL_puts_53 ?_
    refine A.iconst dL_puts_54 ?_
    refine A.iadd dL_puts_55 ?_
    refine A.al3_1 dL_puts_56 ?_
    refine A.iconst dL_puts_57 ?_
    refine A.iald dL_puts_58 ?_ (hc := m0)
    refine A.iast dL_puts_59 (fun h59 e59 f59 => ?_) (hc := s0)
    first | (have s0 := (f59.2 _ (by omega)).trans s0) | (have s0 := e59)
    first | (have m0 := (f59.2 _ (by omega)).trans m0) | (have m0 := e59)
    refine A.al3_0 dL_puts_60 ?_
    refine A.il3_2 dL_puts_61 ?_
    refine A.iconst dL_puts_62 ?_
    refine A.iadd dL_puts_63 ?_
    refine A.al3_1 dL_puts_64 ?_
    refine A.iconst dL_puts_65 ?_
    refine A.iald dL_puts_66 ?_ (hc := m0)
    refine A.iast dL_puts_67 (fun h67 e67 f67 => ?_) (hc := s0)
    first | (have s0 := (f67.2 _ (by omega)).trans s0) | (have s0 := e67)
    first | (have m0 := (f67.2 _ (by omega)).trans m0) | (have m0 := e67)
    have z1 : fset (fset (fset f1 (3 * n) (g 0)) (3 * n + 1) (g 1)) (3 * n + 2) (g 2) 60 = n := (fs_off (by omega)).trans ((fs_off (by omega)).trans ((fs_off (by omega)).trans (y1)))
    refine A.al3_0 dL_puts_68 ?_
    refine A.bipush dL_puts_69 ?_
    refine A.dup2 dL_puts_71 ?_
    refine A.iald dL_puts_72 ?_ (hc := s0)
    refine A.iconst dL_puts_73 ?_
    refine A.iadd dL_puts_74 ?_
    refine A.iast dL_puts_75 (fun h75 e75 f75 => ?_) (hc := s0)
    first | (have s0 := (f75.2 _ (by omega)).trans s0) | (have s0 := e75)
    first | (have m0 := (f75.2 _ (by omega)).trans m0) | (have m0 := e75)
    refine A.al3_0 dL_puts_76 ?_
    refine A.bipush dL_puts_77 ?_
    refine A.iconst dL_puts_79 ?_
    refine A.iast dL_puts_80 (fun h80 e80 f80 => ?_) (hc := s0)
    first | (have s0 := (f80.2 _ (by omega)).trans s0) | (have s0 := e80)
    first | (have m0 := (f80.2 _ (by omega)).trans m0) | (have m0 := e80)
    have z2 : ∀ w, fset (fset (fset (fset (fset f1 (3 * n) (g 0)) (3 * n + 1) (g 1)) (3 * n + 2) (g 2)) 60 w) 61 0 62 = f 62 := fun w => (fs_off (by omega)).trans ((fs_off (by omega)).trans ((fs_off (by omega)).trans ((fs_off (by omega)).trans ((fs_off (by omega)).trans (y2)))))
    refine A.al3_0 dL_puts_81 ?_
    refine A.bipush dL_puts_82 ?_
    refine A.dup2 dL_puts_84 ?_
    refine A.iald dL_puts_85 ?_ (hc := s0)
    refine A.iconst dL_puts_86 ?_
    refine A.al3_1 dL_puts_87 ?_
    refine A.iconst dL_puts_88 ?_
    refine A.iald dL_puts_89 ?_ (hc := m0)
    refine A.ishl dL_puts_90 ?_
    refine A.ior dL_puts_91 ?_
    refine A.iast dL_puts_92 (fun h92 e92 f92 => ?_) (hc := s0)
    first | (have s0 := (f92.2 _ (by omega)).trans s0) | (have s0 := e92)
    first | (have m0 := (f92.2 _ (by omega)).trans m0) | (have m0 := e92)
    refine A.vret dL_puts_93 ?_
    refine k _ _ s0 ⟨n, sh, hn, fun j j0 j1 => ?_, ?_, ?_, ?_, ?_, ?_, ?_⟩ ((((((hF.then f51 (by omega) (by omega)).then f59 (by omega) (by omega)).then f67 (by omega) (by omega)).then f75 (by omega) (by omega)).then f80 (by omega) (by omega)).then f92 (by omega) (by omega))
    · exact (fs_off (by omega)).trans ((fs_off (by omega)).trans ((fs_off (by omega)).trans ((fs_off (by omega)).trans ((fs_off (by omega)).trans ((fs_off (by omega)).trans (y0 j j0 j1))))))
    · exact (fs_off (by omega)).trans ((fs_off (by omega)).trans ((fs_off (by omega)).trans ((fs_off (by omega)).trans ((fs_off (by omega)).trans (fs_at rfl)))))
    · exact (fs_off (by omega)).trans ((fs_off (by omega)).trans ((fs_off (by omega)).trans ((fs_off (by omega)).trans (fs_at rfl))))
    · exact (fs_off (by omega)).trans ((fs_off (by omega)).trans ((fs_off (by omega)).trans (fs_at rfl)))
    · exact (fs_off (by omega)).trans ((fs_off (by omega)).trans ((fs_at rfl).trans (by rw [z1])))
    · exact (fs_off (by omega)).trans (fs_at rfl)
    · exact (fs_at rfl).trans (by rw [z2])
  have loop : ∀ (nf : Nat) (i : Nat) (f1 : FN) (h1 : AH) (hi : i ≤ 57) (h20 : f 60 = 20) (y0 : ∀ j : Int, 0 ≤ j → j < i → f1 j = f (j + 3)) (y1 : ∀ j : Int, i ≤ j → f1 j = f j) (s0 : h1.2 a = some (kA 0 64 f1)) (m0 : h1.2 b = some (kA 0 3 g)) (hF : Fr h h1 a 1) (hn : 57 - i < nf), AW mL_puts (d) (mC mL_puts, mS mL_puts) 11 [some (vR a), some (vR b), some (vI i)] [] h1 R := by
    intro nf
    induction nf with
    | zero => intro i  f1  h1  hi h20 y0 y1 s0 m0 hF hn; omega
    | succ nf ih =>
      intro i  f1  h1  hi h20 y0 y1 s0 m0 hF hn
      refine A.il3_2 dL_puts_11 ?_
      refine A.bipush dL_puts_12 ?_
      refine A.ic_ge dL_puts_14 (fun c14 => ?_) (fun c14 => ?_)
      · have y60 := y1 60 (by omega)
        refine A.al3_0 dL_puts_31 ?_
        refine A.bipush dL_puts_32 ?_
        refine A.dup2 dL_puts_34 ?_
        refine A.iald dL_puts_35 ?_ (hc := s0)
        refine A.iconst dL_puts_36 ?_
        refine A.isub dL_puts_37 ?_
        refine A.iast dL_puts_38 (fun h38 e38 f38 => ?_) (hc := s0)
        first | (have s0 := (f38.2 _ (by omega)).trans s0) | (have s0 := e38)
        first | (have m0 := (f38.2 _ (by omega)).trans m0) | (have m0 := e38)
        exact fin 19 3 _ _ _ (Or.inl ⟨h20, rfl, rfl⟩) (fun j j0 j1 => (fs_off (by omega)).trans (y0 j j0 (by omega))) ((fs_at rfl).trans (by rw [y60, h20]; rfl)) ((fs_off (by decide)).trans (y1 62 (by omega))) s0 m0 (hF.then f38 (by omega) (by omega))
      · refine A.al3_0 dL_puts_17 ?_
        refine A.il3_2 dL_puts_18 ?_
        refine A.al3_0 dL_puts_19 ?_
        refine A.il3_2 dL_puts_20 ?_
        refine A.iconst dL_puts_21 ?_
        refine A.iadd dL_puts_22 ?_
        refine A.iald dL_puts_23 ?_ (hc := s0)
        refine A.iast dL_puts_24 (fun h24 e24 f24 => ?_) (hc := s0)
        first | (have s0 := (f24.2 _ (by omega)).trans s0) | (have s0 := e24)
        first | (have m0 := (f24.2 _ (by omega)).trans m0) | (have m0 := e24)
        refine A.ii3_2 dL_puts_25 ?_
        refine A.goto dL_puts_28 ?_
        refine ih (i + 1) _ _ (by omega) h20 (fun j j0 j1 => ?_) (fun j j0 => (fs_off (by omega)).trans (y1 j (by omega))) s0 m0 (hF.then f24 (by omega) (by omega)) (by omega)
        by_cases c : j = i
        · exact (fs_at c).trans ((y1 _ (by omega)).trans (by rw [c]))
        · exact (fs_off c).trans (y0 j j0 (by omega))
  refine A.al3_0 dL_puts_0 ?_
  refine A.bipush dL_puts_1 ?_
  refine A.iald dL_puts_3 ?_ (hc := s0)
  refine A.bipush dL_puts_4 ?_
  refine A.ic_ne dL_puts_6 (fun c6 => ?_) (fun c6 => ?_)
  · exact fin (f 60) 0 f h _ (Or.inr ⟨by omega, rfl, rfl⟩) (fun j j0 j1 => by rw [Int.add_zero]) rfl rfl s0 m0 Fr.rfl
  · refine A.iconst dL_puts_9 ?_
    refine A.is3_2 dL_puts_10 ?_
    exact loop 58 0 f h (by omega) (by omega) (fun j j0 j1 => by omega) (fun j _ => rfl) s0 m0 Fr.rfl (by omega)
/-- behind starts -/
def stR0 (f f' : FN) (m : MO) : Prop := mRow f' 0 m ∧ f' 60 = 1 ∧ f' 61 = 0 ∧ f' 62 = bOr (f 62) (bShl 1 m.1)
theorem putR_0 {f g f' : FN} {m : MO} (h : putR f g f') (h0 : f 60 = 0) (hm : mReg g m) : stR0 f f' m := by
  obtain ⟨n, sh, hn, -, e0, e1, e2, e3, e4, e5⟩ := h
  have z : n = 0 := by omega
  subst z
  exact ⟨⟨e0.trans hm.1, e1.trans hm.2.1, e2.trans hm.2.2⟩, e3, e4, by rw [e5, hm.1]⟩
set_option maxRecDepth 100000 in
set_option maxHeartbeats 4000000 in
theorem sL_starts {d : Nat} {h : AH} {R : RP} {c b : Nat} {ff fm : FN} (mm : MO) {a : Nat} {fp : FN} {S : SC} {B : FN} (p0 : h.2 a = some (kA 0 64 fp)) (hp : pRel fp S) (hB : rScr B S) (s0 : h.2 c = some (kA 0 64 ff)) (m0 : h.2 b = some (kA 0 3 fm)) (hab : a ≠ b) (hac : a ≠ c) (hcb : c ≠ b) (k : ∀ h' ff' fm', h'.2 c = some (kA 0 64 ff') → h'.2 b = some (kA 0 3 fm') → mReg fm' (cCome S (emptyM mm) 0) → moQ (cCome S (emptyM mm) 0) → stR0 ff ff' (cCome S (emptyM mm) 0) → Fr2 h h' c 1 b 1 → R none h') : AM mL_starts (d + 3) h [vR a, vR c, vR b] R := by
  refine AM.of (L := [some (vR a), some (vR c), some (vR b)]) ok_L_starts (by decide) (fun G => Nat.le_of_ble_eq_true rfl) rfl ?_
  refine A.al3_0 dL_starts_0 ?_
  refine A.al3_2 dL_starts_1 ?_
  refine A.s2 dL_starts_2 (sL_begins mm p0 hp hB m0 hab (fun h2 fm2 m2 r2 q2 f2 => kN ?_))
  have p0 := f2.get p0 (by omega)
  have s0 := f2.get s0 (by omega)
  have m0 := m2
  refine A.al3_1 dL_starts_5 ?_
  refine A.bipush dL_starts_6 ?_
  refine A.iconst dL_starts_8 ?_
  refine A.iast dL_starts_9 (fun h9 e9 f9 => ?_) (hc := s0)
  first | (have p0 := (f9.2 _ (by omega)).trans p0) | (have p0 := e9)
  first | (have s0 := (f9.2 _ (by omega)).trans s0) | (have s0 := e9)
  first | (have m0 := (f9.2 _ (by omega)).trans m0) | (have m0 := e9)
  refine A.al3_1 dL_starts_10 ?_
  refine A.al3_2 dL_starts_11 ?_
  refine A.s2 dL_starts_12 (sL_puts s0 m0 hcb (Int.le_of_eq (fs_at rfl).symm) (by rw [show fset ff 60 0 60 = 0 from fs_at rfl]; decide) (fun h12 ff12 s12 p12 f12 => kN ?_))
  have p0 := f12.get p0 (by omega)
  have m0 := f12.get m0 (by omega)
  have s0 := s12
  refine A.vret dL_starts_15 ?_
  exact k _ _ _ s0 m0 r2 q2 (by have z := putR_0 p12 (fs_at rfl) r2; exact ⟨z.1, z.2.1, z.2.2.1, z.2.2.2.trans (by rw [show fset ff 60 0 62 = ff 62 from fs_off (by decide)])⟩) (((Fr2.rfl.trans (f2.two2 (by omega) (by omega))).trans (f9.two1 (by omega) (by omega))).trans (f12.two1 (by omega) (by omega)))
theorem cntN_x {f : FN} {i : Nat} {b : Int} (h : f i = b) (hb : b = 0 ∨ b = 1) : cntN f (i + 1) = cntN f i + b := by
  show (if f i = 0 then cntN f i else cntN f i + 1) = _
  rw [h]
  rcases hb with rfl | rfl
  · rw [if_pos rfl, Int.add_zero]
  · rw [if_neg (by decide)]
set_option maxRecDepth 100000 in
set_option maxHeartbeats 4000000 in
theorem sL_seen {d : Nat} {h : AH} {R : RP} {a : Nat} {f : FN} {sn : FN} (s0 : h.2 a = some (kA 0 64 f)) (hs : ∀ v : Int, 0 ≤ v → v < 31 → sn v = bAnd (bShr (f 62) v) 1) (k : R (some (vI (cntN sn 31))) h) : AM mL_seen (d) h [vR a] R := by
  refine AM.of (L := [some (vR a), none, none]) ok_L_seen (by decide) (fun G => Nat.le_of_ble_eq_true rfl) rfl ?_
  have loop : ∀ (nf : Nat) (i : Nat) (hi : i ≤ 31) (hn : 31 - i < nf), AW mL_seen (d) (mC mL_seen, mS mL_seen) 4 [some (vR a), some (vI (cntN sn i)), some (vI i)] [] h R := by
    intro nf
    induction nf with
    | zero => intro i  hi hn; omega
    | succ nf ih =>
      intro i  hi hn
      refine A.il3_2 dL_seen_4 ?_
      refine A.bipush dL_seen_5 ?_
      refine A.ic_ge dL_seen_7 (fun c7 => ?_) (fun c7 => ?_)
      · refine A.il3_1 dL_seen_27 ?_
        refine A.iret dL_seen_28 ?_
        have e : i = 31 := by omega
        subst e
        exact k
      · have cr := cntN_le sn i
        have br := bit_rng (x := f 62) (v := (i : Int)) (by omega) (by omega)
        have hi2 := hs i (by omega) (by omega)
        refine A.il3_1 dL_seen_10 ?_
        refine A.al3_0 dL_seen_11 ?_
        refine A.bipush dL_seen_12 ?_
        refine A.iald dL_seen_14 ?_ (hc := s0)
        refine A.il3_2 dL_seen_15 ?_
        refine A.ishr dL_seen_16 ?_
        refine A.iconst dL_seen_17 ?_
        refine A.iand dL_seen_18 ?_
        refine A.iadd dL_seen_19 ?_
        refine A.is3_1 dL_seen_20 ?_
        refine A.ii3_2 dL_seen_21 ?_
        refine A.goto dL_seen_24 ?_
        have g := ih (i + 1) (by omega) (by omega)
        rw [cntN_x hi2 br] at g
        exact g
  refine A.iconst dL_seen_0 ?_
  refine A.is3_1 dL_seen_1 ?_
  refine A.iconst dL_seen_2 ?_
  refine A.is3_2 dL_seen_3 ?_
  exact loop 32 0 (by omega) (by omega)
