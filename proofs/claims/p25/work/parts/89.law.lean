/-! ===== the law: a node is typed ===== -/
set_option maxRecDepth 100000 in
set_option maxHeartbeats 4000000 in
theorem sL_typesNode {d : Nat} {h : AH} {R : RP} {x : Nat} {S : SC} {P : PL} {T : TX} {B fp : FN} {ns : List ND} {xx yy u : Int} (ho : pAt h x S P T) (hB : rScr B S) (hb : plI P) (hr : rdy T ns) (p0 : h.2 (x + 98) = some (kA 0 64 fp)) (ha : pAll fp ns) (hn : ns.length ≤ 11) (h82 : T.1 ≤ 82) (u0 : 1 ≤ u) (u1 : u ≤ 12) (k : ∀ h' T2 fp' nd, pAt h' x S P T2 → h'.2 (x + 98) = some (kA 0 64 fp') → rdy T2 (ns ++ [nd]) → pAll fp' (ns ++ [nd]) → Fr2 h h' x 98 (x + 98) 1 → R (some (vI 1)) h') : AM mL_typesNode (d + 8) h [vR x, vR (x + 98), vI (ns.length : Nat), vI xx, vI yy, vI u] R := by
  refine AM.of (L := [some (vR x), some (vR (x + 98)), some (vI (ns.length : Nat)), some (vI xx), some (vI yy), some (vI u), none, none, none, none, none, none, none, none, none]) ok_L_typesNode (by decide) (fun G => Nat.le_of_ble_eq_true rfl) rfl ?_
  have hT := hr.1
  have hT1 := hr.1
  have hl := spl_0 T
  have gl := hl.2.1
  have g0 := hT.1
  have g1 := hT1.1
  obtain ⟨fs, x0⟩ := ho.ob
  have rk := low_rng xx (n := 13) (by decide)
  have r6 := low_rng (bShr xx 4) (n := 6) (by decide)
  have r3 := low_rng (bShr xx 4) (n := 3) (by decide)
  have rt := low_rng (bShr xx 7) (n := u + 1) (by omega)
  have rh := low_rng (bShr xx 7) (n := 100) (by decide)
  have rp := low_rng (bShr xx 7) (n := 3) (by decide)
  have rf := low_rng (bShr xx 9) (n := 5) (by decide)
  have re := low_rng (bShr xx 4) (n := 10) (by decide)
  have ry := low_rng yy (n := 3) (by decide)
  have fin : ∀ (T1 : TX) (fp1 : FN) (l : List Int) (m kd v f to : Int) (nd : ND) (h1 : AH) (x12 x13 x14 : Option AV) (ho : pAt h1 x S P T1) (hT1 : txI T1) (hl : spl T T1 l m) (hm : m ≤ 16) (sp : spells l nd) (p0 : h1.2 (x + 98) = some (kA 0 64 fp1)) (pi : pIs fp1 (ns.length : Nat) nd) (pj : ∀ j : Int, 0 ≤ j → j < 4 * (ns.length : Nat) → fp1 j = fp j) (hF : Fr2 h h1 x 98 (x + 98) 1), AW mL_typesNode (d + 8) (mC mL_typesNode, mS mL_typesNode) 844 [some (vR x), some (vR (x + 98)), some (vI (ns.length : Nat)), some (vI xx), some (vI yy), some (vI u), some (vI (4 * (ns.length : Nat))), some (vI kd), some (vI v), some (vI f), some (vI to), some (vI 1), x12, x13, x14] [] h1 R := by
    intro T1  fp1  l  m kd v f to  nd  h1  x12 x13 x14  ho hT1 hl hm sp p0 pi pj hF
    have gl := hl.2.1
    have g1 := hT1.1
    obtain ⟨fs, x0⟩ := ho.ob
    have g2 := hl.2.2.1
    refine A.il15_11 dL_typesNode_844 ?_
    refine A.if_eq dL_typesNode_846 (fun c846 => by exfalso; omega) (fun c846 => ?_)
    refine A.al15_0 dL_typesNode_849 ?_
    refine A.v0 dL_typesNode_850 (s5_fault ho hB hb hT1 (fun h850 hq850 F850 => kS ?_)) (hc := x0)
    rw [rdy_end hr sp hl]
    have ho := hq850
    have p0 := F850.get p0 (by omega)
    obtain ⟨fs, x0⟩ := ho.ob
    refine A.al15_0 dL_typesNode_853 ?_
    refine A.bipush dL_typesNode_854 ?_
    refine A.v1 dL_typesNode_856 (s5_count ho hB hb hT1 (kS ?_)) (hc := x0)
    rw [co_6]
    refine A.ic_ne dL_typesNode_859 (fun c859 => absurd rfl c859) (fun c859 => ?_)
    refine A.al15_0 dL_typesNode_862 ?_
    refine A.bipush dL_typesNode_863 ?_
    refine A.v1 dL_typesNode_865 (sL_ty ho hB hb hT hT1 hl (by omega) (by omega) (by omega) (fun h865 T865 hq865 ht865 hl865 F865 => kS ?_)) (hc := x0)
    have ho := hq865
    have hT1 := ht865
    have hl := hl865
    have gl := hl.2.1
    have g1 := hT1.1
    obtain ⟨fs, x0⟩ := ho.ob
    have p0 := F865.get p0 (by omega)
    refine A.if_le dL_typesNode_868 (fun c868 => by exfalso; omega) (fun c868 => ?_)
    refine A.al15_0 dL_typesNode_871 ?_
    refine A.v0 dL_typesNode_872 (s5_fault ho hB hb hT1 (fun h872 hq872 F872 => kS ?_)) (hc := x0)
    have nn := rdy_none (rdy_s hr sp (by omega) ht865 (spl_eq hl865 rfl (by omega)))
    rw [show (ffR T865 29 0).1 = -11 by rw [nn]]
    have p0 := F872.get p0 (by omega)
    refine A.bipush dL_typesNode_875 ?_
    refine A.ic_ne dL_typesNode_877 (fun c877 => absurd rfl c877) (fun c877 => ?_)
    refine A.iconst dL_typesNode_880 ?_
    refine A.goto dL_typesNode_881 ?_
    refine A.zret dL_typesNode_885 ?_
    have hr2 := rdy_s hr sp (by omega) ht865 (spl_eq hl865 rfl (by omega))
    exact k _ _ _ nd hq872 p0 hr2 (pAll_s ha pj pi) ((hF.trans (F850.two1 (by omega) (by omega))).trans (F865.two1 (by omega) (by omega)) |>.trans (F872.two1 (by omega) (by omega)))
  have mid : ∀ (nf : Nat) (g lk : Int) (os : List (Int × Int)) (T1 : TX) (fp1 : FN) (m kd v f to : Int) (h1 : AH) (g0 : 0 ≤ g) (g1 : g ≤ 12) (k0 : 0 ≤ lk) (k1 : lk ≤ 6) (hlt : (os.length : Int) < (1 + lowF yy 3)) (ho : pAt h1 x S P T1) (hT1 : txI T1) (hl : spl T T1 (99 :: oL os) m) (hm : m ≤ 1 + 5 * (os.length : Nat)) (hO : ∀ p, p ∈ os → ogOk p) (hi : (os.length : Int) ≤ (1 + lowF yy 3)) (p0 : h1.2 (x + 98) = some (kA 0 64 fp1)) (z0 : fp1 (4 * (ns.length : Int)) = 6) (z1 : fp1 (4 * (ns.length : Int) + 1) = (1 + lowF yy 3)) (z2 : pk5 (fp1 (4 * (ns.length : Int) + 2)) (os.map Prod.fst)) (z3 : pk4 (fp1 (4 * (ns.length : Int) + 3)) (os.map Prod.snd)) (pj : ∀ j : Int, 0 ≤ j → j < 4 * (ns.length : Nat) → fp1 j = fp j) (hF : Fr2 h h1 x 98 (x + 98) 1) (ih : ∀ (os : List (Int × Int)) (T1 : TX) (fp1 : FN) (m kd v f to : Int) (h1 : AH) (x13 x14 : Option AV) (ho : pAt h1 x S P T1) (hT1 : txI T1) (hl : spl T T1 (99 :: oL os) m) (hm : m ≤ 1 + 5 * (os.length : Nat)) (hO : ∀ p, p ∈ os → ogOk p) (hi : (os.length : Int) ≤ (1 + lowF yy 3)) (p0 : h1.2 (x + 98) = some (kA 0 64 fp1)) (z0 : fp1 (4 * (ns.length : Int)) = 6) (z1 : fp1 (4 * (ns.length : Int) + 1) = (1 + lowF yy 3)) (z2 : pk5 (fp1 (4 * (ns.length : Int) + 2)) (os.map Prod.fst)) (z3 : pk4 (fp1 (4 * (ns.length : Int) + 3)) (os.map Prod.snd)) (pj : ∀ j : Int, 0 ≤ j → j < 4 * (ns.length : Nat) → fp1 j = fp j) (hF : Fr2 h h1 x 98 (x + 98) 1) (hn : 3 - os.length < nf), AW mL_typesNode (d + 8) (mC mL_typesNode, mS mL_typesNode) 612 [some (vR x), some (vR (x + 98)), some (vI (ns.length : Nat)), some (vI xx), some (vI yy), some (vI u), some (vI (4 * (ns.length : Nat))), some (vI kd), some (vI v), some (vI f), some (vI to), some (vI 1), some (vI (os.length : Nat)), x13, x14] [] h1 R) (hn : 3 - os.length < nf + 1), AW mL_typesNode (d + 8) (mC mL_typesNode, mS mL_typesNode) 679 [some (vR x), some (vR (x + 98)), some (vI (ns.length : Nat)), some (vI xx), some (vI yy), some (vI u), some (vI (4 * (ns.length : Nat))), some (vI kd), some (vI v), some (vI f), some (vI to), some (vI 1), some (vI (os.length : Nat)), some (vI g), some (vI lk)] [] h1 R := by
    intro nf  g lk  os  T1  fp1  m kd v f to  h1  g0 g1 k0 k1 hlt ho hT1 hl hm hO hi p0 z0 z1 z2 z3 pj hF ih hn
    have gl := hl.2.1
    have g1 := hT1.1
    obtain ⟨fs, x0⟩ := ho.ob
    have LA : ((os ++ [(g, lk)]).length : Nat) = os.length + 1 := by rw [List.length_append, List.length_singleton]
    have hO2 : ∀ p, p ∈ os ++ [(g, lk)] → ogOk p := fun p hp => by
      rcases List.mem_append.1 hp with q | q
      · exact hO p q
      · rw [List.mem_singleton.1 q]; exact ⟨⟨g0, by show g ≤ 29; omega⟩, k0, k1⟩
    have w2 := pk5_s (c := g) z2 (by rw [List.length_map]; omega) g0 (by omega)
    have w3 := pk4_s (c := lk) z3 (by rw [List.length_map]; omega) k0 (by omega)
    rw [List.length_map] at w2 w3
    have gd := dg_len g
    refine A.al15_1 dL_typesNode_679 ?_
    refine A.il15_6 dL_typesNode_680 ?_
    refine A.iconst dL_typesNode_682 ?_
    refine A.iadd dL_typesNode_683 ?_
    refine A.dup2 dL_typesNode_684 ?_
    refine A.iald dL_typesNode_685 ?_ (hc := p0)
    refine A.il15_13 dL_typesNode_686 ?_
    refine A.iconst dL_typesNode_688 ?_
    refine A.il15_12 dL_typesNode_689 ?_
    refine A.imul dL_typesNode_691 ?_
    refine A.ishl dL_typesNode_692 ?_
    refine A.ior dL_typesNode_693 ?_
    refine A.iast dL_typesNode_694 (fun h694 e694 f694 => ?_) (hc := p0)
    first | (have p0 := (f694.2 _ (by omega)).trans p0) | (have p0 := e694)
    have ho := ho.fr f694 (Nat.le_refl _)
    obtain ⟨fs, x0⟩ := ho.ob
    refine A.al15_1 dL_typesNode_695 ?_
    refine A.il15_6 dL_typesNode_696 ?_
    refine A.iconst dL_typesNode_698 ?_
    refine A.iadd dL_typesNode_699 ?_
    refine A.dup2 dL_typesNode_700 ?_
    refine A.iald dL_typesNode_701 ?_ (hc := p0)
    rw [show fset fp1 (4 * (ns.length : Int) + 2) (bOr (fp1 (4 * (ns.length : Int) + 2)) (bShl g (5 * (os.length : Nat)))) (4 * (ns.length : Int) + 3) = fp1 (4 * (ns.length : Int) + 3) from (fs_off (by omega)).trans (rfl)]
    refine A.il15_14 dL_typesNode_702 ?_
    refine A.iconst dL_typesNode_704 ?_
    refine A.il15_12 dL_typesNode_705 ?_
    refine A.imul dL_typesNode_707 ?_
    refine A.ishl dL_typesNode_708 ?_
    refine A.ior dL_typesNode_709 ?_
    refine A.iast dL_typesNode_710 (fun h710 e710 f710 => ?_) (hc := p0)
    first | (have p0 := (f710.2 _ (by omega)).trans p0) | (have p0 := e710)
    have ho := ho.fr f710 (Nat.le_refl _)
    obtain ⟨fs, x0⟩ := ho.ob
    have y0 : fset (fset fp1 (4 * (ns.length : Int) + 2) (bOr (fp1 (4 * (ns.length : Int) + 2)) (bShl g (5 * (os.length : Nat))))) (4 * (ns.length : Int) + 3) (bOr (fp1 (4 * (ns.length : Int) + 3)) (bShl lk (4 * (os.length : Nat)))) (4 * (ns.length : Int)) = 6 := (fs_off (by omega)).trans ((fs_off (by omega)).trans (z0))
    have y1 : fset (fset fp1 (4 * (ns.length : Int) + 2) (bOr (fp1 (4 * (ns.length : Int) + 2)) (bShl g (5 * (os.length : Nat))))) (4 * (ns.length : Int) + 3) (bOr (fp1 (4 * (ns.length : Int) + 3)) (bShl lk (4 * (os.length : Nat)))) (4 * (ns.length : Int) + 1) = (1 + lowF yy 3) := (fs_off (by omega)).trans ((fs_off (by omega)).trans (z1))
    have y2 : pk5 (fset (fset fp1 (4 * (ns.length : Int) + 2) (bOr (fp1 (4 * (ns.length : Int) + 2)) (bShl g (5 * (os.length : Nat))))) (4 * (ns.length : Int) + 3) (bOr (fp1 (4 * (ns.length : Int) + 3)) (bShl lk (4 * (os.length : Nat)))) (4 * (ns.length : Int) + 2)) ((os ++ [(g, lk)]).map Prod.fst) := by
      rw [show fset (fset fp1 (4 * (ns.length : Int) + 2) (bOr (fp1 (4 * (ns.length : Int) + 2)) (bShl g (5 * (os.length : Nat))))) (4 * (ns.length : Int) + 3) (bOr (fp1 (4 * (ns.length : Int) + 3)) (bShl lk (4 * (os.length : Nat)))) (4 * (ns.length : Int) + 2) = _ from (fs_off (by omega)).trans (fs_at rfl), List.map_append]
      exact w2
    have y3 : pk4 (fset (fset fp1 (4 * (ns.length : Int) + 2) (bOr (fp1 (4 * (ns.length : Int) + 2)) (bShl g (5 * (os.length : Nat))))) (4 * (ns.length : Int) + 3) (bOr (fp1 (4 * (ns.length : Int) + 3)) (bShl lk (4 * (os.length : Nat)))) (4 * (ns.length : Int) + 3)) ((os ++ [(g, lk)]).map Prod.snd) := by
      rw [show fset (fset fp1 (4 * (ns.length : Int) + 2) (bOr (fp1 (4 * (ns.length : Int) + 2)) (bShl g (5 * (os.length : Nat))))) (4 * (ns.length : Int) + 3) (bOr (fp1 (4 * (ns.length : Int) + 3)) (bShl lk (4 * (os.length : Nat)))) (4 * (ns.length : Int) + 3) = _ from fs_at rfl, List.map_append]
      exact w3
    have y4 : ∀ j : Int, 0 ≤ j → j < 4 * (ns.length : Nat) → fset (fset fp1 (4 * (ns.length : Int) + 2) (bOr (fp1 (4 * (ns.length : Int) + 2)) (bShl g (5 * (os.length : Nat))))) (4 * (ns.length : Int) + 3) (bOr (fp1 (4 * (ns.length : Int) + 3)) (bShl lk (4 * (os.length : Nat)))) j = fp j := fun j j0 j1 => (fs_off (by omega)).trans ((fs_off (by omega)).trans (pj j j0 j1))
    refine A.il15_11 dL_typesNode_711 ?_
    refine A.if_eq dL_typesNode_713 (fun c713 => by exfalso; omega) (fun c713 => ?_)
    refine A.il15_12 dL_typesNode_716 ?_
    refine A.if_eq dL_typesNode_718 (fun c718 => ?_) (fun c718 => ?_)
    · refine A.al15_0 dL_typesNode_730 ?_
      refine A.il15_13 dL_typesNode_731 ?_
      refine A.s2 dL_typesNode_733 (sL_typesNumber (v := g) ho hB hb hT hT1 hl (by omega) (by omega) (by omega) (fun h733 T733 hq733 ht733 hl733 F733 => kS ?_))
      have ho := hq733
      have hT1 := ht733
      have hl := hl733
      have gl := hl.2.1
      have g1 := hT1.1
      obtain ⟨fs, x0⟩ := ho.ob
      have p0 := F733.get p0 (by omega)
      refine A.if_eq dL_typesNode_736 (fun c736 => absurd c736 (by decide)) (fun c736 => ?_)
      refine A.il15_14 dL_typesNode_739 ?_
      refine A.if_eq dL_typesNode_741 (fun c741 => ?_) (fun c741 => ?_)
      · refine A.iconst dL_typesNode_782 ?_
        refine A.goto dL_typesNode_783 ?_
        refine A.is15_11 dL_typesNode_787 ?_
        refine A.ii15_12 dL_typesNode_789 ?_
        refine A.goto dL_typesNode_792 ?_
        have z := ih (os ++ [(g, lk)]) _ _ _ kd v f to _ (some (vI g)) (some (vI lk)) ho hT1 (spl_eq hl (by rw [show os = [] from List.length_eq_zero_iff.1 (by omega), oL_1, show lk = 0 by omega, og_0]; simp [oL]) rfl) (by rw [LA]; omega) hO2 (by rw [LA]; omega) p0 y0 y1 y2 y3 y4 ((((hF).trans (f694.two2 (by omega) (by omega))).trans (f710.two2 (by omega) (by omega))).trans (F733.two1 (by omega) (by omega))) (by rw [LA]; omega)
        rw [LA] at z
        exact z
      · refine A.al15_0 dL_typesNode_744 ?_
        refine A.il15_14 dL_typesNode_745 ?_
        refine A.iconst dL_typesNode_747 ?_
        refine A.irem dL_typesNode_748 ?_
        refine A.iconst dL_typesNode_749 ?_
        refine A.ic_ne dL_typesNode_750 (fun c750 => ?_) (fun c750 => ?_)
        · refine A.bipush dL_typesNode_758 ?_
          refine A.v1 dL_typesNode_760 (sL_ty ho hB hb hT hT1 hl (by omega) (by omega) (by omega) (fun h760 T760 hq760 ht760 hl760 F760 => kS ?_)) (hc := x0)
          have ho := hq760
          have hT1 := ht760
          have hl := hl760
          have gl := hl.2.1
          have g1 := hT1.1
          obtain ⟨fs, x0⟩ := ho.ob
          have p0 := F760.get p0 (by omega)
          refine A.if_le dL_typesNode_763 (fun c763 => by exfalso; omega) (fun c763 => ?_)
          refine A.al15_0 dL_typesNode_766 ?_
          refine A.bipush dL_typesNode_767 ?_
          refine A.il15_14 dL_typesNode_769 ?_
          refine A.iconst dL_typesNode_771 ?_
          refine A.isub dL_typesNode_772 ?_
          refine A.iconst dL_typesNode_773 ?_
          refine A.idiv dL_typesNode_774 ?_
          refine A.iadd dL_typesNode_775 ?_
          refine A.v1 dL_typesNode_776 (sL_ty ho hB hb hT hT1 hl (by omega) (by omega) (by omega) (fun h776 T776 hq776 ht776 hl776 F776 => kS ?_)) (hc := x0)
          have ho := hq776
          have hT1 := ht776
          have hl := hl776
          have gl := hl.2.1
          have g1 := hT1.1
          obtain ⟨fs, x0⟩ := ho.ob
          have p0 := F776.get p0 (by omega)
          refine A.if_le dL_typesNode_779 (fun c779 => by exfalso; omega) (fun c779 => ?_)
          refine A.iconst dL_typesNode_782 ?_
          refine A.goto dL_typesNode_783 ?_
          refine A.is15_11 dL_typesNode_787 ?_
          refine A.ii15_12 dL_typesNode_789 ?_
          refine A.goto dL_typesNode_792 ?_
          have z := ih (os ++ [(g, lk)]) _ _ _ kd v f to _ (some (vI g)) (some (vI lk)) ho hT1 (spl_eq hl (by rw [show os = [] from List.length_eq_zero_iff.1 (by omega), oL_1, og_e (by omega) (by omega)]; simp [oL]) rfl) (by rw [LA]; omega) hO2 (by rw [LA]; omega) p0 y0 y1 y2 y3 y4 ((((((hF).trans (f694.two2 (by omega) (by omega))).trans (f710.two2 (by omega) (by omega))).trans (F733.two1 (by omega) (by omega))).trans (F760.two1 (by omega) (by omega))).trans (F776.two1 (by omega) (by omega))) (by rw [LA]; omega)
          rw [LA] at z
          exact z
        · refine A.bipush dL_typesNode_753 ?_
          refine A.goto dL_typesNode_755 ?_
          refine A.v1 dL_typesNode_760 (sL_ty ho hB hb hT hT1 hl (by omega) (by omega) (by omega) (fun h760 T760 hq760 ht760 hl760 F760 => kS ?_)) (hc := x0)
          have ho := hq760
          have hT1 := ht760
          have hl := hl760
          have gl := hl.2.1
          have g1 := hT1.1
          obtain ⟨fs, x0⟩ := ho.ob
          have p0 := F760.get p0 (by omega)
          refine A.if_le dL_typesNode_763 (fun c763 => by exfalso; omega) (fun c763 => ?_)
          refine A.al15_0 dL_typesNode_766 ?_
          refine A.bipush dL_typesNode_767 ?_
          refine A.il15_14 dL_typesNode_769 ?_
          refine A.iconst dL_typesNode_771 ?_
          refine A.isub dL_typesNode_772 ?_
          refine A.iconst dL_typesNode_773 ?_
          refine A.idiv dL_typesNode_774 ?_
          refine A.iadd dL_typesNode_775 ?_
          refine A.v1 dL_typesNode_776 (sL_ty ho hB hb hT hT1 hl (by omega) (by omega) (by omega) (fun h776 T776 hq776 ht776 hl776 F776 => kS ?_)) (hc := x0)
          have ho := hq776
          have hT1 := ht776
          have hl := hl776
          have gl := hl.2.1
          have g1 := hT1.1
          obtain ⟨fs, x0⟩ := ho.ob
          have p0 := F776.get p0 (by omega)
          refine A.if_le dL_typesNode_779 (fun c779 => by exfalso; omega) (fun c779 => ?_)
          refine A.iconst dL_typesNode_782 ?_
          refine A.goto dL_typesNode_783 ?_
          refine A.is15_11 dL_typesNode_787 ?_
          refine A.ii15_12 dL_typesNode_789 ?_
          refine A.goto dL_typesNode_792 ?_
          have z := ih (os ++ [(g, lk)]) _ _ _ kd v f to _ (some (vI g)) (some (vI lk)) ho hT1 (spl_eq hl (by rw [show os = [] from List.length_eq_zero_iff.1 (by omega), oL_1, og_o (by omega) (by omega)]; simp [oL]) rfl) (by rw [LA]; omega) hO2 (by rw [LA]; omega) p0 y0 y1 y2 y3 y4 ((((((hF).trans (f694.two2 (by omega) (by omega))).trans (f710.two2 (by omega) (by omega))).trans (F733.two1 (by omega) (by omega))).trans (F760.two1 (by omega) (by omega))).trans (F776.two1 (by omega) (by omega))) (by rw [LA]; omega)
          rw [LA] at z
          exact z
    · refine A.al15_0 dL_typesNode_721 ?_
      refine A.bipush dL_typesNode_722 ?_
      refine A.v1 dL_typesNode_724 (sL_ty ho hB hb hT hT1 hl (by omega) (by omega) (by omega) (fun h724 T724 hq724 ht724 hl724 F724 => kS ?_)) (hc := x0)
      have ho := hq724
      have hT1 := ht724
      have hl := hl724
      have gl := hl.2.1
      have g1 := hT1.1
      obtain ⟨fs, x0⟩ := ho.ob
      have p0 := F724.get p0 (by omega)
      refine A.if_le dL_typesNode_727 (fun c727 => by exfalso; omega) (fun c727 => ?_)
      refine A.al15_0 dL_typesNode_730 ?_
      refine A.il15_13 dL_typesNode_731 ?_
      refine A.s2 dL_typesNode_733 (sL_typesNumber (v := g) ho hB hb hT hT1 hl (by omega) (by omega) (by omega) (fun h733 T733 hq733 ht733 hl733 F733 => kS ?_))
      have ho := hq733
      have hT1 := ht733
      have hl := hl733
      have gl := hl.2.1
      have g1 := hT1.1
      obtain ⟨fs, x0⟩ := ho.ob
      have p0 := F733.get p0 (by omega)
      refine A.if_eq dL_typesNode_736 (fun c736 => absurd c736 (by decide)) (fun c736 => ?_)
      refine A.il15_14 dL_typesNode_739 ?_
      refine A.if_eq dL_typesNode_741 (fun c741 => ?_) (fun c741 => ?_)
      · refine A.iconst dL_typesNode_782 ?_
        refine A.goto dL_typesNode_783 ?_
        refine A.is15_11 dL_typesNode_787 ?_
        refine A.ii15_12 dL_typesNode_789 ?_
        refine A.goto dL_typesNode_792 ?_
        have z := ih (os ++ [(g, lk)]) _ _ _ kd v f to _ (some (vI g)) (some (vI lk)) ho hT1 (spl_eq hl (by rw [oL_s (g, lk) (by omega), show lk = 0 by omega, og_0]; simp [oL]) rfl) (by rw [LA]; omega) hO2 (by rw [LA]; omega) p0 y0 y1 y2 y3 y4 (((((hF).trans (f694.two2 (by omega) (by omega))).trans (f710.two2 (by omega) (by omega))).trans (F724.two1 (by omega) (by omega))).trans (F733.two1 (by omega) (by omega))) (by rw [LA]; omega)
        rw [LA] at z
        exact z
      · refine A.al15_0 dL_typesNode_744 ?_
        refine A.il15_14 dL_typesNode_745 ?_
        refine A.iconst dL_typesNode_747 ?_
        refine A.irem dL_typesNode_748 ?_
        refine A.iconst dL_typesNode_749 ?_
        refine A.ic_ne dL_typesNode_750 (fun c750 => ?_) (fun c750 => ?_)
        · refine A.bipush dL_typesNode_758 ?_
          refine A.v1 dL_typesNode_760 (sL_ty ho hB hb hT hT1 hl (by omega) (by omega) (by omega) (fun h760 T760 hq760 ht760 hl760 F760 => kS ?_)) (hc := x0)
          have ho := hq760
          have hT1 := ht760
          have hl := hl760
          have gl := hl.2.1
          have g1 := hT1.1
          obtain ⟨fs, x0⟩ := ho.ob
          have p0 := F760.get p0 (by omega)
          refine A.if_le dL_typesNode_763 (fun c763 => by exfalso; omega) (fun c763 => ?_)
          refine A.al15_0 dL_typesNode_766 ?_
          refine A.bipush dL_typesNode_767 ?_
          refine A.il15_14 dL_typesNode_769 ?_
          refine A.iconst dL_typesNode_771 ?_
          refine A.isub dL_typesNode_772 ?_
          refine A.iconst dL_typesNode_773 ?_
          refine A.idiv dL_typesNode_774 ?_
          refine A.iadd dL_typesNode_775 ?_
          refine A.v1 dL_typesNode_776 (sL_ty ho hB hb hT hT1 hl (by omega) (by omega) (by omega) (fun h776 T776 hq776 ht776 hl776 F776 => kS ?_)) (hc := x0)
          have ho := hq776
          have hT1 := ht776
          have hl := hl776
          have gl := hl.2.1
          have g1 := hT1.1
          obtain ⟨fs, x0⟩ := ho.ob
          have p0 := F776.get p0 (by omega)
          refine A.if_le dL_typesNode_779 (fun c779 => by exfalso; omega) (fun c779 => ?_)
          refine A.iconst dL_typesNode_782 ?_
          refine A.goto dL_typesNode_783 ?_
          refine A.is15_11 dL_typesNode_787 ?_
          refine A.ii15_12 dL_typesNode_789 ?_
          refine A.goto dL_typesNode_792 ?_
          have z := ih (os ++ [(g, lk)]) _ _ _ kd v f to _ (some (vI g)) (some (vI lk)) ho hT1 (spl_eq hl (by rw [oL_s (g, lk) (by omega), og_e (by omega) (by omega)]; simp [oL]) rfl) (by rw [LA]; omega) hO2 (by rw [LA]; omega) p0 y0 y1 y2 y3 y4 (((((((hF).trans (f694.two2 (by omega) (by omega))).trans (f710.two2 (by omega) (by omega))).trans (F724.two1 (by omega) (by omega))).trans (F733.two1 (by omega) (by omega))).trans (F760.two1 (by omega) (by omega))).trans (F776.two1 (by omega) (by omega))) (by rw [LA]; omega)
          rw [LA] at z
          exact z
        · refine A.bipush dL_typesNode_753 ?_
          refine A.goto dL_typesNode_755 ?_
          refine A.v1 dL_typesNode_760 (sL_ty ho hB hb hT hT1 hl (by omega) (by omega) (by omega) (fun h760 T760 hq760 ht760 hl760 F760 => kS ?_)) (hc := x0)
          have ho := hq760
          have hT1 := ht760
          have hl := hl760
          have gl := hl.2.1
          have g1 := hT1.1
          obtain ⟨fs, x0⟩ := ho.ob
          have p0 := F760.get p0 (by omega)
          refine A.if_le dL_typesNode_763 (fun c763 => by exfalso; omega) (fun c763 => ?_)
          refine A.al15_0 dL_typesNode_766 ?_
          refine A.bipush dL_typesNode_767 ?_
          refine A.il15_14 dL_typesNode_769 ?_
          refine A.iconst dL_typesNode_771 ?_
          refine A.isub dL_typesNode_772 ?_
          refine A.iconst dL_typesNode_773 ?_
          refine A.idiv dL_typesNode_774 ?_
          refine A.iadd dL_typesNode_775 ?_
          refine A.v1 dL_typesNode_776 (sL_ty ho hB hb hT hT1 hl (by omega) (by omega) (by omega) (fun h776 T776 hq776 ht776 hl776 F776 => kS ?_)) (hc := x0)
          have ho := hq776
          have hT1 := ht776
          have hl := hl776
          have gl := hl.2.1
          have g1 := hT1.1
          obtain ⟨fs, x0⟩ := ho.ob
          have p0 := F776.get p0 (by omega)
          refine A.if_le dL_typesNode_779 (fun c779 => by exfalso; omega) (fun c779 => ?_)
          refine A.iconst dL_typesNode_782 ?_
          refine A.goto dL_typesNode_783 ?_
          refine A.is15_11 dL_typesNode_787 ?_
          refine A.ii15_12 dL_typesNode_789 ?_
          refine A.goto dL_typesNode_792 ?_
          have z := ih (os ++ [(g, lk)]) _ _ _ kd v f to _ (some (vI g)) (some (vI lk)) ho hT1 (spl_eq hl (by rw [oL_s (g, lk) (by omega), og_o (by omega) (by omega)]; simp [oL]) rfl) (by rw [LA]; omega) hO2 (by rw [LA]; omega) p0 y0 y1 y2 y3 y4 (((((((hF).trans (f694.two2 (by omega) (by omega))).trans (f710.two2 (by omega) (by omega))).trans (F724.two1 (by omega) (by omega))).trans (F733.two1 (by omega) (by omega))).trans (F760.two1 (by omega) (by omega))).trans (F776.two1 (by omega) (by omega))) (by rw [LA]; omega)
          rw [LA] at z
          exact z
  have loop : ∀ (nf : Nat) (os : List (Int × Int)) (T1 : TX) (fp1 : FN) (m kd v f to : Int) (h1 : AH) (x13 x14 : Option AV) (ho : pAt h1 x S P T1) (hT1 : txI T1) (hl : spl T T1 (99 :: oL os) m) (hm : m ≤ 1 + 5 * (os.length : Nat)) (hO : ∀ p, p ∈ os → ogOk p) (hi : (os.length : Int) ≤ (1 + lowF yy 3)) (p0 : h1.2 (x + 98) = some (kA 0 64 fp1)) (z0 : fp1 (4 * (ns.length : Int)) = 6) (z1 : fp1 (4 * (ns.length : Int) + 1) = (1 + lowF yy 3)) (z2 : pk5 (fp1 (4 * (ns.length : Int) + 2)) (os.map Prod.fst)) (z3 : pk4 (fp1 (4 * (ns.length : Int) + 3)) (os.map Prod.snd)) (pj : ∀ j : Int, 0 ≤ j → j < 4 * (ns.length : Nat) → fp1 j = fp j) (hF : Fr2 h h1 x 98 (x + 98) 1) (hn : 3 - os.length < nf), AW mL_typesNode (d + 8) (mC mL_typesNode, mS mL_typesNode) 612 [some (vR x), some (vR (x + 98)), some (vI (ns.length : Nat)), some (vI xx), some (vI yy), some (vI u), some (vI (4 * (ns.length : Nat))), some (vI kd), some (vI v), some (vI f), some (vI to), some (vI 1), some (vI (os.length : Nat)), x13, x14] [] h1 R := by
    intro nf
    induction nf with
    | zero => intro os  T1  fp1  m kd v f to  h1  x13 x14  ho hT1 hl hm hO hi p0 z0 z1 z2 z3 pj hF hn; omega
    | succ nf ih =>
      intro os  T1  fp1  m kd v f to  h1  x13 x14  ho hT1 hl hm hO hi p0 z0 z1 z2 z3 pj hF hn
      have gl := hl.2.1
      have g1 := hT1.1
      obtain ⟨fs, x0⟩ := ho.ob
      refine A.il15_12 dL_typesNode_612 ?_
      refine A.al15_1 dL_typesNode_614 ?_
      refine A.il15_6 dL_typesNode_615 ?_
      refine A.iconst dL_typesNode_617 ?_
      refine A.iadd dL_typesNode_618 ?_
      refine A.iald dL_typesNode_619 ?_ (hc := p0)
      rw [z1]
      refine A.ic_ge dL_typesNode_620 (fun c620 => ?_) (fun c620 => ?_)
      · refine A.goto dL_typesNode_795 ?_
        have e : (os.length : Int) = (1 + lowF yy 3) := by omega
        obtain ⟨o, os', rfl⟩ : ∃ o os', os = o :: os' := by
          cases os with
          | nil => exfalso; have : ((([] : List (Int × Int)).length : Nat) : Int) = 0 := rfl; omega
          | cons o os' => exact ⟨o, os', rfl⟩
        have l4 : os'.length < 4 := by have : (((o :: os').length : Nat) : Int) = os'.length + 1 := rfl; omega
        exact fin _ _ _ _ _ _ _ _ (6, [], (o :: os').map ogV) _ _ _ _ ho hT1 hl (by omega) (spells_6 hO l4) p0 (pIs_6 hO z0 (z1.trans e.symm) z2 z3) pj hF
      · have ra := low_rng (bShr yy (2 + 5 * (os.length : Nat))) (n := u + 1) (by omega)
        have rb := low_rng (bShr yy (18 + 3 * (os.length : Nat))) (n := 6) (by decide)
        refine A.il15_4 dL_typesNode_623 ?_
        refine A.iconst dL_typesNode_625 ?_
        refine A.iconst dL_typesNode_626 ?_
        refine A.il15_12 dL_typesNode_627 ?_
        refine A.imul dL_typesNode_629 ?_
        refine A.iadd dL_typesNode_630 ?_
        refine A.ishr dL_typesNode_631 ?_
        refine A.il15_5 dL_typesNode_632 ?_
        refine A.iconst dL_typesNode_634 ?_
        refine A.iadd dL_typesNode_635 ?_
        refine A.s2 dL_typesNode_636 (sL_low (by omega) (kS ?_))
        refine A.is15_13 dL_typesNode_639 ?_
        refine A.il15_4 dL_typesNode_641 ?_
        refine A.bipush dL_typesNode_643 ?_
        refine A.il15_12 dL_typesNode_645 ?_
        refine A.iadd dL_typesNode_647 ?_
        refine A.ishr dL_typesNode_648 ?_
        refine A.iconst dL_typesNode_649 ?_
        refine A.s2 dL_typesNode_650 (sL_low (by omega) (kS ?_))
        refine A.if_ne dL_typesNode_653 (fun c653 => ?_) (fun c653 => ?_)
        · refine A.iconst dL_typesNode_676 ?_
          refine A.is15_14 dL_typesNode_677 ?_
          exact mid nf _ _ os T1 fp1 m kd v f to h1 (by omega) (by omega) (by omega) (by omega) (by omega) ho hT1 hl hm hO hi p0 z0 z1 z2 z3 pj hF ih hn
        · refine A.iconst dL_typesNode_656 ?_
          refine A.il15_4 dL_typesNode_657 ?_
          refine A.bipush dL_typesNode_659 ?_
          refine A.iconst dL_typesNode_661 ?_
          refine A.il15_12 dL_typesNode_662 ?_
          refine A.imul dL_typesNode_664 ?_
          refine A.iadd dL_typesNode_665 ?_
          refine A.ishr dL_typesNode_666 ?_
          refine A.bipush dL_typesNode_667 ?_
          refine A.s2 dL_typesNode_669 (sL_low (by omega) (kS ?_))
          refine A.iadd dL_typesNode_672 ?_
          refine A.goto dL_typesNode_673 ?_
          refine A.is15_14 dL_typesNode_677 ?_
          exact mid nf _ _ os T1 fp1 m kd v f to h1 (by omega) (by omega) (by omega) (by omega) (by omega) ho hT1 hl hm hO hi p0 z0 z1 z2 z3 pj hF ih hn
  have kdc : ∀ (kd : Int) (k0 : 0 ≤ kd) (k1 : kd ≤ 7), AW mL_typesNode (d + 8) (mC mL_typesNode, mS mL_typesNode) 41 [some (vR x), some (vR (x + 98)), some (vI (ns.length : Nat)), some (vI xx), some (vI yy), some (vI u), some (vI (4 * (ns.length : Nat))), some (vI kd), none, none, none, none, none, none, none] [] h R := by
    intro kd  k0 k1
    refine A.al15_1 dL_typesNode_41 ?_
    refine A.il15_6 dL_typesNode_42 ?_
    refine A.il15_7 dL_typesNode_44 ?_
    refine A.iast dL_typesNode_46 (fun h46 e46 f46 => ?_) (hc := p0)
    first | (have p0 := (f46.2 _ (by omega)).trans p0) | (have p0 := e46)
    have ho := ho.fr f46 (Nat.le_refl _)
    obtain ⟨fs, x0⟩ := ho.ob
    refine A.al15_1 dL_typesNode_47 ?_
    refine A.il15_6 dL_typesNode_48 ?_
    refine A.iconst dL_typesNode_50 ?_
    refine A.iadd dL_typesNode_51 ?_
    refine A.bipush dL_typesNode_52 ?_
    refine A.iast dL_typesNode_54 (fun h54 e54 f54 => ?_) (hc := p0)
    first | (have p0 := (f54.2 _ (by omega)).trans p0) | (have p0 := e54)
    have ho := ho.fr f54 (Nat.le_refl _)
    obtain ⟨fs, x0⟩ := ho.ob
    refine A.al15_1 dL_typesNode_55 ?_
    refine A.il15_6 dL_typesNode_56 ?_
    refine A.iconst dL_typesNode_58 ?_
    refine A.iadd dL_typesNode_59 ?_
    refine A.bipush dL_typesNode_60 ?_
    refine A.iast dL_typesNode_62 (fun h62 e62 f62 => ?_) (hc := p0)
    first | (have p0 := (f62.2 _ (by omega)).trans p0) | (have p0 := e62)
    have ho := ho.fr f62 (Nat.le_refl _)
    obtain ⟨fs, x0⟩ := ho.ob
    refine A.al15_1 dL_typesNode_63 ?_
    refine A.il15_6 dL_typesNode_64 ?_
    refine A.iconst dL_typesNode_66 ?_
    refine A.iadd dL_typesNode_67 ?_
    refine A.bipush dL_typesNode_68 ?_
    refine A.iast dL_typesNode_70 (fun h70 e70 f70 => ?_) (hc := p0)
    first | (have p0 := (f70.2 _ (by omega)).trans p0) | (have p0 := e70)
    have ho := ho.fr f70 (Nat.le_refl _)
    obtain ⟨fs, x0⟩ := ho.ob
    refine A.il15_3 dL_typesNode_71 ?_
    refine A.iconst dL_typesNode_72 ?_
    refine A.ishr dL_typesNode_73 ?_
    refine A.bipush dL_typesNode_74 ?_
    refine A.s2 dL_typesNode_76 (sL_low (by omega) (kS ?_))
    refine A.is15_8 dL_typesNode_79 ?_
    refine A.il15_3 dL_typesNode_81 ?_
    refine A.iconst dL_typesNode_82 ?_
    refine A.ishr dL_typesNode_83 ?_
    refine A.iconst dL_typesNode_84 ?_
    refine A.s2 dL_typesNode_85 (sL_low (by omega) (kS ?_))
    refine A.is15_9 dL_typesNode_88 ?_
    refine A.il15_3 dL_typesNode_90 ?_
    refine A.bipush dL_typesNode_91 ?_
    refine A.ishr dL_typesNode_93 ?_
    refine A.il15_5 dL_typesNode_94 ?_
    refine A.iconst dL_typesNode_96 ?_
    refine A.iadd dL_typesNode_97 ?_
    refine A.s2 dL_typesNode_98 (sL_low (by omega) (kS ?_))
    refine A.is15_10 dL_typesNode_101 ?_
    refine A.iconst dL_typesNode_103 ?_
    refine A.is15_11 dL_typesNode_104 ?_
    refine A.il15_7 dL_typesNode_106 ?_
    refine A.tsw7 dL_typesNode_108 (fun c108 => ?_) (fun c108 => ?_) (fun c108 => ?_) (fun c108 => ?_) (fun c108 => ?_) (fun c108 => ?_) (fun c108 => ?_) (fun c108 => ?_)
    · refine A.al15_1 dL_typesNode_152 ?_
      refine A.il15_6 dL_typesNode_153 ?_
      refine A.iconst dL_typesNode_155 ?_
      refine A.iadd dL_typesNode_156 ?_
      refine A.il15_8 dL_typesNode_157 ?_
      refine A.iast dL_typesNode_159 (fun h159 e159 f159 => ?_) (hc := p0)
      first | (have p0 := (f159.2 _ (by omega)).trans p0) | (have p0 := e159)
      have ho := ho.fr f159 (Nat.le_refl _)
      obtain ⟨fs, x0⟩ := ho.ob
      refine A.al15_1 dL_typesNode_160 ?_
      refine A.il15_6 dL_typesNode_161 ?_
      refine A.iconst dL_typesNode_163 ?_
      refine A.iadd dL_typesNode_164 ?_
      refine A.il15_3 dL_typesNode_165 ?_
      refine A.bipush dL_typesNode_166 ?_
      refine A.ishr dL_typesNode_168 ?_
      refine A.bipush dL_typesNode_169 ?_
      refine A.s2 dL_typesNode_171 (sL_low (by omega) (kS ?_))
      refine A.iast dL_typesNode_174 (fun h174 e174 f174 => ?_) (hc := p0)
      first | (have p0 := (f174.2 _ (by omega)).trans p0) | (have p0 := e174)
      have ho := ho.fr f174 (Nat.le_refl _)
      obtain ⟨fs, x0⟩ := ho.ob
      refine A.al15_0 dL_typesNode_175 ?_
      refine A.bipush dL_typesNode_176 ?_
      refine A.v1 dL_typesNode_178 (sL_ty ho hB hb hT hT1 hl (by omega) (by omega) (by omega) (fun h178 T178 hq178 ht178 hl178 F178 => kS ?_)) (hc := x0)
      have ho := hq178
      have hT1 := ht178
      have hl := hl178
      have gl := hl.2.1
      have g1 := hT1.1
      obtain ⟨fs, x0⟩ := ho.ob
      have p0 := F178.get p0 (by omega)
      refine A.if_le dL_typesNode_181 (fun c181 => by exfalso; omega) (fun c181 => ?_)
      refine A.al15_0 dL_typesNode_184 ?_
      refine A.bipush dL_typesNode_185 ?_
      refine A.il15_8 dL_typesNode_187 ?_
      refine A.iadd dL_typesNode_189 ?_
      refine A.v1 dL_typesNode_190 (sL_ty ho hB hb hT hT1 hl (by omega) (by omega) (by omega) (fun h190 T190 hq190 ht190 hl190 F190 => kS ?_)) (hc := x0)
      have ho := hq190
      have hT1 := ht190
      have hl := hl190
      have gl := hl.2.1
      have g1 := hT1.1
      obtain ⟨fs, x0⟩ := ho.ob
      have p0 := F190.get p0 (by omega)
      refine A.if_le dL_typesNode_193 (fun c193 => by exfalso; omega) (fun c193 => ?_)
      refine A.al15_0 dL_typesNode_196 ?_
      refine A.al15_1 dL_typesNode_197 ?_
      refine A.il15_6 dL_typesNode_198 ?_
      refine A.iconst dL_typesNode_200 ?_
      refine A.iadd dL_typesNode_201 ?_
      refine A.iald dL_typesNode_202 ?_ (hc := p0)
      rw [show (fset (fset (fset (fset (fset (fset fp (4 * (ns.length : Int)) kd) (4 * (ns.length : Int) + 1) (-11)) (4 * (ns.length : Int) + 2) (-11)) (4 * (ns.length : Int) + 3) (-11)) (4 * (ns.length : Int) + 1) (lowF (bShr xx 4) 6)) (4 * (ns.length : Int) + 2) (lowF (bShr xx 7) 100)) (4 * (ns.length : Int) + 2) = lowF (bShr xx 7) 100 from (fs_at rfl)]
      refine A.s2 dL_typesNode_203 (sL_typesNumber (v := (lowF (bShr xx 7) 100)) ho hB hb hT hT1 hl (by omega) (by omega) (by omega) (fun h203 T203 hq203 ht203 hl203 F203 => kS ?_))
      have ho := hq203
      have hT1 := ht203
      have hl := hl203
      have gl := hl.2.1
      have g1 := hT1.1
      obtain ⟨fs, x0⟩ := ho.ob
      have p0 := F203.get p0 (by omega)
      have gd := dg_len (lowF (bShr xx 7) 100)
      refine A.if_eq dL_typesNode_206 (fun c206 => absurd c206 (by decide)) (fun c206 => ?_)
      refine A.iconst dL_typesNode_209 ?_
      refine A.goto dL_typesNode_210 ?_
      refine A.is15_11 dL_typesNode_214 ?_
      refine A.goto dL_typesNode_216 ?_
      first
        | (exfalso; omega)
        | (have sp := spells_0 (v := (lowF (bShr xx 4) 6)) (n := lowF (bShr xx 7) 100) (by omega) (by omega) (by omega) (by omega)
           exact fin _ _ _ _ _ _ _ _ (0, [(lowF (bShr xx 4) 6), lowF (bShr xx 7) 100], []) _ _ _ _ ho hT1 hl (by omega) sp p0 ⟨((fs_off (by omega)).trans ((fs_off (by omega)).trans ((fs_off (by omega)).trans ((fs_off (by omega)).trans ((fs_off (by omega)).trans (fs_at rfl)))))).trans (show kd = 0 by omega), fun _ => ⟨((fs_off (by omega)).trans (fs_at rfl)), (fs_at rfl), ((fs_off (by omega)).trans ((fs_off (by omega)).trans (fs_at rfl)))⟩, fun z => absurd z (show ¬ (0 : Int) = 6 by decide)⟩ (fun j j0 j1 => (fs_off (by omega)).trans ((fs_off (by omega)).trans ((fs_off (by omega)).trans ((fs_off (by omega)).trans ((fs_off (by omega)).trans ((fs_off (by omega)).trans (rfl))))))) ((Fr2.rfl.trans (f46.two2 (by omega) (by omega))).trans (f54.two2 (by omega) (by omega)) |>.trans (f62.two2 (by omega) (by omega)) |>.trans (f70.two2 (by omega) (by omega)) |>.trans (f159.two2 (by omega) (by omega)) |>.trans (f174.two2 (by omega) (by omega)) |>.trans (F178.two1 (by omega) (by omega)) |>.trans (F190.two1 (by omega) (by omega)) |>.trans (F203.two1 (by omega) (by omega))))
    · refine A.al15_1 dL_typesNode_219 ?_
      refine A.il15_6 dL_typesNode_220 ?_
      refine A.iconst dL_typesNode_222 ?_
      refine A.iadd dL_typesNode_223 ?_
      refine A.il15_8 dL_typesNode_224 ?_
      refine A.iast dL_typesNode_226 (fun h226 e226 f226 => ?_) (hc := p0)
      first | (have p0 := (f226.2 _ (by omega)).trans p0) | (have p0 := e226)
      have ho := ho.fr f226 (Nat.le_refl _)
      obtain ⟨fs, x0⟩ := ho.ob
      refine A.al15_1 dL_typesNode_227 ?_
      refine A.il15_6 dL_typesNode_228 ?_
      refine A.iconst dL_typesNode_230 ?_
      refine A.iadd dL_typesNode_231 ?_
      refine A.il15_3 dL_typesNode_232 ?_
      refine A.bipush dL_typesNode_233 ?_
      refine A.ishr dL_typesNode_235 ?_
      refine A.iconst dL_typesNode_236 ?_
      refine A.s2 dL_typesNode_237 (sL_low (by omega) (kS ?_))
      refine A.iast dL_typesNode_240 (fun h240 e240 f240 => ?_) (hc := p0)
      first | (have p0 := (f240.2 _ (by omega)).trans p0) | (have p0 := e240)
      have ho := ho.fr f240 (Nat.le_refl _)
      obtain ⟨fs, x0⟩ := ho.ob
      refine A.al15_1 dL_typesNode_241 ?_
      refine A.il15_6 dL_typesNode_242 ?_
      refine A.iconst dL_typesNode_244 ?_
      refine A.iadd dL_typesNode_245 ?_
      refine A.il15_3 dL_typesNode_246 ?_
      refine A.bipush dL_typesNode_247 ?_
      refine A.ishr dL_typesNode_249 ?_
      refine A.iconst dL_typesNode_250 ?_
      refine A.s2 dL_typesNode_251 (sL_low (by omega) (kS ?_))
      refine A.iast dL_typesNode_254 (fun h254 e254 f254 => ?_) (hc := p0)
      first | (have p0 := (f254.2 _ (by omega)).trans p0) | (have p0 := e254)
      have ho := ho.fr f254 (Nat.le_refl _)
      obtain ⟨fs, x0⟩ := ho.ob
      refine A.al15_0 dL_typesNode_255 ?_
      refine A.bipush dL_typesNode_256 ?_
      refine A.v1 dL_typesNode_258 (sL_ty ho hB hb hT hT1 hl (by omega) (by omega) (by omega) (fun h258 T258 hq258 ht258 hl258 F258 => kS ?_)) (hc := x0)
      have ho := hq258
      have hT1 := ht258
      have hl := hl258
      have gl := hl.2.1
      have g1 := hT1.1
      obtain ⟨fs, x0⟩ := ho.ob
      have p0 := F258.get p0 (by omega)
      refine A.if_le dL_typesNode_261 (fun c261 => by exfalso; omega) (fun c261 => ?_)
      refine A.al15_0 dL_typesNode_264 ?_
      refine A.bipush dL_typesNode_265 ?_
      refine A.il15_8 dL_typesNode_267 ?_
      refine A.iadd dL_typesNode_269 ?_
      refine A.v1 dL_typesNode_270 (sL_ty ho hB hb hT hT1 hl (by omega) (by omega) (by omega) (fun h270 T270 hq270 ht270 hl270 F270 => kS ?_)) (hc := x0)
      have ho := hq270
      have hT1 := ht270
      have hl := hl270
      have gl := hl.2.1
      have g1 := hT1.1
      obtain ⟨fs, x0⟩ := ho.ob
      have p0 := F270.get p0 (by omega)
      refine A.if_le dL_typesNode_273 (fun c273 => by exfalso; omega) (fun c273 => ?_)
      refine A.al15_0 dL_typesNode_276 ?_
      refine A.bipush dL_typesNode_277 ?_
      refine A.al15_1 dL_typesNode_279 ?_
      refine A.il15_6 dL_typesNode_280 ?_
      refine A.iconst dL_typesNode_282 ?_
      refine A.iadd dL_typesNode_283 ?_
      refine A.iald dL_typesNode_284 ?_ (hc := p0)
      rw [show (fset (fset (fset (fset (fset (fset (fset fp (4 * (ns.length : Int)) kd) (4 * (ns.length : Int) + 1) (-11)) (4 * (ns.length : Int) + 2) (-11)) (4 * (ns.length : Int) + 3) (-11)) (4 * (ns.length : Int) + 1) (lowF (bShr xx 4) 6)) (4 * (ns.length : Int) + 2) (lowF (bShr xx 7) 3)) (4 * (ns.length : Int) + 3) (lowF (bShr xx 9) 5)) (4 * (ns.length : Int) + 2) = lowF (bShr xx 7) 3 from ((fs_off (by omega)).trans (fs_at rfl))]
      refine A.iadd dL_typesNode_285 ?_
      refine A.v1 dL_typesNode_286 (sL_ty ho hB hb hT hT1 hl (by omega) (by omega) (by omega) (fun h286 T286 hq286 ht286 hl286 F286 => kS ?_)) (hc := x0)
      have ho := hq286
      have hT1 := ht286
      have hl := hl286
      have gl := hl.2.1
      have g1 := hT1.1
      obtain ⟨fs, x0⟩ := ho.ob
      have p0 := F286.get p0 (by omega)
      refine A.if_le dL_typesNode_289 (fun c289 => by exfalso; omega) (fun c289 => ?_)
      refine A.al15_0 dL_typesNode_292 ?_
      refine A.v0 dL_typesNode_293 (s5_fault ho hB hb hT1 (fun h293 hq293 F293 => kS ?_)) (hc := x0)
      rw [rdy_want hr (v := (lowF (bShr xx 4) 6)) (p := lowF (bShr xx 7) 3) (by omega) (by omega) (by omega) (by omega) hl]
      have ho := hq293
      have p0 := F293.get p0 (by omega)
      obtain ⟨fs, x0⟩ := ho.ob
      refine A.al15_0 dL_typesNode_296 ?_
      refine A.bipush dL_typesNode_297 ?_
      refine A.v1 dL_typesNode_299 (s5_count ho hB hb hT1 (kS ?_)) (hc := x0)
      rw [co_6]
      refine A.ic_ne dL_typesNode_302 (fun c302 => absurd rfl c302) (fun c302 => ?_)
      refine A.al15_0 dL_typesNode_305 ?_
      refine A.bipush dL_typesNode_306 ?_
      refine A.v1 dL_typesNode_308 (sL_ty ho hB hb hT hT1 hl (by omega) (by omega) (by omega) (fun h308 T308 hq308 ht308 hl308 F308 => kS ?_)) (hc := x0)
      have ho := hq308
      have hT1 := ht308
      have hl := hl308
      have gl := hl.2.1
      have g1 := hT1.1
      obtain ⟨fs, x0⟩ := ho.ob
      have p0 := F308.get p0 (by omega)
      refine A.if_le dL_typesNode_311 (fun c311 => by exfalso; omega) (fun c311 => ?_)
      refine A.al15_0 dL_typesNode_314 ?_
      refine A.bipush dL_typesNode_315 ?_
      refine A.al15_1 dL_typesNode_317 ?_
      refine A.il15_6 dL_typesNode_318 ?_
      refine A.iconst dL_typesNode_320 ?_
      refine A.iadd dL_typesNode_321 ?_
      refine A.iald dL_typesNode_322 ?_ (hc := p0)
      rw [show (fset (fset (fset (fset (fset (fset (fset fp (4 * (ns.length : Int)) kd) (4 * (ns.length : Int) + 1) (-11)) (4 * (ns.length : Int) + 2) (-11)) (4 * (ns.length : Int) + 3) (-11)) (4 * (ns.length : Int) + 1) (lowF (bShr xx 4) 6)) (4 * (ns.length : Int) + 2) (lowF (bShr xx 7) 3)) (4 * (ns.length : Int) + 3) (lowF (bShr xx 9) 5)) (4 * (ns.length : Int) + 3) = lowF (bShr xx 9) 5 from (fs_at rfl)]
      refine A.iadd dL_typesNode_323 ?_
      refine A.v1 dL_typesNode_324 (sL_ty ho hB hb hT hT1 hl (by omega) (by omega) (by omega) (fun h324 T324 hq324 ht324 hl324 F324 => kS ?_)) (hc := x0)
      have ho := hq324
      have hT1 := ht324
      have hl := hl324
      have gl := hl.2.1
      have g1 := hT1.1
      obtain ⟨fs, x0⟩ := ho.ob
      have p0 := F324.get p0 (by omega)
      refine A.if_le dL_typesNode_327 (fun c327 => by exfalso; omega) (fun c327 => ?_)
      refine A.iconst dL_typesNode_330 ?_
      refine A.goto dL_typesNode_331 ?_
      refine A.is15_11 dL_typesNode_335 ?_
      refine A.goto dL_typesNode_337 ?_
      first
        | (exfalso; omega)
        | (have sp := spells_1 (v := (lowF (bShr xx 4) 6)) (p := lowF (bShr xx 7) 3) (f := lowF (bShr xx 9) 5) (by omega) (by omega) (by omega) (by omega) (by omega) (by omega)
           exact fin _ _ _ _ _ _ _ _ (1, [(lowF (bShr xx 4) 6), lowF (bShr xx 7) 3, lowF (bShr xx 9) 5], []) _ _ _ _ ho hT1 hl (by omega) sp p0 ⟨((fs_off (by omega)).trans ((fs_off (by omega)).trans ((fs_off (by omega)).trans ((fs_off (by omega)).trans ((fs_off (by omega)).trans ((fs_off (by omega)).trans (fs_at rfl))))))).trans (show kd = 1 by omega), fun _ => ⟨((fs_off (by omega)).trans ((fs_off (by omega)).trans (fs_at rfl))), ((fs_off (by omega)).trans (fs_at rfl)), (fs_at rfl)⟩, fun z => absurd z (show ¬ (1 : Int) = 6 by decide)⟩ (fun j j0 j1 => (fs_off (by omega)).trans ((fs_off (by omega)).trans ((fs_off (by omega)).trans ((fs_off (by omega)).trans ((fs_off (by omega)).trans ((fs_off (by omega)).trans ((fs_off (by omega)).trans (rfl)))))))) ((Fr2.rfl.trans (f46.two2 (by omega) (by omega))).trans (f54.two2 (by omega) (by omega)) |>.trans (f62.two2 (by omega) (by omega)) |>.trans (f70.two2 (by omega) (by omega)) |>.trans (f226.two2 (by omega) (by omega)) |>.trans (f240.two2 (by omega) (by omega)) |>.trans (f254.two2 (by omega) (by omega)) |>.trans (F258.two1 (by omega) (by omega)) |>.trans (F270.two1 (by omega) (by omega)) |>.trans (F286.two1 (by omega) (by omega)) |>.trans (F293.two1 (by omega) (by omega)) |>.trans (F308.two1 (by omega) (by omega)) |>.trans (F324.two1 (by omega) (by omega))))
    · refine A.al15_1 dL_typesNode_340 ?_
      refine A.il15_6 dL_typesNode_341 ?_
      refine A.iconst dL_typesNode_343 ?_
      refine A.iadd dL_typesNode_344 ?_
      refine A.il15_8 dL_typesNode_345 ?_
      refine A.iast dL_typesNode_347 (fun h347 e347 f347 => ?_) (hc := p0)
      first | (have p0 := (f347.2 _ (by omega)).trans p0) | (have p0 := e347)
      have ho := ho.fr f347 (Nat.le_refl _)
      obtain ⟨fs, x0⟩ := ho.ob
      refine A.al15_0 dL_typesNode_348 ?_
      refine A.bipush dL_typesNode_349 ?_
      refine A.v1 dL_typesNode_351 (sL_ty ho hB hb hT hT1 hl (by omega) (by omega) (by omega) (fun h351 T351 hq351 ht351 hl351 F351 => kS ?_)) (hc := x0)
      have ho := hq351
      have hT1 := ht351
      have hl := hl351
      have gl := hl.2.1
      have g1 := hT1.1
      obtain ⟨fs, x0⟩ := ho.ob
      have p0 := F351.get p0 (by omega)
      refine A.if_le dL_typesNode_354 (fun c354 => by exfalso; omega) (fun c354 => ?_)
      refine A.al15_0 dL_typesNode_357 ?_
      refine A.bipush dL_typesNode_358 ?_
      refine A.il15_8 dL_typesNode_360 ?_
      refine A.iadd dL_typesNode_362 ?_
      refine A.v1 dL_typesNode_363 (sL_ty ho hB hb hT hT1 hl (by omega) (by omega) (by omega) (fun h363 T363 hq363 ht363 hl363 F363 => kS ?_)) (hc := x0)
      have ho := hq363
      have hT1 := ht363
      have hl := hl363
      have gl := hl.2.1
      have g1 := hT1.1
      obtain ⟨fs, x0⟩ := ho.ob
      have p0 := F363.get p0 (by omega)
      refine A.if_le dL_typesNode_366 (fun c366 => by exfalso; omega) (fun c366 => ?_)
      refine A.iconst dL_typesNode_369 ?_
      refine A.goto dL_typesNode_370 ?_
      refine A.is15_11 dL_typesNode_374 ?_
      refine A.goto dL_typesNode_376 ?_
      first
        | (exfalso; omega)
        | (have sp := spells_2 (v := (lowF (bShr xx 4) 6)) (by omega) (by omega)
           exact fin _ _ _ _ _ _ _ _ (2, [(lowF (bShr xx 4) 6)], []) _ _ _ _ ho hT1 hl (by omega) sp p0 ⟨((fs_off (by omega)).trans ((fs_off (by omega)).trans ((fs_off (by omega)).trans ((fs_off (by omega)).trans (fs_at rfl))))).trans (show kd = 2 by omega), fun _ => ⟨(fs_at rfl), ((fs_off (by omega)).trans ((fs_off (by omega)).trans (fs_at rfl))), ((fs_off (by omega)).trans (fs_at rfl))⟩, fun z => absurd z (show ¬ (2 : Int) = 6 by decide)⟩ (fun j j0 j1 => (fs_off (by omega)).trans ((fs_off (by omega)).trans ((fs_off (by omega)).trans ((fs_off (by omega)).trans ((fs_off (by omega)).trans (rfl)))))) ((Fr2.rfl.trans (f46.two2 (by omega) (by omega))).trans (f54.two2 (by omega) (by omega)) |>.trans (f62.two2 (by omega) (by omega)) |>.trans (f70.two2 (by omega) (by omega)) |>.trans (f347.two2 (by omega) (by omega)) |>.trans (F351.two1 (by omega) (by omega)) |>.trans (F363.two1 (by omega) (by omega))))
    · refine A.al15_1 dL_typesNode_379 ?_
      refine A.il15_6 dL_typesNode_380 ?_
      refine A.iconst dL_typesNode_382 ?_
      refine A.iadd dL_typesNode_383 ?_
      refine A.il15_9 dL_typesNode_384 ?_
      refine A.iast dL_typesNode_386 (fun h386 e386 f386 => ?_) (hc := p0)
      first | (have p0 := (f386.2 _ (by omega)).trans p0) | (have p0 := e386)
      have ho := ho.fr f386 (Nat.le_refl _)
      obtain ⟨fs, x0⟩ := ho.ob
      refine A.al15_1 dL_typesNode_387 ?_
      refine A.il15_6 dL_typesNode_388 ?_
      refine A.iconst dL_typesNode_390 ?_
      refine A.iadd dL_typesNode_391 ?_
      refine A.il15_3 dL_typesNode_392 ?_
      refine A.bipush dL_typesNode_393 ?_
      refine A.ishr dL_typesNode_395 ?_
      refine A.iconst dL_typesNode_396 ?_
      refine A.s2 dL_typesNode_397 (sL_low (by omega) (kS ?_))
      refine A.if_le dL_typesNode_400 (fun c400 => ?_) (fun c400 => ?_)
      · refine A.iconst dL_typesNode_407 ?_
        refine A.iast dL_typesNode_408 (fun h408 e408 f408 => ?_) (hc := p0)
        first | (have p0 := (f408.2 _ (by omega)).trans p0) | (have p0 := e408)
        have ho := ho.fr f408 (Nat.le_refl _)
        obtain ⟨fs, x0⟩ := ho.ob
        refine A.al15_0 dL_typesNode_409 ?_
        refine A.bipush dL_typesNode_410 ?_
        refine A.v1 dL_typesNode_412 (sL_ty ho hB hb hT hT1 hl (by omega) (by omega) (by omega) (fun h412 T412 hq412 ht412 hl412 F412 => kS ?_)) (hc := x0)
        have ho := hq412
        have hT1 := ht412
        have hl := hl412
        have gl := hl.2.1
        have g1 := hT1.1
        obtain ⟨fs, x0⟩ := ho.ob
        have p0 := F412.get p0 (by omega)
        refine A.if_le dL_typesNode_415 (fun c415 => by exfalso; omega) (fun c415 => ?_)
        refine A.al15_0 dL_typesNode_418 ?_
        refine A.bipush dL_typesNode_419 ?_
        refine A.il15_9 dL_typesNode_421 ?_
        refine A.iadd dL_typesNode_423 ?_
        refine A.v1 dL_typesNode_424 (sL_ty ho hB hb hT hT1 hl (by omega) (by omega) (by omega) (fun h424 T424 hq424 ht424 hl424 F424 => kS ?_)) (hc := x0)
        have ho := hq424
        have hT1 := ht424
        have hl := hl424
        have gl := hl.2.1
        have g1 := hT1.1
        obtain ⟨fs, x0⟩ := ho.ob
        have p0 := F424.get p0 (by omega)
        refine A.if_le dL_typesNode_427 (fun c427 => by exfalso; omega) (fun c427 => ?_)
        refine A.al15_0 dL_typesNode_430 ?_
        refine A.al15_1 dL_typesNode_431 ?_
        refine A.il15_6 dL_typesNode_432 ?_
        refine A.iconst dL_typesNode_434 ?_
        refine A.iadd dL_typesNode_435 ?_
        refine A.iald dL_typesNode_436 ?_ (hc := p0)
        first | rw [show (fset (fset (fset (fset (fset (fset fp (4 * (ns.length : Int)) kd) (4 * (ns.length : Int) + 1) (-11)) (4 * (ns.length : Int) + 2) (-11)) (4 * (ns.length : Int) + 3) (-11)) (4 * (ns.length : Int) + 1) (lowF (bShr xx 4) 3)) (4 * (ns.length : Int) + 2) 1) (4 * (ns.length : Int) + 2) = 1 from fs_at rfl] | rw [show (fset (fset (fset (fset (fset (fset fp (4 * (ns.length : Int)) kd) (4 * (ns.length : Int) + 1) (-11)) (4 * (ns.length : Int) + 2) (-11)) (4 * (ns.length : Int) + 3) (-11)) (4 * (ns.length : Int) + 1) (lowF (bShr xx 4) 3)) (4 * (ns.length : Int) + 2) 0) (4 * (ns.length : Int) + 2) = 0 from fs_at rfl]
        refine A.iconst dL_typesNode_437 ?_
        refine A.ic_ne dL_typesNode_438 (fun c438 => ?_) (fun c438 => ?_)
        · refine A.bipush dL_typesNode_446 ?_
          refine A.v1 dL_typesNode_448 (sL_ty ho hB hb hT hT1 hl (by omega) (by omega) (by omega) (fun h448 T448 hq448 ht448 hl448 F448 => kS ?_)) (hc := x0)
          have ho := hq448
          have hT1 := ht448
          have hl := hl448
          have gl := hl.2.1
          have g1 := hT1.1
          obtain ⟨fs, x0⟩ := ho.ob
          have p0 := F448.get p0 (by omega)
          refine A.if_le dL_typesNode_451 (fun c451 => by exfalso; omega) (fun c451 => ?_)
          refine A.iconst dL_typesNode_454 ?_
          refine A.goto dL_typesNode_455 ?_
          refine A.is15_11 dL_typesNode_459 ?_
          refine A.goto dL_typesNode_461 ?_
          first
            | (exfalso; omega)
            | (have sp := spells_3 (f := (lowF (bShr xx 4) 3)) (s := 0) (c := 45) (by omega) (by omega) (Or.inr ⟨rfl, rfl⟩)
               exact fin _ _ _ _ _ _ _ _ (3, [(lowF (bShr xx 4) 3), 0], []) _ _ _ _ ho hT1 hl (by omega) sp p0 ⟨((fs_off (by omega)).trans ((fs_off (by omega)).trans ((fs_off (by omega)).trans ((fs_off (by omega)).trans ((fs_off (by omega)).trans (fs_at rfl)))))).trans (show kd = 3 by omega), fun _ => ⟨((fs_off (by omega)).trans (fs_at rfl)), (fs_at rfl), ((fs_off (by omega)).trans ((fs_off (by omega)).trans (fs_at rfl)))⟩, fun z => absurd z (show ¬ (3 : Int) = 6 by decide)⟩ (fun j j0 j1 => (fs_off (by omega)).trans ((fs_off (by omega)).trans ((fs_off (by omega)).trans ((fs_off (by omega)).trans ((fs_off (by omega)).trans ((fs_off (by omega)).trans (rfl))))))) ((Fr2.rfl.trans (f46.two2 (by omega) (by omega))).trans (f54.two2 (by omega) (by omega)) |>.trans (f62.two2 (by omega) (by omega)) |>.trans (f70.two2 (by omega) (by omega)) |>.trans (f386.two2 (by omega) (by omega)) |>.trans (f408.two2 (by omega) (by omega)) |>.trans (F412.two1 (by omega) (by omega)) |>.trans (F424.two1 (by omega) (by omega)) |>.trans (F448.two1 (by omega) (by omega))))
        · refine A.bipush dL_typesNode_441 ?_
          refine A.goto dL_typesNode_443 ?_
          refine A.v1 dL_typesNode_448 (sL_ty ho hB hb hT hT1 hl (by omega) (by omega) (by omega) (fun h448 T448 hq448 ht448 hl448 F448 => kS ?_)) (hc := x0)
          have ho := hq448
          have hT1 := ht448
          have hl := hl448
          have gl := hl.2.1
          have g1 := hT1.1
          obtain ⟨fs, x0⟩ := ho.ob
          have p0 := F448.get p0 (by omega)
          refine A.if_le dL_typesNode_451 (fun c451 => by exfalso; omega) (fun c451 => ?_)
          refine A.iconst dL_typesNode_454 ?_
          refine A.goto dL_typesNode_455 ?_
          refine A.is15_11 dL_typesNode_459 ?_
          refine A.goto dL_typesNode_461 ?_
          first
            | (exfalso; omega)
            | (have sp := spells_3 (f := (lowF (bShr xx 4) 3)) (s := 1) (c := 43) (by omega) (by omega) (Or.inl ⟨rfl, rfl⟩)
               exact fin _ _ _ _ _ _ _ _ (3, [(lowF (bShr xx 4) 3), 1], []) _ _ _ _ ho hT1 hl (by omega) sp p0 ⟨((fs_off (by omega)).trans ((fs_off (by omega)).trans ((fs_off (by omega)).trans ((fs_off (by omega)).trans ((fs_off (by omega)).trans (fs_at rfl)))))).trans (show kd = 3 by omega), fun _ => ⟨((fs_off (by omega)).trans (fs_at rfl)), (fs_at rfl), ((fs_off (by omega)).trans ((fs_off (by omega)).trans (fs_at rfl)))⟩, fun z => absurd z (show ¬ (3 : Int) = 6 by decide)⟩ (fun j j0 j1 => (fs_off (by omega)).trans ((fs_off (by omega)).trans ((fs_off (by omega)).trans ((fs_off (by omega)).trans ((fs_off (by omega)).trans ((fs_off (by omega)).trans (rfl))))))) ((Fr2.rfl.trans (f46.two2 (by omega) (by omega))).trans (f54.two2 (by omega) (by omega)) |>.trans (f62.two2 (by omega) (by omega)) |>.trans (f70.two2 (by omega) (by omega)) |>.trans (f386.two2 (by omega) (by omega)) |>.trans (f408.two2 (by omega) (by omega)) |>.trans (F412.two1 (by omega) (by omega)) |>.trans (F424.two1 (by omega) (by omega)) |>.trans (F448.two1 (by omega) (by omega))))
      · refine A.iconst dL_typesNode_403 ?_
        refine A.goto dL_typesNode_404 ?_
        refine A.iast dL_typesNode_408 (fun h408 e408 f408 => ?_) (hc := p0)
        first | (have p0 := (f408.2 _ (by omega)).trans p0) | (have p0 := e408)
        have ho := ho.fr f408 (Nat.le_refl _)
        obtain ⟨fs, x0⟩ := ho.ob
        refine A.al15_0 dL_typesNode_409 ?_
        refine A.bipush dL_typesNode_410 ?_
        refine A.v1 dL_typesNode_412 (sL_ty ho hB hb hT hT1 hl (by omega) (by omega) (by omega) (fun h412 T412 hq412 ht412 hl412 F412 => kS ?_)) (hc := x0)
        have ho := hq412
        have hT1 := ht412
        have hl := hl412
        have gl := hl.2.1
        have g1 := hT1.1
        obtain ⟨fs, x0⟩ := ho.ob
        have p0 := F412.get p0 (by omega)
        refine A.if_le dL_typesNode_415 (fun c415 => by exfalso; omega) (fun c415 => ?_)
        refine A.al15_0 dL_typesNode_418 ?_
        refine A.bipush dL_typesNode_419 ?_
        refine A.il15_9 dL_typesNode_421 ?_
        refine A.iadd dL_typesNode_423 ?_
        refine A.v1 dL_typesNode_424 (sL_ty ho hB hb hT hT1 hl (by omega) (by omega) (by omega) (fun h424 T424 hq424 ht424 hl424 F424 => kS ?_)) (hc := x0)
        have ho := hq424
        have hT1 := ht424
        have hl := hl424
        have gl := hl.2.1
        have g1 := hT1.1
        obtain ⟨fs, x0⟩ := ho.ob
        have p0 := F424.get p0 (by omega)
        refine A.if_le dL_typesNode_427 (fun c427 => by exfalso; omega) (fun c427 => ?_)
        refine A.al15_0 dL_typesNode_430 ?_
        refine A.al15_1 dL_typesNode_431 ?_
        refine A.il15_6 dL_typesNode_432 ?_
        refine A.iconst dL_typesNode_434 ?_
        refine A.iadd dL_typesNode_435 ?_
        refine A.iald dL_typesNode_436 ?_ (hc := p0)
        first | rw [show (fset (fset (fset (fset (fset (fset fp (4 * (ns.length : Int)) kd) (4 * (ns.length : Int) + 1) (-11)) (4 * (ns.length : Int) + 2) (-11)) (4 * (ns.length : Int) + 3) (-11)) (4 * (ns.length : Int) + 1) (lowF (bShr xx 4) 3)) (4 * (ns.length : Int) + 2) 1) (4 * (ns.length : Int) + 2) = 1 from fs_at rfl] | rw [show (fset (fset (fset (fset (fset (fset fp (4 * (ns.length : Int)) kd) (4 * (ns.length : Int) + 1) (-11)) (4 * (ns.length : Int) + 2) (-11)) (4 * (ns.length : Int) + 3) (-11)) (4 * (ns.length : Int) + 1) (lowF (bShr xx 4) 3)) (4 * (ns.length : Int) + 2) 0) (4 * (ns.length : Int) + 2) = 0 from fs_at rfl]
        refine A.iconst dL_typesNode_437 ?_
        refine A.ic_ne dL_typesNode_438 (fun c438 => ?_) (fun c438 => ?_)
        · refine A.bipush dL_typesNode_446 ?_
          refine A.v1 dL_typesNode_448 (sL_ty ho hB hb hT hT1 hl (by omega) (by omega) (by omega) (fun h448 T448 hq448 ht448 hl448 F448 => kS ?_)) (hc := x0)
          have ho := hq448
          have hT1 := ht448
          have hl := hl448
          have gl := hl.2.1
          have g1 := hT1.1
          obtain ⟨fs, x0⟩ := ho.ob
          have p0 := F448.get p0 (by omega)
          refine A.if_le dL_typesNode_451 (fun c451 => by exfalso; omega) (fun c451 => ?_)
          refine A.iconst dL_typesNode_454 ?_
          refine A.goto dL_typesNode_455 ?_
          refine A.is15_11 dL_typesNode_459 ?_
          refine A.goto dL_typesNode_461 ?_
          first
            | (exfalso; omega)
            | (have sp := spells_3 (f := (lowF (bShr xx 4) 3)) (s := 0) (c := 45) (by omega) (by omega) (Or.inr ⟨rfl, rfl⟩)
               exact fin _ _ _ _ _ _ _ _ (3, [(lowF (bShr xx 4) 3), 0], []) _ _ _ _ ho hT1 hl (by omega) sp p0 ⟨((fs_off (by omega)).trans ((fs_off (by omega)).trans ((fs_off (by omega)).trans ((fs_off (by omega)).trans ((fs_off (by omega)).trans (fs_at rfl)))))).trans (show kd = 3 by omega), fun _ => ⟨((fs_off (by omega)).trans (fs_at rfl)), (fs_at rfl), ((fs_off (by omega)).trans ((fs_off (by omega)).trans (fs_at rfl)))⟩, fun z => absurd z (show ¬ (3 : Int) = 6 by decide)⟩ (fun j j0 j1 => (fs_off (by omega)).trans ((fs_off (by omega)).trans ((fs_off (by omega)).trans ((fs_off (by omega)).trans ((fs_off (by omega)).trans ((fs_off (by omega)).trans (rfl))))))) ((Fr2.rfl.trans (f46.two2 (by omega) (by omega))).trans (f54.two2 (by omega) (by omega)) |>.trans (f62.two2 (by omega) (by omega)) |>.trans (f70.two2 (by omega) (by omega)) |>.trans (f386.two2 (by omega) (by omega)) |>.trans (f408.two2 (by omega) (by omega)) |>.trans (F412.two1 (by omega) (by omega)) |>.trans (F424.two1 (by omega) (by omega)) |>.trans (F448.two1 (by omega) (by omega))))
        · refine A.bipush dL_typesNode_441 ?_
          refine A.goto dL_typesNode_443 ?_
          refine A.v1 dL_typesNode_448 (sL_ty ho hB hb hT hT1 hl (by omega) (by omega) (by omega) (fun h448 T448 hq448 ht448 hl448 F448 => kS ?_)) (hc := x0)
          have ho := hq448
          have hT1 := ht448
          have hl := hl448
          have gl := hl.2.1
          have g1 := hT1.1
          obtain ⟨fs, x0⟩ := ho.ob
          have p0 := F448.get p0 (by omega)
          refine A.if_le dL_typesNode_451 (fun c451 => by exfalso; omega) (fun c451 => ?_)
          refine A.iconst dL_typesNode_454 ?_
          refine A.goto dL_typesNode_455 ?_
          refine A.is15_11 dL_typesNode_459 ?_
          refine A.goto dL_typesNode_461 ?_
          first
            | (exfalso; omega)
            | (have sp := spells_3 (f := (lowF (bShr xx 4) 3)) (s := 1) (c := 43) (by omega) (by omega) (Or.inl ⟨rfl, rfl⟩)
               exact fin _ _ _ _ _ _ _ _ (3, [(lowF (bShr xx 4) 3), 1], []) _ _ _ _ ho hT1 hl (by omega) sp p0 ⟨((fs_off (by omega)).trans ((fs_off (by omega)).trans ((fs_off (by omega)).trans ((fs_off (by omega)).trans ((fs_off (by omega)).trans (fs_at rfl)))))).trans (show kd = 3 by omega), fun _ => ⟨((fs_off (by omega)).trans (fs_at rfl)), (fs_at rfl), ((fs_off (by omega)).trans ((fs_off (by omega)).trans (fs_at rfl)))⟩, fun z => absurd z (show ¬ (3 : Int) = 6 by decide)⟩ (fun j j0 j1 => (fs_off (by omega)).trans ((fs_off (by omega)).trans ((fs_off (by omega)).trans ((fs_off (by omega)).trans ((fs_off (by omega)).trans ((fs_off (by omega)).trans (rfl))))))) ((Fr2.rfl.trans (f46.two2 (by omega) (by omega))).trans (f54.two2 (by omega) (by omega)) |>.trans (f62.two2 (by omega) (by omega)) |>.trans (f70.two2 (by omega) (by omega)) |>.trans (f386.two2 (by omega) (by omega)) |>.trans (f408.two2 (by omega) (by omega)) |>.trans (F412.two1 (by omega) (by omega)) |>.trans (F424.two1 (by omega) (by omega)) |>.trans (F448.two1 (by omega) (by omega))))
    · refine A.al15_1 dL_typesNode_464 ?_
      refine A.il15_6 dL_typesNode_465 ?_
      refine A.iconst dL_typesNode_467 ?_
      refine A.iadd dL_typesNode_468 ?_
      refine A.il15_10 dL_typesNode_469 ?_
      refine A.iast dL_typesNode_471 (fun h471 e471 f471 => ?_) (hc := p0)
      first | (have p0 := (f471.2 _ (by omega)).trans p0) | (have p0 := e471)
      have ho := ho.fr f471 (Nat.le_refl _)
      obtain ⟨fs, x0⟩ := ho.ob
      refine A.al15_0 dL_typesNode_472 ?_
      refine A.bipush dL_typesNode_473 ?_
      refine A.v1 dL_typesNode_475 (sL_ty ho hB hb hT hT1 hl (by omega) (by omega) (by omega) (fun h475 T475 hq475 ht475 hl475 F475 => kS ?_)) (hc := x0)
      have ho := hq475
      have hT1 := ht475
      have hl := hl475
      have gl := hl.2.1
      have g1 := hT1.1
      obtain ⟨fs, x0⟩ := ho.ob
      have p0 := F475.get p0 (by omega)
      refine A.if_le dL_typesNode_478 (fun c478 => by exfalso; omega) (fun c478 => ?_)
      refine A.al15_0 dL_typesNode_481 ?_
      refine A.il15_10 dL_typesNode_482 ?_
      refine A.s2 dL_typesNode_484 (sL_typesNumber (v := (lowF (bShr xx 7) (u + 1))) ho hB hb hT hT1 hl (by omega) (by omega) (by omega) (fun h484 T484 hq484 ht484 hl484 F484 => kS ?_))
      have ho := hq484
      have hT1 := ht484
      have hl := hl484
      have gl := hl.2.1
      have g1 := hT1.1
      obtain ⟨fs, x0⟩ := ho.ob
      have p0 := F484.get p0 (by omega)
      have gd := dg_len (lowF (bShr xx 7) (u + 1))
      refine A.if_eq dL_typesNode_487 (fun c487 => absurd c487 (by decide)) (fun c487 => ?_)
      refine A.iconst dL_typesNode_490 ?_
      refine A.goto dL_typesNode_491 ?_
      refine A.is15_11 dL_typesNode_495 ?_
      refine A.goto dL_typesNode_497 ?_
      first
        | (exfalso; omega)
        | (have sp := spells_4 (n := (lowF (bShr xx 7) (u + 1))) (by omega) (by omega)
           exact fin _ _ _ _ _ _ _ _ (4, [(lowF (bShr xx 7) (u + 1))], []) _ _ _ _ ho hT1 hl (by omega) sp p0 ⟨((fs_off (by omega)).trans ((fs_off (by omega)).trans ((fs_off (by omega)).trans ((fs_off (by omega)).trans (fs_at rfl))))).trans (show kd = 4 by omega), fun _ => ⟨(fs_at rfl), ((fs_off (by omega)).trans ((fs_off (by omega)).trans (fs_at rfl))), ((fs_off (by omega)).trans (fs_at rfl))⟩, fun z => absurd z (show ¬ (4 : Int) = 6 by decide)⟩ (fun j j0 j1 => (fs_off (by omega)).trans ((fs_off (by omega)).trans ((fs_off (by omega)).trans ((fs_off (by omega)).trans ((fs_off (by omega)).trans (rfl)))))) ((Fr2.rfl.trans (f46.two2 (by omega) (by omega))).trans (f54.two2 (by omega) (by omega)) |>.trans (f62.two2 (by omega) (by omega)) |>.trans (f70.two2 (by omega) (by omega)) |>.trans (f471.two2 (by omega) (by omega)) |>.trans (F475.two1 (by omega) (by omega)) |>.trans (F484.two1 (by omega) (by omega))))
    · refine A.al15_1 dL_typesNode_500 ?_
      refine A.il15_6 dL_typesNode_501 ?_
      refine A.iconst dL_typesNode_503 ?_
      refine A.iadd dL_typesNode_504 ?_
      refine A.il15_9 dL_typesNode_505 ?_
      refine A.iast dL_typesNode_507 (fun h507 e507 f507 => ?_) (hc := p0)
      first | (have p0 := (f507.2 _ (by omega)).trans p0) | (have p0 := e507)
      have ho := ho.fr f507 (Nat.le_refl _)
      obtain ⟨fs, x0⟩ := ho.ob
      refine A.al15_1 dL_typesNode_508 ?_
      refine A.il15_6 dL_typesNode_509 ?_
      refine A.iconst dL_typesNode_511 ?_
      refine A.iadd dL_typesNode_512 ?_
      refine A.il15_10 dL_typesNode_513 ?_
      refine A.iast dL_typesNode_515 (fun h515 e515 f515 => ?_) (hc := p0)
      first | (have p0 := (f515.2 _ (by omega)).trans p0) | (have p0 := e515)
      have ho := ho.fr f515 (Nat.le_refl _)
      obtain ⟨fs, x0⟩ := ho.ob
      refine A.al15_0 dL_typesNode_516 ?_
      refine A.bipush dL_typesNode_517 ?_
      refine A.v1 dL_typesNode_519 (sL_ty ho hB hb hT hT1 hl (by omega) (by omega) (by omega) (fun h519 T519 hq519 ht519 hl519 F519 => kS ?_)) (hc := x0)
      have ho := hq519
      have hT1 := ht519
      have hl := hl519
      have gl := hl.2.1
      have g1 := hT1.1
      obtain ⟨fs, x0⟩ := ho.ob
      have p0 := F519.get p0 (by omega)
      refine A.if_le dL_typesNode_522 (fun c522 => by exfalso; omega) (fun c522 => ?_)
      refine A.al15_0 dL_typesNode_525 ?_
      refine A.bipush dL_typesNode_526 ?_
      refine A.il15_9 dL_typesNode_528 ?_
      refine A.iadd dL_typesNode_530 ?_
      refine A.v1 dL_typesNode_531 (sL_ty ho hB hb hT hT1 hl (by omega) (by omega) (by omega) (fun h531 T531 hq531 ht531 hl531 F531 => kS ?_)) (hc := x0)
      have ho := hq531
      have hT1 := ht531
      have hl := hl531
      have gl := hl.2.1
      have g1 := hT1.1
      obtain ⟨fs, x0⟩ := ho.ob
      have p0 := F531.get p0 (by omega)
      refine A.if_le dL_typesNode_534 (fun c534 => by exfalso; omega) (fun c534 => ?_)
      refine A.al15_0 dL_typesNode_537 ?_
      refine A.bipush dL_typesNode_538 ?_
      refine A.v1 dL_typesNode_540 (sL_ty ho hB hb hT hT1 hl (by omega) (by omega) (by omega) (fun h540 T540 hq540 ht540 hl540 F540 => kS ?_)) (hc := x0)
      have ho := hq540
      have hT1 := ht540
      have hl := hl540
      have gl := hl.2.1
      have g1 := hT1.1
      obtain ⟨fs, x0⟩ := ho.ob
      have p0 := F540.get p0 (by omega)
      refine A.if_le dL_typesNode_543 (fun c543 => by exfalso; omega) (fun c543 => ?_)
      refine A.al15_0 dL_typesNode_546 ?_
      refine A.il15_10 dL_typesNode_547 ?_
      refine A.s2 dL_typesNode_549 (sL_typesNumber (v := (lowF (bShr xx 7) (u + 1))) ho hB hb hT hT1 hl (by omega) (by omega) (by omega) (fun h549 T549 hq549 ht549 hl549 F549 => kS ?_))
      have ho := hq549
      have hT1 := ht549
      have hl := hl549
      have gl := hl.2.1
      have g1 := hT1.1
      obtain ⟨fs, x0⟩ := ho.ob
      have p0 := F549.get p0 (by omega)
      have gd := dg_len (lowF (bShr xx 7) (u + 1))
      refine A.if_eq dL_typesNode_552 (fun c552 => absurd c552 (by decide)) (fun c552 => ?_)
      refine A.iconst dL_typesNode_555 ?_
      refine A.goto dL_typesNode_556 ?_
      refine A.is15_11 dL_typesNode_560 ?_
      refine A.goto dL_typesNode_562 ?_
      first
        | (exfalso; omega)
        | (have sp := spells_5 (f := (lowF (bShr xx 4) 3)) (n := (lowF (bShr xx 7) (u + 1))) (by omega) (by omega) (by omega) (by omega)
           exact fin _ _ _ _ _ _ _ _ (5, [(lowF (bShr xx 4) 3), (lowF (bShr xx 7) (u + 1))], []) _ _ _ _ ho hT1 hl (by omega) sp p0 ⟨((fs_off (by omega)).trans ((fs_off (by omega)).trans ((fs_off (by omega)).trans ((fs_off (by omega)).trans ((fs_off (by omega)).trans (fs_at rfl)))))).trans (show kd = 5 by omega), fun _ => ⟨((fs_off (by omega)).trans (fs_at rfl)), (fs_at rfl), ((fs_off (by omega)).trans ((fs_off (by omega)).trans (fs_at rfl)))⟩, fun z => absurd z (show ¬ (5 : Int) = 6 by decide)⟩ (fun j j0 j1 => (fs_off (by omega)).trans ((fs_off (by omega)).trans ((fs_off (by omega)).trans ((fs_off (by omega)).trans ((fs_off (by omega)).trans ((fs_off (by omega)).trans (rfl))))))) ((Fr2.rfl.trans (f46.two2 (by omega) (by omega))).trans (f54.two2 (by omega) (by omega)) |>.trans (f62.two2 (by omega) (by omega)) |>.trans (f70.two2 (by omega) (by omega)) |>.trans (f507.two2 (by omega) (by omega)) |>.trans (f515.two2 (by omega) (by omega)) |>.trans (F519.two1 (by omega) (by omega)) |>.trans (F531.two1 (by omega) (by omega)) |>.trans (F540.two1 (by omega) (by omega)) |>.trans (F549.two1 (by omega) (by omega))))
    · refine A.al15_1 dL_typesNode_565 ?_
      refine A.il15_6 dL_typesNode_566 ?_
      refine A.iconst dL_typesNode_568 ?_
      refine A.iadd dL_typesNode_569 ?_
      refine A.iconst dL_typesNode_570 ?_
      refine A.il15_4 dL_typesNode_571 ?_
      refine A.iconst dL_typesNode_573 ?_
      refine A.s2 dL_typesNode_574 (sL_low (by omega) (kS ?_))
      refine A.iadd dL_typesNode_577 ?_
      refine A.iast dL_typesNode_578 (fun h578 e578 f578 => ?_) (hc := p0)
      first | (have p0 := (f578.2 _ (by omega)).trans p0) | (have p0 := e578)
      have ho := ho.fr f578 (Nat.le_refl _)
      obtain ⟨fs, x0⟩ := ho.ob
      refine A.al15_1 dL_typesNode_579 ?_
      refine A.il15_6 dL_typesNode_580 ?_
      refine A.iconst dL_typesNode_582 ?_
      refine A.iadd dL_typesNode_583 ?_
      refine A.iconst dL_typesNode_584 ?_
      refine A.iast dL_typesNode_585 (fun h585 e585 f585 => ?_) (hc := p0)
      first | (have p0 := (f585.2 _ (by omega)).trans p0) | (have p0 := e585)
      have ho := ho.fr f585 (Nat.le_refl _)
      obtain ⟨fs, x0⟩ := ho.ob
      refine A.al15_1 dL_typesNode_586 ?_
      refine A.il15_6 dL_typesNode_587 ?_
      refine A.iconst dL_typesNode_589 ?_
      refine A.iadd dL_typesNode_590 ?_
      refine A.iconst dL_typesNode_591 ?_
      refine A.iast dL_typesNode_592 (fun h592 e592 f592 => ?_) (hc := p0)
      first | (have p0 := (f592.2 _ (by omega)).trans p0) | (have p0 := e592)
      have ho := ho.fr f592 (Nat.le_refl _)
      obtain ⟨fs, x0⟩ := ho.ob
      refine A.al15_0 dL_typesNode_593 ?_
      refine A.bipush dL_typesNode_594 ?_
      refine A.v1 dL_typesNode_596 (sL_ty ho hB hb hT hT1 hl (by omega) (by omega) (by omega) (fun h596 T596 hq596 ht596 hl596 F596 => kS ?_)) (hc := x0)
      have ho := hq596
      have hT1 := ht596
      have hl := hl596
      have gl := hl.2.1
      have g1 := hT1.1
      obtain ⟨fs, x0⟩ := ho.ob
      have p0 := F596.get p0 (by omega)
      refine A.if_le dL_typesNode_599 (fun c599 => by exfalso; omega) (fun c599 => ?_)
      refine A.iconst dL_typesNode_602 ?_
      refine A.goto dL_typesNode_603 ?_
      refine A.is15_11 dL_typesNode_607 ?_
      refine A.iconst dL_typesNode_609 ?_
      refine A.is15_12 dL_typesNode_610 ?_
      exact loop 4 [] _ _ 1 _ _ _ _ _ _ _ ho hT1 hl (by decide) (fun p hp => absurd hp (List.not_mem_nil)) (by show (0 : Int) ≤ _; omega) p0 (((fs_off (by omega)).trans ((fs_off (by omega)).trans ((fs_off (by omega)).trans ((fs_off (by omega)).trans ((fs_off (by omega)).trans ((fs_off (by omega)).trans (fs_at rfl))))))).trans (by omega)) ((fs_off (by omega)).trans ((fs_off (by omega)).trans (fs_at rfl))) (by rw [show (fset (fset (fset (fset (fset (fset (fset fp (4 * (ns.length : Int)) kd) (4 * (ns.length : Int) + 1) (-11)) (4 * (ns.length : Int) + 2) (-11)) (4 * (ns.length : Int) + 3) (-11)) (4 * (ns.length : Int) + 1) (1 + lowF yy 3)) (4 * (ns.length : Int) + 2) 0) (4 * (ns.length : Int) + 3) 0) (4 * (ns.length : Int) + 2) = 0 from ((fs_off (by omega)).trans (fs_at rfl))]; exact pk5_0) (by rw [show (fset (fset (fset (fset (fset (fset (fset fp (4 * (ns.length : Int)) kd) (4 * (ns.length : Int) + 1) (-11)) (4 * (ns.length : Int) + 2) (-11)) (4 * (ns.length : Int) + 3) (-11)) (4 * (ns.length : Int) + 1) (1 + lowF yy 3)) (4 * (ns.length : Int) + 2) 0) (4 * (ns.length : Int) + 3) 0) (4 * (ns.length : Int) + 3) = 0 from (fs_at rfl)]; exact pk4_0) (fun j j0 j1 => (fs_off (by omega)).trans ((fs_off (by omega)).trans ((fs_off (by omega)).trans ((fs_off (by omega)).trans ((fs_off (by omega)).trans ((fs_off (by omega)).trans ((fs_off (by omega)).trans (rfl)))))))) ((Fr2.rfl.trans (f46.two2 (by omega) (by omega))).trans (f54.two2 (by omega) (by omega)) |>.trans (f62.two2 (by omega) (by omega)) |>.trans (f70.two2 (by omega) (by omega)) |>.trans (f578.two2 (by omega) (by omega)) |>.trans (f585.two2 (by omega) (by omega)) |>.trans (f592.two2 (by omega) (by omega)) |>.trans (F596.two1 (by omega) (by omega))) (by decide)
    · refine A.al15_1 dL_typesNode_798 ?_
      refine A.il15_6 dL_typesNode_799 ?_
      refine A.iconst dL_typesNode_801 ?_
      refine A.iadd dL_typesNode_802 ?_
      refine A.il15_3 dL_typesNode_803 ?_
      refine A.iconst dL_typesNode_804 ?_
      refine A.ishr dL_typesNode_805 ?_
      refine A.bipush dL_typesNode_806 ?_
      refine A.s2 dL_typesNode_808 (sL_low (by omega) (kS ?_))
      refine A.iast dL_typesNode_811 (fun h811 e811 f811 => ?_) (hc := p0)
      first | (have p0 := (f811.2 _ (by omega)).trans p0) | (have p0 := e811)
      have ho := ho.fr f811 (Nat.le_refl _)
      obtain ⟨fs, x0⟩ := ho.ob
      refine A.al15_0 dL_typesNode_812 ?_
      refine A.bipush dL_typesNode_813 ?_
      refine A.v1 dL_typesNode_815 (sL_ty ho hB hb hT hT1 hl (by omega) (by omega) (by omega) (fun h815 T815 hq815 ht815 hl815 F815 => kS ?_)) (hc := x0)
      have ho := hq815
      have hT1 := ht815
      have hl := hl815
      have gl := hl.2.1
      have g1 := hT1.1
      obtain ⟨fs, x0⟩ := ho.ob
      have p0 := F815.get p0 (by omega)
      refine A.if_le dL_typesNode_818 (fun c818 => by exfalso; omega) (fun c818 => ?_)
      refine A.al15_0 dL_typesNode_821 ?_
      refine A.bipush dL_typesNode_822 ?_
      refine A.al15_1 dL_typesNode_824 ?_
      refine A.il15_6 dL_typesNode_825 ?_
      refine A.iconst dL_typesNode_827 ?_
      refine A.iadd dL_typesNode_828 ?_
      refine A.iald dL_typesNode_829 ?_ (hc := p0)
      rw [show (fset (fset (fset (fset (fset fp (4 * (ns.length : Int)) kd) (4 * (ns.length : Int) + 1) (-11)) (4 * (ns.length : Int) + 2) (-11)) (4 * (ns.length : Int) + 3) (-11)) (4 * (ns.length : Int) + 1) (lowF (bShr xx 4) 10)) (4 * (ns.length : Int) + 1) = lowF (bShr xx 4) 10 from (fs_at rfl)]
      refine A.iadd dL_typesNode_830 ?_
      refine A.v1 dL_typesNode_831 (sL_ty ho hB hb hT hT1 hl (by omega) (by omega) (by omega) (fun h831 T831 hq831 ht831 hl831 F831 => kS ?_)) (hc := x0)
      have ho := hq831
      have hT1 := ht831
      have hl := hl831
      have gl := hl.2.1
      have g1 := hT1.1
      obtain ⟨fs, x0⟩ := ho.ob
      have p0 := F831.get p0 (by omega)
      refine A.if_le dL_typesNode_834 (fun c834 => by exfalso; omega) (fun c834 => ?_)
      refine A.iconst dL_typesNode_837 ?_
      refine A.goto dL_typesNode_838 ?_
      refine A.is15_11 dL_typesNode_842 ?_
      first
        | (exfalso; omega)
        | (have sp := spells_7 (n := lowF (bShr xx 4) 10) (by omega) (by omega)
           exact fin _ _ _ _ _ _ _ _ (7, [lowF (bShr xx 4) 10], []) _ _ _ _ ho hT1 hl (by omega) sp p0 ⟨((fs_off (by omega)).trans ((fs_off (by omega)).trans ((fs_off (by omega)).trans ((fs_off (by omega)).trans (fs_at rfl))))).trans (show kd = 7 by omega), fun _ => ⟨(fs_at rfl), ((fs_off (by omega)).trans ((fs_off (by omega)).trans (fs_at rfl))), ((fs_off (by omega)).trans (fs_at rfl))⟩, fun z => absurd z (show ¬ (7 : Int) = 6 by decide)⟩ (fun j j0 j1 => (fs_off (by omega)).trans ((fs_off (by omega)).trans ((fs_off (by omega)).trans ((fs_off (by omega)).trans ((fs_off (by omega)).trans (rfl)))))) ((Fr2.rfl.trans (f46.two2 (by omega) (by omega))).trans (f54.two2 (by omega) (by omega)) |>.trans (f62.two2 (by omega) (by omega)) |>.trans (f70.two2 (by omega) (by omega)) |>.trans (f811.two2 (by omega) (by omega)) |>.trans (F815.two1 (by omega) (by omega)) |>.trans (F831.two1 (by omega) (by omega))))
  refine A.iconst dL_typesNode_0 ?_
  refine A.il15_2 dL_typesNode_1 ?_
  refine A.imul dL_typesNode_2 ?_
  refine A.is15_6 dL_typesNode_3 ?_
  refine A.il15_3 dL_typesNode_5 ?_
  refine A.bipush dL_typesNode_6 ?_
  refine A.s2 dL_typesNode_8 (sL_low (by omega) (kS ?_))
  refine A.bipush dL_typesNode_11 ?_
  refine A.ic_le dL_typesNode_13 (fun c13 => ?_) (fun c13 => ?_)
  · refine A.il15_3 dL_typesNode_33 ?_
    refine A.bipush dL_typesNode_34 ?_
    refine A.s2 dL_typesNode_36 (sL_low (by omega) (kS ?_))
    refine A.is15_7 dL_typesNode_39 ?_
    exact kdc _ (by omega) (by omega)
  · refine A.il15_3 dL_typesNode_16 ?_
    refine A.iconst dL_typesNode_17 ?_
    refine A.s2 dL_typesNode_18 (sL_low (by omega) (kS ?_))
    refine A.if_ne dL_typesNode_21 (fun c21 => ?_) (fun c21 => ?_)
    · refine A.iconst dL_typesNode_29 ?_
      refine A.goto dL_typesNode_30 ?_
      refine A.is15_7 dL_typesNode_39 ?_
      exact kdc _ (by omega) (by omega)
    · refine A.bipush dL_typesNode_24 ?_
      refine A.goto dL_typesNode_26 ?_
      refine A.is15_7 dL_typesNode_39 ?_
      exact kdc _ (by omega) (by omega)
