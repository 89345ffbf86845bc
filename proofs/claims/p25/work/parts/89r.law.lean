/-! ===== the law: a script is typed and read ===== -/
theorem cq_0 (S : SC) (P : PL) (T : TX) : coRR S P T 0 = S.1 := rfl
theorem cq_1 (S : SC) (P : PL) (T : TX) : coRR S P T 1 = P.2.1 + 1 := rfl
theorem cq_2 (S : SC) (P : PL) (T : TX) : coRR S P T 2 = P.1 - P.2.1 - 1 := rfl
theorem cq_3 (S : SC) (P : PL) (T : TX) : coRR S P T 3 = cntN P.2.2.2.2.2.1 31 := rfl
theorem cq_7 (S : SC) (P : PL) (T : TX) : coRR S P T 7 = -12 := rfl
set_option maxRecDepth 100000 in
set_option maxHeartbeats 4000000 in
theorem sL_reads {d : Nat} {h : AH} {R : RP} {x : Nat} {S : SC} {P : PL} {T : TX} {B fp : FN} {u : Int} (ho : pAt h x S P T) (hB : rScr B S) (hb : plI P) (hT : txI T) (p0 : h.2 (x + 98) = some (kA 0 64 fp)) (u0 : 1 ≤ u) (u1 : u ≤ 12) (k : ∀ h' S2 T2 B2 fp', pAt h' x S2 (startP S2 P) T2 → txI T2 → rScr B2 S2 → pRel fp' S2 → h'.2 (x + 98) = some (kA 0 64 fp') → Fr2 h h' x 98 (x + 98) 1 → R (some (vI 1)) h') : AM mL_reads (d + 9) h [vR x, vR (x + 98), vX, vI 0, vI u] R := by
  refine AM.of (L := [some (vR x), some (vR (x + 98)), some (vX), some (vI 0), some (vI u), none, none]) ok_L_reads (by decide) (fun G => Nat.le_of_ble_eq_true rfl) rfl ?_
  have g1 := hT.1
  obtain ⟨fs, x0⟩ := ho.ob
  have loop : ∀ (nf : Nat) (ns : List ND) (T1 : TX) (fp1 : FN) (h1 : AH) (ho : pAt h1 x S P T1) (hr : rdy T1 ns) (hl : (ns.length : Int) ≤ u) (p0 : h1.2 (x + 98) = some (kA 0 64 fp1)) (ha : pAll fp1 ns) (hF : Fr2 h h1 x 98 (x + 98) 1) (hn : 12 - ns.length < nf), AW mL_reads (d + 9) (mC mL_reads, mS mL_reads) 17 [some (vR x), some (vR (x + 98)), some vX, some (vI 0), some (vI u), some (vI 1), some (vI (ns.length : Nat))] [] h1 R := by
    intro nf
    induction nf with
    | zero => intro ns  T1  fp1  h1  ho hr hl p0 ha hF hn; omega
    | succ nf ih =>
      intro ns  T1  fp1  h1  ho hr hl p0 ha hF hn
      have hT1 := hr.1
      obtain ⟨fs, x0⟩ := ho.ob
      refine A.il7_5 dL_reads_17 ?_
      refine A.if_eq dL_reads_19 (fun c19 => by exfalso; omega) (fun c19 => ?_)
      refine A.il7_6 dL_reads_22 ?_
      refine A.il7_4 dL_reads_24 ?_
      refine A.ic_ge dL_reads_26 (fun c26 => ?_) (fun c26 => ?_)
      · refine A.al7_1 dL_reads_76 ?_
        refine A.bipush dL_reads_77 ?_
        refine A.il7_6 dL_reads_79 ?_
        refine A.iast dL_reads_81 (fun h81 e81 f81 => ?_) (hc := p0)
        have ho := ho.fr f81 (Nat.le_refl _)
        obtain ⟨fs, x0⟩ := ho.ob
        have p0 := e81
        have hF2 := hF.trans (f81.two2 (by omega) (by omega))
        refine A.il7_5 dL_reads_82 ?_
        refine A.if_eq dL_reads_84 (fun c84 => by exfalso; omega) (fun c84 => ?_)
        refine A.al7_0 dL_reads_87 ?_
        refine A.v0 dL_reads_88 (s5_read ho hB hb hT1 (fun Sd h88 hq88 F88 => kS ?_)) (hc := x0)
        have nn := rdy_none hr
        have n1 : (ffR T1 29 0).1 = -11 := by rw [nn]
        have n2 : (ffR T1 29 0).2 = ns := by rw [nn]
        rw [show rdRR T1 = (ns.length : Nat) from (if_pos n1).trans (by rw [n2])]
        obtain ⟨B2, hB2, hp2⟩ := pRel_of (Sd := Sd) (fp := fset fp1 60 (ns.length : Nat)) hr (by omega) (fun j hj => (ha j hj).cp (fun y y0 y1 => fs_off (by omega))) (fs_at rfl)
        have ho : pAt h88 x (rdS Sd T1) (startP (rdS Sd T1) P) T1 := by
          have z := hq88
          rw [show rdSS S Sd T1 = rdS Sd T1 from if_pos n1, show rdPP P Sd T1 = startP (rdS Sd T1) P from if_pos n1] at z
          exact z
        have pl2 := (plI_start hB2 P).1
        have p0 := F88.get p0 (by omega)
        obtain ⟨fs, x0⟩ := ho.ob
        refine A.il7_6 dL_reads_91 ?_
        refine A.ic_ne dL_reads_93 (fun c93 => absurd rfl c93) (fun c93 => ?_)
        refine A.al7_0 dL_reads_96 ?_
        refine A.iconst dL_reads_97 ?_
        refine A.v1 dL_reads_98 (s5_count ho hB2 pl2 hT1 (kS ?_)) (hc := x0)
        rw [cq_0]
        have s1 := hp2.1
        rw [show fset fp1 60 (ns.length : Nat) 60 = (ns.length : Nat) from fs_at rfl] at s1
        rw [← s1]
        refine A.il7_6 dL_reads_101 ?_
        refine A.ic_ne dL_reads_103 (fun c103 => absurd rfl c103) (fun c103 => ?_)
        refine A.iconst dL_reads_106 ?_
        refine A.goto dL_reads_107 ?_
        refine A.zret dL_reads_111 ?_
        exact k _ _ _ _ _ ho hT1 hB2 hp2 p0 (hF2.trans (F88.two1 (by omega) (by omega)))
      · refine A.al7_0 dL_reads_29 ?_
        refine A.bipush dL_reads_30 ?_
        refine A.v1 dL_reads_32 (s5_count ho hB hb hT1 (kS ?_)) (hc := x0)
        rw [co_6]
        refine A.bipush dL_reads_35 ?_
        refine A.ic_gt dL_reads_37 (fun c37 => ?_) (fun c37 => ?_)
        · refine A.al7_1 dL_reads_76 ?_
          refine A.bipush dL_reads_77 ?_
          refine A.il7_6 dL_reads_79 ?_
          refine A.iast dL_reads_81 (fun h81 e81 f81 => ?_) (hc := p0)
          have ho := ho.fr f81 (Nat.le_refl _)
          obtain ⟨fs, x0⟩ := ho.ob
          have p0 := e81
          have hF2 := hF.trans (f81.two2 (by omega) (by omega))
          refine A.il7_5 dL_reads_82 ?_
          refine A.if_eq dL_reads_84 (fun c84 => by exfalso; omega) (fun c84 => ?_)
          refine A.al7_0 dL_reads_87 ?_
          refine A.v0 dL_reads_88 (s5_read ho hB hb hT1 (fun Sd h88 hq88 F88 => kS ?_)) (hc := x0)
          have nn := rdy_none hr
          have n1 : (ffR T1 29 0).1 = -11 := by rw [nn]
          have n2 : (ffR T1 29 0).2 = ns := by rw [nn]
          rw [show rdRR T1 = (ns.length : Nat) from (if_pos n1).trans (by rw [n2])]
          obtain ⟨B2, hB2, hp2⟩ := pRel_of (Sd := Sd) (fp := fset fp1 60 (ns.length : Nat)) hr (by omega) (fun j hj => (ha j hj).cp (fun y y0 y1 => fs_off (by omega))) (fs_at rfl)
          have ho : pAt h88 x (rdS Sd T1) (startP (rdS Sd T1) P) T1 := by
            have z := hq88
            rw [show rdSS S Sd T1 = rdS Sd T1 from if_pos n1, show rdPP P Sd T1 = startP (rdS Sd T1) P from if_pos n1] at z
            exact z
          have pl2 := (plI_start hB2 P).1
          have p0 := F88.get p0 (by omega)
          obtain ⟨fs, x0⟩ := ho.ob
          refine A.il7_6 dL_reads_91 ?_
          refine A.ic_ne dL_reads_93 (fun c93 => absurd rfl c93) (fun c93 => ?_)
          refine A.al7_0 dL_reads_96 ?_
          refine A.iconst dL_reads_97 ?_
          refine A.v1 dL_reads_98 (s5_count ho hB2 pl2 hT1 (kS ?_)) (hc := x0)
          rw [cq_0]
          have s1 := hp2.1
          rw [show fset fp1 60 (ns.length : Nat) 60 = (ns.length : Nat) from fs_at rfl] at s1
          rw [← s1]
          refine A.il7_6 dL_reads_101 ?_
          refine A.ic_ne dL_reads_103 (fun c103 => absurd rfl c103) (fun c103 => ?_)
          refine A.iconst dL_reads_106 ?_
          refine A.goto dL_reads_107 ?_
          refine A.zret dL_reads_111 ?_
          exact k _ _ _ _ _ ho hT1 hB2 hp2 p0 (hF2.trans (F88.two1 (by omega) (by omega)))
        · refine A.al7_0 dL_reads_40 ?_
          refine A.al7_1 dL_reads_41 ?_
          refine A.il7_6 dL_reads_42 ?_
          refine A.ax7_2 dL_reads_44 ?_
          refine A.il7_3 dL_reads_45 ?_
          refine A.il7_6 dL_reads_46 ?_
          refine A.iadd dL_reads_48 ?_
          refine A.s2 dL_reads_49 (sL_cell (by omega) (by omega) (fun w49 => kS ?_))
          refine A.ax7_2 dL_reads_52 ?_
          refine A.il7_3 dL_reads_53 ?_
          refine A.bipush dL_reads_54 ?_
          refine A.iadd dL_reads_56 ?_
          refine A.il7_6 dL_reads_57 ?_
          refine A.iadd dL_reads_59 ?_
          refine A.s2 dL_reads_60 (sL_cell (by omega) (by omega) (fun w60 => kS ?_))
          refine A.il7_4 dL_reads_63 ?_
          refine A.s6 dL_reads_65 (sL_typesNode ho hB hb hr p0 ha (by omega) (by omega) u0 u1 (fun h65 T65 fp65 nd65 hq65 e65 r65 a65 f65 => kS ?_))
          have ho := hq65
          have p0 := e65
          obtain ⟨fs, x0⟩ := ho.ob
          refine A.is7_5 dL_reads_68 ?_
          refine A.ii7_6 dL_reads_70 ?_
          refine A.goto dL_reads_73 ?_
          have LA : ((ns ++ [nd65]).length : Nat) = ns.length + 1 := by rw [List.length_append, List.length_singleton]
          have z := ih (ns ++ [nd65]) _ _ _ ho r65 (by rw [LA]; omega) p0 a65 (hF.trans f65) (by rw [LA]; omega)
          rw [LA] at z
          exact z
  refine A.al7_0 dL_reads_0 ?_
  refine A.v0 dL_reads_1 (s5_clearText ho hB hb hT (fun h1 hq1 F1 => kS ?_)) (hc := x0)
  have ho := hq1
  have p0 := F1.get p0 (by omega)
  obtain ⟨fs, x0⟩ := ho.ob
  refine A.if_lt dL_reads_4 (fun c4 => by exfalso; omega) (fun c4 => ?_)
  refine A.iconst dL_reads_7 ?_
  refine A.goto dL_reads_8 ?_
  refine A.is7_5 dL_reads_12 ?_
  refine A.iconst dL_reads_14 ?_
  refine A.is7_6 dL_reads_15 ?_
  exact loop 13 [] _ _ _ ho rdy_0 (by show (0 : Int) ≤ u; omega) p0 (fun j hj => absurd hj (Nat.not_lt_zero _)) (Fr2.rfl.trans (F1.two1 (by omega) (by omega))) (by decide)
