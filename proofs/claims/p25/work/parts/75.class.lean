/-! ===== the class as a whole: what it does ===== -/
set_option maxRecDepth 100000 in
set_option maxHeartbeats 4000000 in
theorem s5_type {d : Nat} {h : AH} {R : RP} {l : Int} {x : Nat} {S : SC} {P : PL} {T : TX} {B : FN} (hp : pAt h x S P T) (hB : rScr B S) (hb : plI P) (hT : txI T) (k : ∀ h', pAt h' x (S) (P) (tyT T l) → Fr h h' x 98 → R (some (vI (tyR T l))) h') : AM m5_type (d + 1) h [vR x, vI l] R := by
  refine AM.of (L := [some (vR x), some (vI l)]) ok_5_type (by decide) (fun G => Nat.le_of_ble_eq_true rfl) rfl ?_
  have hP0 := hp
  obtain ⟨sr, dr, a, n, Sd, re, wc, Cc, Lc, Lo, Wa, Es, m, hsd, x0, hX, hS, hD, hI, hJ, hPl, k0, k1, k2, k3, k4, k5, hm, hC⟩ := hp
  have hPL := hPl
  obtain ⟨g, sg, p0, p1, p2, p3, p4, hg, hsg, hFm, hV⟩ := hPl
  have hb0 := hb
  obtain ⟨⟨hp0, hpk, hk20⟩, hsb, hvb, hn0, hn1⟩ := hb
  obtain ⟨-, -, hnw⟩ := hFm.1 P.2.1 hp0 (by omega)
  have hnow : moAt h (P.2.2.1 P.2.1) (nowM P) := hnw
  have hB1 := hB.1
  have hT1 := hT.1
  have hT2 := hT.2.1
  refine A.il2_1 d5_type_0 ?_
  refine A.if_lt d5_type_1 (fun c1 => ?_) (fun c1 => ?_)
  · refine A.bipush d5_type_10 ?_
    refine A.iret d5_type_12 ?_
    have e : tyT T l = T := pif_f (by omega)
    exact rI (k _ (by rw [e]; exact hP0) (Fr.rfl (h := h) (a := x) (n := 98))) (if_neg (by omega) : tyR T l = _).symm
  · refine A.il2_1 d5_type_4 ?_
    refine A.bipush d5_type_5 ?_
    refine A.ic_le d5_type_7 (fun c7 => ?_) (fun c7 => ?_)
    · refine A.al2_0 d5_type_13 ?_
      refine A.getf d5_type_14 ?_ (hc := x0)
      refine A.il2_1 d5_type_17 ?_
      refine A.i2b d5_type_18 ?_
      refine A.v1 d5_type_19 (s4_append hX hT (by omega) (fun h19 hX19 f19 => kS ?_)) (hc := hX.1)
      first | (have x0 := (f19.2 _ (by omega)).trans x0) | (have x0 := e19) | skip
      first | (have k0 := (f19.2 _ (by omega)).trans k0) | (have k0 := e19) | skip
      first | (have k1 := (f19.2 _ (by omega)).trans k1) | (have k1 := e19) | skip
      first | (have k2 := (f19.2 _ (by omega)).trans k2) | (have k2 := e19) | skip
      first | (have k3 := (f19.2 _ (by omega)).trans k3) | (have k3 := e19) | skip
      first | (have k4 := (f19.2 _ (by omega)).trans k4) | (have k4 := e19) | skip
      first | (have k5 := (f19.2 _ (by omega)).trans k5) | (have k5 := e19) | skip
      first | (have hX := hX.fr f19 (by omega)) | skip
      first | (have hS := hS.fr f19 (by omega)) | skip
      first | (have hD := hD.fr f19 (by omega)) | skip
      first | (have hm := hm.fr f19 (by omega)) | skip
      first | (have hPL := hPL.fr f19 (by omega)) | skip
      have F19 := (Fr.rfl (h := h) (a := x) (n := 98)).then f19 (by omega) (by omega)
      have hX := hX19
      refine A.bz_eq d5_type_22 (fun c22 => ?_) (fun c22 => ?_)
      · rw [pif_f c22] at hX
        refine A.bipush d5_type_35 ?_
        refine A.iret d5_type_37 ?_
        first
          | (have e : tyT T l = _ := pif_t ⟨by omega, c22⟩
             exact rI (k _ (by rw [e]; exact ⟨_, _, _, _, _, _, _, _, _, _, _, _, _, hsd, x0, hX, hS, hD, hI, hJ, hPL, k0, k1, k2, k3, k4, k5, hm, hC⟩) F19) ((if_pos (by omega)).trans (if_pos c22) : tyR T l = _).symm)
          | (have e : tyT T l = _ := pif_f (by omega)
             exact rI (k _ (by rw [e]; exact ⟨_, _, _, _, _, _, _, _, _, _, _, _, _, hsd, x0, hX, hS, hD, hI, hJ, hPL, k0, k1, k2, k3, k4, k5, hm, hC⟩) F19) ((if_pos (by omega)).trans (if_neg c22) : tyR T l = _).symm)
      · rw [pif_t c22] at hX
        refine A.al2_0 d5_type_25 ?_
        refine A.getf d5_type_26 ?_ (hc := x0)
        refine A.getf d5_type_29 ?_ (hc := hX.1)
        refine A.goto d5_type_32 ?_
        refine A.iret d5_type_37 ?_
        first
          | (have e : tyT T l = _ := pif_t ⟨by omega, c22⟩
             exact rI (k _ (by rw [e]; exact ⟨_, _, _, _, _, _, _, _, _, _, _, _, _, hsd, x0, hX, hS, hD, hI, hJ, hPL, k0, k1, k2, k3, k4, k5, hm, hC⟩) F19) ((if_pos (by omega)).trans (if_pos c22) : tyR T l = _).symm)
          | (have e : tyT T l = _ := pif_f (by omega)
             exact rI (k _ (by rw [e]; exact ⟨_, _, _, _, _, _, _, _, _, _, _, _, _, hsd, x0, hX, hS, hD, hI, hJ, hPL, k0, k1, k2, k3, k4, k5, hm, hC⟩) F19) ((if_pos (by omega)).trans (if_neg c22) : tyR T l = _).symm)
    · refine A.bipush d5_type_10 ?_
      refine A.iret d5_type_12 ?_
      have e : tyT T l = T := pif_f (by omega)
      exact rI (k _ (by rw [e]; exact hP0) (Fr.rfl (h := h) (a := x) (n := 98))) (if_neg (by omega) : tyR T l = _).symm
set_option maxRecDepth 100000 in
set_option maxHeartbeats 4000000 in
theorem s5_clearText {d : Nat} {h : AH} {R : RP} {x : Nat} {S : SC} {P : PL} {T : TX} {B : FN} (hp : pAt h x S P T) (hB : rScr B S) (hb : plI P) (hT : txI T) (k : ∀ h', pAt h' x (S) (P) (0, T.2) → Fr h h' x 98 → R (some (vI (T.1))) h') : AM m5_clearText (d) h [vR x] R := by
  refine AM.of (L := [some (vR x), none]) ok_5_clearText (by decide) (fun G => Nat.le_of_ble_eq_true rfl) rfl ?_
  have hP0 := hp
  obtain ⟨sr, dr, a, n, Sd, re, wc, Cc, Lc, Lo, Wa, Es, m, hsd, x0, hX, hS, hD, hI, hJ, hPl, k0, k1, k2, k3, k4, k5, hm, hC⟩ := hp
  have hPL := hPl
  obtain ⟨g, sg, p0, p1, p2, p3, p4, hg, hsg, hFm, hV⟩ := hPl
  have hb0 := hb
  obtain ⟨⟨hp0, hpk, hk20⟩, hsb, hvb, hn0, hn1⟩ := hb
  obtain ⟨-, -, hnw⟩ := hFm.1 P.2.1 hp0 (by omega)
  have hnow : moAt h (P.2.2.1 P.2.1) (nowM P) := hnw
  have hB1 := hB.1
  have hT1 := hT.1
  have hT2 := hT.2.1
  refine A.al2_0 d5_clearText_0 ?_
  refine A.getf d5_clearText_1 ?_ (hc := x0)
  refine A.getf d5_clearText_4 ?_ (hc := hX.1)
  refine A.is2_1 d5_clearText_7 ?_
  refine A.al2_0 d5_clearText_8 ?_
  refine A.getf d5_clearText_9 ?_ (hc := x0)
  refine A.iconst d5_clearText_12 ?_
  refine A.putf d5_clearText_13 (fun h13 e13 f13 => ?_) (hc := hX.1) (hk := blt_ok rfl)
  first | (have x0 := (f13.2 _ (by omega)).trans x0) | (have x0 := e13)
  first | (have k0 := (f13.2 _ (by omega)).trans k0) | (have k0 := e13)
  first | (have k1 := (f13.2 _ (by omega)).trans k1) | (have k1 := e13)
  first | (have k2 := (f13.2 _ (by omega)).trans k2) | (have k2 := e13)
  first | (have k3 := (f13.2 _ (by omega)).trans k3) | (have k3 := e13)
  first | (have k4 := (f13.2 _ (by omega)).trans k4) | (have k4 := e13)
  first | (have k5 := (f13.2 _ (by omega)).trans k5) | (have k5 := e13)
  have hS := hS.fr f13 (by omega)
  have hD := hD.fr f13 (by omega)
  have hm := hm.fr f13 (by omega)
  have hPL := hPL.fr f13 (by omega)
  have F13 := (Fr.rfl (h := h) (a := x) (n := 98)).then f13 (by omega) (by omega)
  have hX : txAt h13 (x + 1) (0, T.2) dr a n := ⟨e13, f13.get hX.2 (by omega)⟩
  refine A.il2_1 d5_clearText_16 ?_
  refine A.iret d5_clearText_17 ?_
  exact k _ ⟨_, _, _, _, _, _, _, _, _, _, _, _, _, hsd, x0, hX, hS, hD, hI, hJ, hPL, k0, k1, k2, k3, k4, k5, hm, hC⟩ F13
set_option maxRecDepth 100000 in
set_option maxHeartbeats 4000000 in
theorem s5_fault {d : Nat} {h : AH} {R : RP} {x : Nat} {S : SC} {P : PL} {T : TX} {B : FN} (hp : pAt h x S P T) (hB : rScr B S) (hb : plI P) (hT : txI T) (k : ∀ h', pAt h' x (S) (P) (T) → Fr h h' x 98 → R (some (vI ((ffR T 29 0).1))) h') : AM m5_fault (d + 7) h [vR x] R := by
  refine AM.of (L := [some (vR x)]) ok_5_fault (by decide) (fun G => Nat.le_of_ble_eq_true rfl) rfl ?_
  have hP0 := hp
  obtain ⟨sr, dr, a, n, Sd, re, wc, Cc, Lc, Lo, Wa, Es, m, hsd, x0, hX, hS, hD, hI, hJ, hPl, k0, k1, k2, k3, k4, k5, hm, hC⟩ := hp
  have hPL := hPl
  obtain ⟨g, sg, p0, p1, p2, p3, p4, hg, hsg, hFm, hV⟩ := hPl
  have hb0 := hb
  obtain ⟨⟨hp0, hpk, hk20⟩, hsb, hvb, hn0, hn1⟩ := hb
  obtain ⟨-, -, hnw⟩ := hFm.1 P.2.1 hp0 (by omega)
  have hnow : moAt h (P.2.2.1 P.2.1) (nowM P) := hnw
  have hB1 := hB.1
  have hT1 := hT.1
  have hT2 := hT.2.1
  refine A.al1_0 d5_fault_0 ?_
  refine A.getf d5_fault_1 ?_ (hc := x0)
  refine A.v0 d5_fault_4 (s4_findFault hX hT hD hJ (by omega) (fun h4 a4 n4 S4 hX4 hD4 hJ4 hz4 f4 => kS ?_)) (hc := hX.1)
  have f4a := f4.one (c := x + 1) (m := 14) (by omega) (by omega) (by omega) (by omega)
  have x0 := f4a.get x0 (by omega)
  have hS := hS.fr2 f4 (by omega) (by omega)
  have k0 := f4a.get k0 (by omega)
  have k1 := f4a.get k1 (by omega)
  have k2 := f4a.get k2 (by omega)
  have k3 := f4a.get k3 (by omega)
  have k4 := f4a.get k4 (by omega)
  have k5 := f4a.get k5 (by omega)
  have hm := hm.fr f4a (by omega)
  have hPL := hPL.fr f4a (by omega)
  have hX := hX4
  have hD := hD4
  have hJ := hJ4
  have F4 := (Fr.rfl (h := h) (a := x) (n := 98)).then f4a (by omega) (by omega)
  refine A.iret d5_fault_7 ?_
  exact k _ ⟨_, _, _, _, _, _, _, _, _, _, _, _, _, hsd, x0, hX, hS, hD, hI, hJ, hPL, k0, k1, k2, k3, k4, k5, hm, hC⟩ F4
set_option maxRecDepth 100000 in
set_option maxHeartbeats 4000000 in
theorem s5_begin {d : Nat} {h : AH} {R : RP} {x : Nat} {S : SC} {P : PL} {T : TX} {B : FN} (hp : pAt h x S P T) (hB : rScr B S) (hb : plI P) (hT : txI T) (k : ∀ h', pAt h' x (S) (anewP S P) (T) → Fr h h' x 98 → R (some (vI ((cCome S (emptyM (P.2.2.2.1 0)) 0).1))) h') : AM m5_begin (d + 5) h [vR x] R := by
  refine AM.of (L := [some (vR x)]) ok_5_begin (by decide) (fun G => Nat.le_of_ble_eq_true rfl) rfl ?_
  have hP0 := hp
  obtain ⟨sr, dr, a, n, Sd, re, wc, Cc, Lc, Lo, Wa, Es, m, hsd, x0, hX, hS, hD, hI, hJ, hPl, k0, k1, k2, k3, k4, k5, hm, hC⟩ := hp
  have hPL := hPl
  obtain ⟨g, sg, p0, p1, p2, p3, p4, hg, hsg, hFm, hV⟩ := hPl
  have hb0 := hb
  obtain ⟨⟨hp0, hpk, hk20⟩, hsb, hvb, hn0, hn1⟩ := hb
  obtain ⟨-, -, hnw⟩ := hFm.1 P.2.1 hp0 (by omega)
  have hnow : moAt h (P.2.2.1 P.2.1) (nowM P) := hnw
  have hB1 := hB.1
  have hT1 := hT.1
  have hT2 := hT.2.1
  refine A.al1_0 d5_begin_0 ?_
  refine A.getf d5_begin_1 ?_ (hc := x0)
  refine A.al1_0 d5_begin_4 ?_
  refine A.getf d5_begin_5 ?_ (hc := x0)
  refine A.v1 d5_begin_8 (s2_startAnew hPL hS (by omega) hsb (fun h8 hPl8 f8 => kN ?_)) (hc := p0)
  first | (have x0 := (f8.2 _ (by omega)).trans x0) | (have x0 := e8) | skip
  first | (have k0 := (f8.2 _ (by omega)).trans k0) | (have k0 := e8) | skip
  first | (have k1 := (f8.2 _ (by omega)).trans k1) | (have k1 := e8) | skip
  first | (have k2 := (f8.2 _ (by omega)).trans k2) | (have k2 := e8) | skip
  first | (have k3 := (f8.2 _ (by omega)).trans k3) | (have k3 := e8) | skip
  first | (have k4 := (f8.2 _ (by omega)).trans k4) | (have k4 := e8) | skip
  first | (have k5 := (f8.2 _ (by omega)).trans k5) | (have k5 := e8) | skip
  first | (have hX := hX.fr f8 (by omega)) | skip
  first | (have hS := hS.fr f8 (by omega)) | skip
  first | (have hD := hD.fr f8 (by omega)) | skip
  first | (have hm := hm.fr f8 (by omega)) | skip
  first | (have hPL := hPL.fr f8 (by omega)) | skip
  have F8 := (Fr.rfl (h := h) (a := x) (n := 98)).then f8 (by omega) (by omega)
  have hPL := hPl8
  obtain ⟨hb8, hn8⟩ := anewP_f hB hsb hvb
  have hPL2 := hPL
  obtain ⟨g, sg, p0, p1, p2, p3, p4, hg, hsg, hFm, hV⟩ := hPL2
  obtain ⟨-, -, hnw⟩ := hFm.1 (anewP S P).2.1 hb8.1.1 (Int.lt_of_lt_of_le hb8.1.2.1 hb8.1.2.2)
  have hnow : moAt _ ((anewP S P).2.2.1 (anewP S P).2.1) (nowM (anewP S P)) := hnw
  refine A.al1_0 d5_begin_11 ?_
  refine A.getf d5_begin_12 ?_ (hc := x0)
  refine A.v0 d5_begin_15 (s2_now p0 rfl rfl p1 (hg (anewP S P).2.1 hb8.1.1 (Int.lt_of_lt_of_le hb8.1.2.1 hb8.1.2.2)) hb8.1.1 (Int.lt_of_lt_of_le hb8.1.2.1 hb8.1.2.2) (kS ?_)) (hc := p0)
  refine A.getf d5_begin_18 ?_ (hc := hnow.1)
  rw [hn8]
  refine A.iret d5_begin_21 ?_
  exact k _ ⟨_, _, _, _, _, _, _, _, _, _, _, _, _, hsd, x0, hX, hS, hD, hI, hJ, hPL, k0, k1, k2, k3, k4, k5, hm, hC⟩ F8
set_option maxRecDepth 100000 in
set_option maxHeartbeats 4000000 in
theorem s5_goOnFromLine {d : Nat} {h : AH} {R : RP} {x : Nat} {S : SC} {P : PL} {T : TX} {B : FN} (hp : pAt h x S P T) (hB : rScr B S) (hb : plI P) (hT : txI T) (k : ∀ h', pAt h' x (S) (goP S P ((nowM P).1 + 1)) (T) → Fr h h' x 98 → R (some (vI (seenB P (goM S P ((nowM P).1 + 1)).1))) h') : AM m5_goOnFromLine (d + 5) h [vR x] R := by
  refine AM.of (L := [some (vR x)]) ok_5_goOnFromLine (by decide) (fun G => Nat.le_of_ble_eq_true rfl) rfl ?_
  have hP0 := hp
  obtain ⟨sr, dr, a, n, Sd, re, wc, Cc, Lc, Lo, Wa, Es, m, hsd, x0, hX, hS, hD, hI, hJ, hPl, k0, k1, k2, k3, k4, k5, hm, hC⟩ := hp
  have hPL := hPl
  obtain ⟨g, sg, p0, p1, p2, p3, p4, hg, hsg, hFm, hV⟩ := hPl
  have hb0 := hb
  obtain ⟨⟨hp0, hpk, hk20⟩, hsb, hvb, hn0, hn1⟩ := hb
  obtain ⟨-, -, hnw⟩ := hFm.1 P.2.1 hp0 (by omega)
  have hnow : moAt h (P.2.2.1 P.2.1) (nowM P) := hnw
  have hB1 := hB.1
  have hT1 := hT.1
  have hT2 := hT.2.1
  refine A.al1_0 d5_goOnFromLine_0 ?_
  refine A.getf d5_goOnFromLine_1 ?_ (hc := x0)
  refine A.al1_0 d5_goOnFromLine_4 ?_
  refine A.getf d5_goOnFromLine_5 ?_ (hc := x0)
  refine A.al1_0 d5_goOnFromLine_8 ?_
  refine A.getf d5_goOnFromLine_9 ?_ (hc := x0)
  refine A.v0 d5_goOnFromLine_12 (s2_now p0 rfl rfl p1 (hg P.2.1 hp0 (by omega)) hp0 (by omega) (kS ?_)) (hc := p0)
  refine A.getf d5_goOnFromLine_15 ?_ (hc := hnow.1)
  refine A.iconst d5_goOnFromLine_18 ?_
  refine A.iadd d5_goOnFromLine_19 ?_
  refine A.v2 d5_goOnFromLine_20 (s2_goOn hPL hS (by omega) hsb hp0 (by omega) (fun h20 hPl20 f20 => kS ?_)) (hc := p0)
  first | (have x0 := (f20.2 _ (by omega)).trans x0) | (have x0 := e20) | skip
  first | (have k0 := (f20.2 _ (by omega)).trans k0) | (have k0 := e20) | skip
  first | (have k1 := (f20.2 _ (by omega)).trans k1) | (have k1 := e20) | skip
  first | (have k2 := (f20.2 _ (by omega)).trans k2) | (have k2 := e20) | skip
  first | (have k3 := (f20.2 _ (by omega)).trans k3) | (have k3 := e20) | skip
  first | (have k4 := (f20.2 _ (by omega)).trans k4) | (have k4 := e20) | skip
  first | (have k5 := (f20.2 _ (by omega)).trans k5) | (have k5 := e20) | skip
  first | (have hX := hX.fr f20 (by omega)) | skip
  first | (have hS := hS.fr f20 (by omega)) | skip
  first | (have hD := hD.fr f20 (by omega)) | skip
  first | (have hm := hm.fr f20 (by omega)) | skip
  first | (have hPL := hPL.fr f20 (by omega)) | skip
  have F20 := (Fr.rfl (h := h) (a := x) (n := 98)).then f20 (by omega) (by omega)
  have hPL := hPl20
  have hsr := seenB_rng hsb (goM S P ((nowM P).1 + 1)).1
  refine A.zret d5_goOnFromLine_23 ?_
  exact k _ ⟨_, _, _, _, _, _, _, _, _, _, _, _, _, hsd, x0, hX, hS, hD, hI, hJ, hPL, k0, k1, k2, k3, k4, k5, hm, hC⟩ F20
set_option maxRecDepth 100000 in
set_option maxHeartbeats 4000000 in
theorem s5_go {d : Nat} {h : AH} {R : RP} {x : Nat} {S : SC} {P : PL} {T : TX} {B : FN} (hp : pAt h x S P T) (hB : rScr B S) (hb : plI P) (hT : txI T) (k : ∀ h', pAt h' x (S) (goPP S P) (T) → Fr h h' x 98 → R (some (vI (goRR S P))) h') : AM m5_go (d + 6) h [vR x] R := by
  refine AM.of (L := [some (vR x)]) ok_5_go (by decide) (fun G => Nat.le_of_ble_eq_true rfl) rfl ?_
  have hP0 := hp
  obtain ⟨sr, dr, a, n, Sd, re, wc, Cc, Lc, Lo, Wa, Es, m, hsd, x0, hX, hS, hD, hI, hJ, hPl, k0, k1, k2, k3, k4, k5, hm, hC⟩ := hp
  have hPL := hPl
  obtain ⟨g, sg, p0, p1, p2, p3, p4, hg, hsg, hFm, hV⟩ := hPl
  have hb0 := hb
  obtain ⟨⟨hp0, hpk, hk20⟩, hsb, hvb, hn0, hn1⟩ := hb
  obtain ⟨-, -, hnw⟩ := hFm.1 P.2.1 hp0 (by omega)
  have hnow : moAt h (P.2.2.1 P.2.1) (nowM P) := hnw
  have hB1 := hB.1
  have hT1 := hT.1
  have hT2 := hT.2.1
  refine A.al1_0 d5_go_0 ?_
  refine A.v0 d5_go_1 (s5_isLineShown hP0 hB hb0 hT (kS ?_)) (hc := x0)
  refine A.bz_ne d5_go_4 (fun c4 => ?_) (fun c4 => ?_)
  · have hkl := kd_lt (S := S) (v := (nowM P).1) (by rw [sk_line c4]; decide)
    refine A.al1_0 d5_go_10 ?_
    refine A.v0 d5_go_11 (s5_goOnFromLine hP0 hB hb0 hT (fun h11 hp11 F11 => kS ?_)) (hc := x0)
    have hp := hp11
    obtain ⟨hb11, hn11⟩ := plI_go hB hb0 (v := (nowM P).1 + 1) (by omega) (by omega)
    obtain ⟨sr, dr, a, n, Sd, re, wc, Cc, Lc, Lo, Wa, Es, m, hsd, x0, hX, hS, hD, hI, hJ, hPl, k0, k1, k2, k3, k4, k5, hm, hC⟩ := hp
    have hPL := hPl
    have hPL2 := hPL
    obtain ⟨g, sg, p0, p1, p2, p3, p4, hg, hsg, hFm, hV⟩ := hPL2
    obtain ⟨-, -, hnw⟩ := hFm.1 (goP S P ((nowM P).1 + 1)).2.1 hb11.1.1 (Int.lt_of_lt_of_le hb11.1.2.1 hb11.1.2.2)
    have hnow : moAt _ ((goP S P ((nowM P).1 + 1)).2.2.1 (goP S P ((nowM P).1 + 1)).2.1) (nowM (goP S P ((nowM P).1 + 1))) := hnw
    refine A.pop d5_go_14 ?_
    refine A.al1_0 d5_go_15 ?_
    refine A.getf d5_go_16 ?_ (hc := x0)
    refine A.v0 d5_go_19 (s2_now p0 rfl rfl p1 (hg (goP S P ((nowM P).1 + 1)).2.1 hb11.1.1 (Int.lt_of_lt_of_le hb11.1.2.1 hb11.1.2.2)) hb11.1.1 (Int.lt_of_lt_of_le hb11.1.2.1 hb11.1.2.2) (kS ?_)) (hc := p0)
    refine A.getf d5_go_22 ?_ (hc := hnow.1)
    rw [hn11]
    refine A.iret d5_go_25 ?_
    have e : goPP S P = goP S P ((nowM P).1 + 1) := if_pos c4
    exact rI (k _ (by rw [e]; exact hp11) F11) (if_pos c4 : goRR S P = _).symm
  · refine A.bipush d5_go_7 ?_
    refine A.iret d5_go_9 ?_
    have e : goPP S P = P := if_neg c4
    exact rI (k _ (by rw [e]; exact hP0) (Fr.rfl (h := h) (a := x) (n := 98))) (if_neg c4 : goRR S P = _).symm
set_option maxRecDepth 100000 in
set_option maxHeartbeats 4000000 in
theorem s5_choose {d : Nat} {h : AH} {R : RP} {o : Int} {x : Nat} {S : SC} {P : PL} {T : TX} {B : FN} (hp : pAt h x S P T) (hB : rScr B S) (hb : plI P) (hT : txI T) (k : ∀ h', pAt h' x (S) (chPP S P o) (T) → Fr h h' x 98 → R (some (vI (chRR S P o))) h') : AM m5_choose (d + 5) h [vR x, vI o] R := by
  refine AM.of (L := [some (vR x), some (vI o), none]) ok_5_choose (by decide) (fun G => Nat.le_of_ble_eq_true rfl) rfl ?_
  have hP0 := hp
  obtain ⟨sr, dr, a, n, Sd, re, wc, Cc, Lc, Lo, Wa, Es, m, hsd, x0, hX, hS, hD, hI, hJ, hPl, k0, k1, k2, k3, k4, k5, hm, hC⟩ := hp
  have hPL := hPl
  obtain ⟨g, sg, p0, p1, p2, p3, p4, hg, hsg, hFm, hV⟩ := hPl
  have hb0 := hb
  obtain ⟨⟨hp0, hpk, hk20⟩, hsb, hvb, hn0, hn1⟩ := hb
  obtain ⟨-, -, hnw⟩ := hFm.1 P.2.1 hp0 (by omega)
  have hnow : moAt h (P.2.2.1 P.2.1) (nowM P) := hnw
  have hB1 := hB.1
  have hT1 := hT.1
  have hT2 := hT.2.1
  refine A.il3_1 d5_choose_0 ?_
  refine A.if_ge d5_choose_1 (fun c1 => ?_) (fun c1 => ?_)
  · refine A.al3_0 d5_choose_7 ?_
    refine A.getf d5_choose_8 ?_ (hc := x0)
    refine A.v0 d5_choose_11 (s2_now p0 rfl rfl p1 (hg P.2.1 hp0 (by omega)) hp0 (by omega) (kS ?_)) (hc := p0)
    refine A.as3_2 d5_choose_14 ?_
    refine A.al3_0 d5_choose_15 ?_
    refine A.getf d5_choose_16 ?_ (hc := x0)
    refine A.al3_2 d5_choose_19 ?_
    refine A.getf d5_choose_20 ?_ (hc := hnow.1)
    refine A.il3_1 d5_choose_23 ?_
    refine A.al3_2 d5_choose_24 ?_
    refine A.getf d5_choose_25 ?_ (hc := hnow.1)
    refine A.v3 d5_choose_28 (s3_isOpen hS (kS ?_)) (hc := hS.1)
    refine A.bz_ne d5_choose_31 (fun c31 => ?_) (fun c31 => ?_)
    · have hk6 : cKind S (nowM P).1 = 6 := Classical.byContradiction fun z => by
        have z1 := c31.1
        have z2 := c31.2.1
        by_cases hh : 0 ≤ (nowM P).1 ∧ (nowM P).1 < S.1 ∧ (nowM P).1 < 29
        · have := (hB.2 _ hh.1 hh.2.1).ro z; omega
        · have : cOpts S (nowM P).1 = 0 := if_neg hh
          omega
      have hkl := kd_lt (S := S) (v := (nowM P).1) (by omega)
      have ro := (((hB.2 _ hkl.1 hkl.2.1).r6 hk6).2.2 o c31.1 c31.2.1).2.2.1
      refine A.al3_0 d5_choose_37 ?_
      refine A.getf d5_choose_38 ?_ (hc := x0)
      refine A.al3_0 d5_choose_41 ?_
      refine A.getf d5_choose_42 ?_ (hc := x0)
      refine A.al3_0 d5_choose_45 ?_
      refine A.getf d5_choose_46 ?_ (hc := x0)
      refine A.al3_2 d5_choose_49 ?_
      refine A.getf d5_choose_50 ?_ (hc := hnow.1)
      refine A.il3_1 d5_choose_53 ?_
      refine A.iconst d5_choose_54 ?_
      refine A.v3 d5_choose_55 (s3_optionPart hS (kS ?_)) (hc := hS.1)
      refine A.v2 d5_choose_58 (s2_goOn hPL hS (by omega) hsb hp0 (by omega) (fun h58 hPl58 f58 => kS ?_)) (hc := p0)
      first | (have x0 := (f58.2 _ (by omega)).trans x0) | (have x0 := e58) | skip
      first | (have k0 := (f58.2 _ (by omega)).trans k0) | (have k0 := e58) | skip
      first | (have k1 := (f58.2 _ (by omega)).trans k1) | (have k1 := e58) | skip
      first | (have k2 := (f58.2 _ (by omega)).trans k2) | (have k2 := e58) | skip
      first | (have k3 := (f58.2 _ (by omega)).trans k3) | (have k3 := e58) | skip
      first | (have k4 := (f58.2 _ (by omega)).trans k4) | (have k4 := e58) | skip
      first | (have k5 := (f58.2 _ (by omega)).trans k5) | (have k5 := e58) | skip
      first | (have hX := hX.fr f58 (by omega)) | skip
      first | (have hS := hS.fr f58 (by omega)) | skip
      first | (have hD := hD.fr f58 (by omega)) | skip
      first | (have hm := hm.fr f58 (by omega)) | skip
      first | (have hPL := hPL.fr f58 (by omega)) | skip
      have F58 := (Fr.rfl (h := h) (a := x) (n := 98)).then f58 (by omega) (by omega)
      have hPL := hPl58
      obtain ⟨hb58, hn58⟩ := plI_go hB hb0 (v := cPart S (nowM P).1 o 0) (by omega) (by omega)
      have hPL2 := hPL
      obtain ⟨g, sg, p0, p1, p2, p3, p4, hg, hsg, hFm, hV⟩ := hPL2
      obtain ⟨-, -, hnw⟩ := hFm.1 (goP S P (cPart S (nowM P).1 o 0)).2.1 hb58.1.1 (Int.lt_of_lt_of_le hb58.1.2.1 hb58.1.2.2)
      have hnow : moAt _ ((goP S P (cPart S (nowM P).1 o 0)).2.2.1 (goP S P (cPart S (nowM P).1 o 0)).2.1) (nowM (goP S P (cPart S (nowM P).1 o 0))) := hnw
      refine A.pop d5_choose_61 ?_
      refine A.al3_0 d5_choose_62 ?_
      refine A.getf d5_choose_63 ?_ (hc := x0)
      refine A.v0 d5_choose_66 (s2_now p0 rfl rfl p1 (hg (goP S P (cPart S (nowM P).1 o 0)).2.1 hb58.1.1 (Int.lt_of_lt_of_le hb58.1.2.1 hb58.1.2.2)) hb58.1.1 (Int.lt_of_lt_of_le hb58.1.2.1 hb58.1.2.2) (kS ?_)) (hc := p0)
      refine A.getf d5_choose_69 ?_ (hc := hnow.1)
      rw [hn58]
      refine A.iret d5_choose_72 ?_
      have e : chPP S P o = goP S P (cPart S (nowM P).1 o 0) := pif_t c31
      exact rI (k _ (by rw [e]; exact ⟨_, _, _, _, _, _, _, _, _, _, _, _, _, hsd, x0, hX, hS, hD, hI, hJ, hPL, k0, k1, k2, k3, k4, k5, hm, hC⟩) F58) ((if_neg (by omega)).trans (pif_t c31) : chRR S P o = _).symm
    · refine A.bipush d5_choose_34 ?_
      refine A.iret d5_choose_36 ?_
      have e : chPP S P o = P := pif_f c31
      exact rI (k _ (by rw [e]; exact hP0) (Fr.rfl (h := h) (a := x) (n := 98))) ((if_neg (by omega)).trans (pif_f c31) : chRR S P o = _).symm
  · refine A.bipush d5_choose_4 ?_
    refine A.iret d5_choose_6 ?_
    have e : chPP S P o = P := pif_f (fun z => by have := z.1; omega)
    exact rI (k _ (by rw [e]; exact hP0) (Fr.rfl (h := h) (a := x) (n := 98))) (if_pos (by omega) : chRR S P o = _).symm
set_option maxRecDepth 100000 in
set_option maxHeartbeats 4000000 in
theorem s5_back {d : Nat} {h : AH} {R : RP} {t : Int} {x : Nat} {S : SC} {P : PL} {T : TX} {B : FN} (hp : pAt h x S P T) (hB : rScr B S) (hb : plI P) (hT : txI T) (k : ∀ h', pAt h' x (S) (bkPP P t) (T) → Fr h h' x 98 → R (some (vI (bkRR P t))) h') : AM m5_back (d + 1) h [vR x, vI t] R := by
  refine AM.of (L := [some (vR x), some (vI t)]) ok_5_back (by decide) (fun G => Nat.le_of_ble_eq_true rfl) rfl ?_
  have hP0 := hp
  obtain ⟨sr, dr, a, n, Sd, re, wc, Cc, Lc, Lo, Wa, Es, m, hsd, x0, hX, hS, hD, hI, hJ, hPl, k0, k1, k2, k3, k4, k5, hm, hC⟩ := hp
  have hPL := hPl
  obtain ⟨g, sg, p0, p1, p2, p3, p4, hg, hsg, hFm, hV⟩ := hPl
  have hb0 := hb
  obtain ⟨⟨hp0, hpk, hk20⟩, hsb, hvb, hn0, hn1⟩ := hb
  obtain ⟨-, -, hnw⟩ := hFm.1 P.2.1 hp0 (by omega)
  have hnow : moAt h (P.2.2.1 P.2.1) (nowM P) := hnw
  have hB1 := hB.1
  have hT1 := hT.1
  have hT2 := hT.2.1
  refine A.il2_1 d5_back_0 ?_
  refine A.iconst d5_back_1 ?_
  refine A.ic_lt d5_back_2 (fun c2 => ?_) (fun c2 => ?_)
  · refine A.bipush d5_back_11 ?_
    refine A.iret d5_back_13 ?_
    have e : bkPP P t = P := if_neg (by omega)
    exact rI (k _ (by rw [e]; exact hP0) (Fr.rfl (h := h) (a := x) (n := 98))) (if_neg (by omega) : bkRR P t = _).symm
  · refine A.il2_1 d5_back_5 ?_
    refine A.bipush d5_back_6 ?_
    refine A.ic_le d5_back_8 (fun c8 => ?_) (fun c8 => ?_)
    · refine A.al2_0 d5_back_14 ?_
      refine A.getf d5_back_15 ?_ (hc := x0)
      refine A.il2_1 d5_back_18 ?_
      refine A.v1 d5_back_19 (s2_turnBack hPL hp0 (by omega) (fun h19 hPl19 f19 => kS ?_)) (hc := p0)
      first | (have x0 := (f19.2 _ (by omega)).trans x0) | (have x0 := e19) | skip
      first | (have k0 := (f19.2 _ (by omega)).trans k0) | (have k0 := e19) | skip
      first | (have k1 := (f19.2 _ (by omega)).trans k1) | (have k1 := e19) | skip
      first | (have k2 := (f19.2 _ (by omega)).trans k2) | (have k2 := e19) | skip
      first | (have k3 := (f19.2 _ (by omega)).trans k3) | (have k3 := e19) | skip
      first | (have k4 := (f19.2 _ (by omega)).trans k4) | (have k4 := e19) | skip
      first | (have k5 := (f19.2 _ (by omega)).trans k5) | (have k5 := e19) | skip
      first | (have hX := hX.fr f19 (by omega)) | skip
      first | (have hS := hS.fr f19 (by omega)) | skip
      first | (have hD := hD.fr f19 (by omega)) | skip
      first | (have hm := hm.fr f19 (by omega)) | skip
      first | (have hPL := hPL.fr f19 (by omega)) | skip
      have F19 := (Fr.rfl (h := h) (a := x) (n := 98)).then f19 (by omega) (by omega)
      have hPL := hPl19
      refine A.bz_eq d5_back_22 (fun c22 => ?_) (fun c22 => ?_)
      · rw [pif_f c22] at hPL
        refine A.bipush d5_back_38 ?_
        refine A.iret d5_back_40 ?_
        first
          | (have e : bkPP P t = _ := if_pos ⟨by omega, by omega, c22.2⟩
             exact rI (k _ (by rw [e]; exact ⟨_, _, _, _, _, _, _, _, _, _, _, _, _, hsd, x0, hX, hS, hD, hI, hJ, hPL, k0, k1, k2, k3, k4, k5, hm, hC⟩) F19) ((if_pos (by omega)).trans (if_pos c22.2) : bkRR P t = _).symm)
          | (have e : bkPP P t = P := if_neg (by omega)
             exact rI (k _ (by rw [e]; exact ⟨_, _, _, _, _, _, _, _, _, _, _, _, _, hsd, x0, hX, hS, hD, hI, hJ, hPL, k0, k1, k2, k3, k4, k5, hm, hC⟩) F19) ((if_pos (by omega)).trans (if_neg (by omega)) : bkRR P t = _).symm)
      · rw [pif_t c22] at hPL
        have hPL2 := hPL
        obtain ⟨g, sg, p0, p1, p2, p3, p4, hg, hsg, hFm, hV⟩ := hPL2
        obtain ⟨-, -, hnow⟩ := hFm.1 (P.2.1 - t) (by omega) (by omega)
        refine A.al2_0 d5_back_25 ?_
        refine A.getf d5_back_26 ?_ (hc := x0)
        refine A.v0 d5_back_29 (s2_now p0 rfl rfl p1 (hg (P.2.1 - t) (by omega) (by omega)) (by show 0 ≤ P.2.1 - t; omega) (by show P.2.1 - t < 20; omega) (kS ?_)) (hc := p0)
        refine A.getf d5_back_32 ?_ (hc := hnow.1)
        refine A.goto d5_back_35 ?_
        refine A.iret d5_back_40 ?_
        first
          | (have e : bkPP P t = _ := if_pos ⟨by omega, by omega, c22.2⟩
             exact rI (k _ (by rw [e]; exact ⟨_, _, _, _, _, _, _, _, _, _, _, _, _, hsd, x0, hX, hS, hD, hI, hJ, hPL, k0, k1, k2, k3, k4, k5, hm, hC⟩) F19) ((if_pos (by omega)).trans (if_pos c22.2) : bkRR P t = _).symm)
          | (have e : bkPP P t = P := if_neg (by omega)
             exact rI (k _ (by rw [e]; exact ⟨_, _, _, _, _, _, _, _, _, _, _, _, _, hsd, x0, hX, hS, hD, hI, hJ, hPL, k0, k1, k2, k3, k4, k5, hm, hC⟩) F19) ((if_pos (by omega)).trans (if_neg (by omega)) : bkRR P t = _).symm)
    · refine A.bipush d5_back_11 ?_
      refine A.iret d5_back_13 ?_
      have e : bkPP P t = P := if_neg (by omega)
      exact rI (k _ (by rw [e]; exact hP0) (Fr.rfl (h := h) (a := x) (n := 98))) (if_neg (by omega) : bkRR P t = _).symm
set_option maxRecDepth 100000 in
set_option maxHeartbeats 4000000 in
theorem s5_again {d : Nat} {h : AH} {R : RP} {x : Nat} {S : SC} {P : PL} {T : TX} {B : FN} (hp : pAt h x S P T) (hB : rScr B S) (hb : plI P) (hT : txI T) (k : ∀ h', pAt h' x (S) (agPP P) (T) → Fr h h' x 98 → R (some (vI (agRR P))) h') : AM m5_again (d + 1) h [vR x] R := by
  refine AM.of (L := [some (vR x)]) ok_5_again (by decide) (fun G => Nat.le_of_ble_eq_true rfl) rfl ?_
  have hP0 := hp
  obtain ⟨sr, dr, a, n, Sd, re, wc, Cc, Lc, Lo, Wa, Es, m, hsd, x0, hX, hS, hD, hI, hJ, hPl, k0, k1, k2, k3, k4, k5, hm, hC⟩ := hp
  have hPL := hPl
  obtain ⟨g, sg, p0, p1, p2, p3, p4, hg, hsg, hFm, hV⟩ := hPl
  have hb0 := hb
  obtain ⟨⟨hp0, hpk, hk20⟩, hsb, hvb, hn0, hn1⟩ := hb
  obtain ⟨-, -, hnw⟩ := hFm.1 P.2.1 hp0 (by omega)
  have hnow : moAt h (P.2.2.1 P.2.1) (nowM P) := hnw
  have hB1 := hB.1
  have hT1 := hT.1
  have hT2 := hT.2.1
  refine A.al1_0 d5_again_0 ?_
  refine A.getf d5_again_1 ?_ (hc := x0)
  refine A.v0 d5_again_4 (s2_turnForth hPL hp0 (by omega) (fun h4 hPl4 f4 => kS ?_)) (hc := p0)
  first | (have x0 := (f4.2 _ (by omega)).trans x0) | (have x0 := e4) | skip
  first | (have k0 := (f4.2 _ (by omega)).trans k0) | (have k0 := e4) | skip
  first | (have k1 := (f4.2 _ (by omega)).trans k1) | (have k1 := e4) | skip
  first | (have k2 := (f4.2 _ (by omega)).trans k2) | (have k2 := e4) | skip
  first | (have k3 := (f4.2 _ (by omega)).trans k3) | (have k3 := e4) | skip
  first | (have k4 := (f4.2 _ (by omega)).trans k4) | (have k4 := e4) | skip
  first | (have k5 := (f4.2 _ (by omega)).trans k5) | (have k5 := e4) | skip
  first | (have hX := hX.fr f4 (by omega)) | skip
  first | (have hS := hS.fr f4 (by omega)) | skip
  first | (have hD := hD.fr f4 (by omega)) | skip
  first | (have hm := hm.fr f4 (by omega)) | skip
  first | (have hPL := hPL.fr f4 (by omega)) | skip
  have F4 := (Fr.rfl (h := h) (a := x) (n := 98)).then f4 (by omega) (by omega)
  have hPL := hPl4
  refine A.bz_eq d5_again_7 (fun c7 => ?_) (fun c7 => ?_)
  · rw [pif_f c7] at hPL
    refine A.bipush d5_again_23 ?_
    refine A.iret d5_again_25 ?_
    first
      | (have e : agPP P = _ := if_pos c7
         exact rI (k _ (by rw [e]; exact ⟨_, _, _, _, _, _, _, _, _, _, _, _, _, hsd, x0, hX, hS, hD, hI, hJ, hPL, k0, k1, k2, k3, k4, k5, hm, hC⟩) F4) (if_pos c7 : agRR P = _).symm)
      | (have e : agPP P = P := if_neg c7
         exact rI (k _ (by rw [e]; exact ⟨_, _, _, _, _, _, _, _, _, _, _, _, _, hsd, x0, hX, hS, hD, hI, hJ, hPL, k0, k1, k2, k3, k4, k5, hm, hC⟩) F4) (if_neg c7 : agRR P = _).symm)
  · rw [pif_t c7] at hPL
    have hPL2 := hPL
    obtain ⟨g, sg, p0, p1, p2, p3, p4, hg, hsg, hFm, hV⟩ := hPL2
    obtain ⟨-, -, hnow⟩ := hFm.1 (P.2.1 + 1) (by omega) (by omega)
    refine A.al1_0 d5_again_10 ?_
    refine A.getf d5_again_11 ?_ (hc := x0)
    refine A.v0 d5_again_14 (s2_now p0 rfl rfl p1 (hg (P.2.1 + 1) (by omega) (by omega)) (by show 0 ≤ P.2.1 + 1; omega) (by show P.2.1 + 1 < 20; omega) (kS ?_)) (hc := p0)
    refine A.getf d5_again_17 ?_ (hc := hnow.1)
    refine A.goto d5_again_20 ?_
    refine A.iret d5_again_25 ?_
    first
      | (have e : agPP P = _ := if_pos c7
         exact rI (k _ (by rw [e]; exact ⟨_, _, _, _, _, _, _, _, _, _, _, _, _, hsd, x0, hX, hS, hD, hI, hJ, hPL, k0, k1, k2, k3, k4, k5, hm, hC⟩) F4) (if_pos c7 : agRR P = _).symm)
      | (have e : agPP P = P := if_neg c7
         exact rI (k _ (by rw [e]; exact ⟨_, _, _, _, _, _, _, _, _, _, _, _, _, hsd, x0, hX, hS, hD, hI, hJ, hPL, k0, k1, k2, k3, k4, k5, hm, hC⟩) F4) (if_neg c7 : agRR P = _).symm)
set_option maxRecDepth 100000 in
set_option maxHeartbeats 4000000 in
theorem s5_save {d : Nat} {h : AH} {R : RP} {i : Int} {x : Nat} {S : SC} {P : PL} {T : TX} {B : FN} (hp : pAt h x S P T) (hB : rScr B S) (hb : plI P) (hT : txI T) (k : ∀ h', pAt h' x (S) (svPP P i) (T) → Fr h h' x 98 → R (some (vI (svRR P i))) h') : AM m5_save (d + 3) h [vR x, vI i] R := by
  refine AM.of (L := [some (vR x), some (vI i)]) ok_5_save (by decide) (fun G => Nat.le_of_ble_eq_true rfl) rfl ?_
  have hP0 := hp
  obtain ⟨sr, dr, a, n, Sd, re, wc, Cc, Lc, Lo, Wa, Es, m, hsd, x0, hX, hS, hD, hI, hJ, hPl, k0, k1, k2, k3, k4, k5, hm, hC⟩ := hp
  have hPL := hPl
  obtain ⟨g, sg, p0, p1, p2, p3, p4, hg, hsg, hFm, hV⟩ := hPl
  have hb0 := hb
  obtain ⟨⟨hp0, hpk, hk20⟩, hsb, hvb, hn0, hn1⟩ := hb
  obtain ⟨-, -, hnw⟩ := hFm.1 P.2.1 hp0 (by omega)
  have hnow : moAt h (P.2.2.1 P.2.1) (nowM P) := hnw
  have hB1 := hB.1
  have hT1 := hT.1
  have hT2 := hT.2.1
  refine A.il2_1 d5_save_0 ?_
  refine A.if_lt d5_save_1 (fun c1 => ?_) (fun c1 => ?_)
  · refine A.bipush d5_save_9 ?_
    refine A.iret d5_save_11 ?_
    have e : svPP P i = P := if_neg (by omega)
    exact rI (k _ (by rw [e]; exact hP0) (Fr.rfl (h := h) (a := x) (n := 98))) (if_neg (by omega) : svRR P i = _).symm
  · refine A.il2_1 d5_save_4 ?_
    refine A.iconst d5_save_5 ?_
    refine A.ic_lt d5_save_6 (fun c6 => ?_) (fun c6 => ?_)
    · refine A.al2_0 d5_save_12 ?_
      refine A.getf d5_save_13 ?_ (hc := x0)
      refine A.il2_1 d5_save_16 ?_
      refine A.v1 d5_save_17 (s2_keepIn hPL hp0 (by omega) (fun h17 hPl17 f17 => kN ?_)) (hc := p0)
      first | (have x0 := (f17.2 _ (by omega)).trans x0) | (have x0 := e17) | skip
      first | (have k0 := (f17.2 _ (by omega)).trans k0) | (have k0 := e17) | skip
      first | (have k1 := (f17.2 _ (by omega)).trans k1) | (have k1 := e17) | skip
      first | (have k2 := (f17.2 _ (by omega)).trans k2) | (have k2 := e17) | skip
      first | (have k3 := (f17.2 _ (by omega)).trans k3) | (have k3 := e17) | skip
      first | (have k4 := (f17.2 _ (by omega)).trans k4) | (have k4 := e17) | skip
      first | (have k5 := (f17.2 _ (by omega)).trans k5) | (have k5 := e17) | skip
      first | (have hX := hX.fr f17 (by omega)) | skip
      first | (have hS := hS.fr f17 (by omega)) | skip
      first | (have hD := hD.fr f17 (by omega)) | skip
      first | (have hm := hm.fr f17 (by omega)) | skip
      first | (have hPL := hPL.fr f17 (by omega)) | skip
      have F17 := (Fr.rfl (h := h) (a := x) (n := 98)).then f17 (by omega) (by omega)
      have hPL := hPl17
      rw [pif_t (by omega)] at hPL
      have hPL2 := hPL
      obtain ⟨g, sg, p0, p1, p2, p3, p4, hg, hsg, hFm, hV⟩ := hPL2
      obtain ⟨-, -, hnw⟩ := hFm.1 P.2.1 (by omega) (by omega)
      have hnow : moAt _ (P.2.2.1 P.2.1) (nowM P) := hnw
      refine A.al2_0 d5_save_20 ?_
      refine A.getf d5_save_21 ?_ (hc := x0)
      refine A.v0 d5_save_24 (s2_now p0 rfl rfl p1 (hg P.2.1 (by omega) (by omega)) (by show 0 ≤ P.2.1; omega) (by show P.2.1 < 20; omega) (kS ?_)) (hc := p0)
      refine A.getf d5_save_27 ?_ (hc := hnow.1)
      refine A.iret d5_save_30 ?_
      have e : svPP P i = keepP P i := if_pos (by omega)
      exact rI (k _ (by rw [e]; exact ⟨_, _, _, _, _, _, _, _, _, _, _, _, _, hsd, x0, hX, hS, hD, hI, hJ, hPL, k0, k1, k2, k3, k4, k5, hm, hC⟩) F17) (if_pos (by omega) : svRR P i = _).symm
    · refine A.bipush d5_save_9 ?_
      refine A.iret d5_save_11 ?_
      have e : svPP P i = P := if_neg (by omega)
      exact rI (k _ (by rw [e]; exact hP0) (Fr.rfl (h := h) (a := x) (n := 98))) (if_neg (by omega) : svRR P i = _).symm
set_option maxRecDepth 100000 in
set_option maxHeartbeats 4000000 in
theorem s5_restore {d : Nat} {h : AH} {R : RP} {i : Int} {x : Nat} {S : SC} {P : PL} {T : TX} {B : FN} (hp : pAt h x S P T) (hB : rScr B S) (hb : plI P) (hT : txI T) (k : ∀ h', pAt h' x (S) (rsPP P i) (T) → Fr h h' x 98 → R (some (vI (rsRR P i))) h') : AM m5_restore (d + 3) h [vR x, vI i] R := by
  refine AM.of (L := [some (vR x), some (vI i)]) ok_5_restore (by decide) (fun G => Nat.le_of_ble_eq_true rfl) rfl ?_
  have hP0 := hp
  obtain ⟨sr, dr, a, n, Sd, re, wc, Cc, Lc, Lo, Wa, Es, m, hsd, x0, hX, hS, hD, hI, hJ, hPl, k0, k1, k2, k3, k4, k5, hm, hC⟩ := hp
  have hPL := hPl
  obtain ⟨g, sg, p0, p1, p2, p3, p4, hg, hsg, hFm, hV⟩ := hPl
  have hb0 := hb
  obtain ⟨⟨hp0, hpk, hk20⟩, hsb, hvb, hn0, hn1⟩ := hb
  obtain ⟨-, -, hnw⟩ := hFm.1 P.2.1 hp0 (by omega)
  have hnow : moAt h (P.2.2.1 P.2.1) (nowM P) := hnw
  have hB1 := hB.1
  have hT1 := hT.1
  have hT2 := hT.2.1
  refine A.il2_1 d5_restore_0 ?_
  refine A.if_lt d5_restore_1 (fun c1 => ?_) (fun c1 => ?_)
  · refine A.bipush d5_restore_9 ?_
    refine A.iret d5_restore_11 ?_
    have e : rsPP P i = P := if_neg (by omega)
    exact rI (k _ (by rw [e]; exact hP0) (Fr.rfl (h := h) (a := x) (n := 98))) (if_neg (by omega) : rsRR P i = _).symm
  · refine A.il2_1 d5_restore_4 ?_
    refine A.iconst d5_restore_5 ?_
    refine A.ic_lt d5_restore_6 (fun c6 => ?_) (fun c6 => ?_)
    · refine A.al2_0 d5_restore_12 ?_
      refine A.getf d5_restore_13 ?_ (hc := x0)
      refine A.il2_1 d5_restore_16 ?_
      refine A.v1 d5_restore_17 (s2_takeFrom hPL hvb (fun h17 hPl17 f17 => kS ?_)) (hc := p0)
      first | (have x0 := (f17.2 _ (by omega)).trans x0) | (have x0 := e17) | skip
      first | (have k0 := (f17.2 _ (by omega)).trans k0) | (have k0 := e17) | skip
      first | (have k1 := (f17.2 _ (by omega)).trans k1) | (have k1 := e17) | skip
      first | (have k2 := (f17.2 _ (by omega)).trans k2) | (have k2 := e17) | skip
      first | (have k3 := (f17.2 _ (by omega)).trans k3) | (have k3 := e17) | skip
      first | (have k4 := (f17.2 _ (by omega)).trans k4) | (have k4 := e17) | skip
      first | (have k5 := (f17.2 _ (by omega)).trans k5) | (have k5 := e17) | skip
      first | (have hX := hX.fr f17 (by omega)) | skip
      first | (have hS := hS.fr f17 (by omega)) | skip
      first | (have hD := hD.fr f17 (by omega)) | skip
      first | (have hm := hm.fr f17 (by omega)) | skip
      first | (have hPL := hPL.fr f17 (by omega)) | skip
      have F17 := (Fr.rfl (h := h) (a := x) (n := 98)).then f17 (by omega) (by omega)
      have hPL := hPl17
      refine A.bz_eq d5_restore_20 (fun c20 => ?_) (fun c20 => ?_)
      · rw [pif_f c20] at hPL
        refine A.bipush d5_restore_36 ?_
        refine A.iret d5_restore_38 ?_
        first
          | (have e : rsPP P i = takeP P i := if_pos c20
             exact rI (k _ (by rw [e]; exact ⟨_, _, _, _, _, _, _, _, _, _, _, _, _, hsd, x0, hX, hS, hD, hI, hJ, hPL, k0, k1, k2, k3, k4, k5, hm, hC⟩) F17) ((if_pos (by omega)).trans (if_pos c20.2.2) : rsRR P i = _).symm)
          | (have e : rsPP P i = P := if_neg c20
             exact rI (k _ (by rw [e]; exact ⟨_, _, _, _, _, _, _, _, _, _, _, _, _, hsd, x0, hX, hS, hD, hI, hJ, hPL, k0, k1, k2, k3, k4, k5, hm, hC⟩) F17) ((if_pos (by omega)).trans (if_neg (by omega)) : rsRR P i = _).symm)
      · rw [pif_t c20] at hPL
        have hPL2 := hPL
        obtain ⟨g, sg, p0, p1, p2, p3, p4, hg, hsg, hFm, hV⟩ := hPL2
        obtain ⟨-, -, hnw⟩ := hFm.1 0 (by omega) (by omega)
        have hnow : moAt h17 (P.2.2.1 0) (P.2.2.2.2.2.2 i) := by
          have e : (takeP P i).2.2.2.1 0 = P.2.2.2.2.2.2 i := mset_s P.2.2.2.1 0 (P.2.2.2.2.2.2 i)
          rw [e] at hnw; exact hnw
        refine A.al2_0 d5_restore_23 ?_
        refine A.getf d5_restore_24 ?_ (hc := x0)
        refine A.v0 d5_restore_27 (s2_now p0 rfl rfl p1 (hg 0 (by omega) (by omega)) (by show (0 : Int) ≤ 0; omega) (by show (0 : Int) < 20; omega) (kS ?_)) (hc := p0)
        refine A.getf d5_restore_30 ?_ (hc := hnow.1)
        refine A.goto d5_restore_33 ?_
        refine A.iret d5_restore_38 ?_
        first
          | (have e : rsPP P i = takeP P i := if_pos c20
             exact rI (k _ (by rw [e]; exact ⟨_, _, _, _, _, _, _, _, _, _, _, _, _, hsd, x0, hX, hS, hD, hI, hJ, hPL, k0, k1, k2, k3, k4, k5, hm, hC⟩) F17) ((if_pos (by omega)).trans (if_pos c20.2.2) : rsRR P i = _).symm)
          | (have e : rsPP P i = P := if_neg c20
             exact rI (k _ (by rw [e]; exact ⟨_, _, _, _, _, _, _, _, _, _, _, _, _, hsd, x0, hX, hS, hD, hI, hJ, hPL, k0, k1, k2, k3, k4, k5, hm, hC⟩) F17) ((if_pos (by omega)).trans (if_neg (by omega)) : rsRR P i = _).symm)
    · refine A.bipush d5_restore_9 ?_
      refine A.iret d5_restore_11 ?_
      have e : rsPP P i = P := if_neg (by omega)
      exact rI (k _ (by rw [e]; exact hP0) (Fr.rfl (h := h) (a := x) (n := 98))) (if_neg (by omega) : rsRR P i = _).symm
set_option maxRecDepth 100000 in
set_option maxHeartbeats 4000000 in
theorem s5_skip {d : Nat} {h : AH} {R : RP} {x : Nat} {S : SC} {P : PL} {T : TX} {B : FN} (hp : pAt h x S P T) (hB : rScr B S) (hb : plI P) (hT : txI T) (k : ∀ h', pAt h' x (S) (skPP S P) (T) → Fr h h' x 98 → R (some (vI (skRR S P))) h') : AM m5_skip (d + 6) h [vR x] R := by
  refine AM.of (L := [some (vR x), none, none]) ok_5_skip (by decide) (fun G => Nat.le_of_ble_eq_true rfl) rfl ?_
  have hP0 := hp
  obtain ⟨sr, dr, a, n, Sd, re, wc, Cc, Lc, Lo, Wa, Es, m, hsd, x0, hX, hS, hD, hI, hJ, hPl, k0, k1, k2, k3, k4, k5, hm, hC⟩ := hp
  have hPL := hPl
  obtain ⟨g, sg, p0, p1, p2, p3, p4, hg, hsg, hFm, hV⟩ := hPl
  have hb0 := hb
  obtain ⟨⟨hp0, hpk, hk20⟩, hsb, hvb, hn0, hn1⟩ := hb
  obtain ⟨-, -, hnw⟩ := hFm.1 P.2.1 hp0 (by omega)
  have hnow : moAt h (P.2.2.1 P.2.1) (nowM P) := hnw
  have hB1 := hB.1
  have hT1 := hT.1
  have hT2 := hT.2.1
  refine A.al3_0 d5_skip_0 ?_
  refine A.v0 d5_skip_1 (s5_isLineShown hP0 hB hb0 hT (kS ?_)) (hc := x0)
  refine A.bz_ne d5_skip_4 (fun c4 => ?_) (fun c4 => ?_)
  · refine A.iconst d5_skip_10 ?_
    refine A.is3_1 d5_skip_11 ?_
    refine A.iconst d5_skip_12 ?_
    refine A.is3_2 d5_skip_13 ?_
    have loop : ∀ (nf : Nat) (i : Nat) (b : Int) (P1 : PL) (h1 : AH) (hi : i ≤ 60) (hp : pAt h1 x S P1 T) (hb : plI P1) (hF : Fr h h1 x 98) (he : (b = 1 ∧ skN2 S 60 P 0 = skN2 S (60 - i) P1 i) ∨ (b = 0 ∧ skN2 S 60 P 0 = (P1, (i : Int)))) (hn : 60 - i < nf), AW m5_skip (d + 6) (mC m5_skip, mS m5_skip) 14 [some (vR x), some (vI i), some (vI b)] [] h1 R := by
      intro nf
      induction nf with
      | zero => intro i b P1 h1 hi hp hb hF he hn; omega
      | succ nf ih =>
        intro i b P1 h1 hi hp hb hF he hn
        have hp1 := hp
        obtain ⟨sr, dr, a, n, Sd, re, wc, Cc, Lc, Lo, Wa, Es, m, hsd, x0, hX, hS, hD, hI, hJ, hPl, k0, k1, k2, k3, k4, k5, hm, hC⟩ := hp
        have hb1 := hb
        obtain ⟨-, hsb, -, hn0, hn1⟩ := hb
        refine A.il3_1 d5_skip_14 ?_
        refine A.bipush d5_skip_15 ?_
        refine A.ic_ge d5_skip_17 (fun c17 => ?_) (fun c17 => ?_)
        · refine A.il3_1 d5_skip_42 ?_
          refine A.iret d5_skip_43 ?_
          have hz : skN2 S 60 P 0 = (P1, (i : Int)) := by
            rcases he with ⟨z1, z2⟩ | ⟨z1, z2⟩
            · first
                | (exfalso; omega)
                | exact z2.trans (skN2_nl c28)
                | (rw [z2, show 60 - i = 0 by omega]; rfl)
            · exact z2
          have e1 : skPP S P = P1 := (if_pos c4).trans (congrArg (fun z => z.1) hz)
          have e2 : skRR S P = i := (if_pos c4).trans (congrArg (fun z => z.2) hz)
          exact rI (k _ (by rw [e1]; exact hp1) hF) e2.symm
        · refine A.il3_2 d5_skip_20 ?_
          refine A.if_eq d5_skip_21 (fun c21 => ?_) (fun c21 => ?_)
          · refine A.il3_1 d5_skip_42 ?_
            refine A.iret d5_skip_43 ?_
            have hz : skN2 S 60 P 0 = (P1, (i : Int)) := by
              rcases he with ⟨z1, z2⟩ | ⟨z1, z2⟩
              · first
                  | (exfalso; omega)
                  | exact z2.trans (skN2_nl c28)
                  | (rw [z2, show 60 - i = 0 by omega]; rfl)
              · exact z2
            have e1 : skPP S P = P1 := (if_pos c4).trans (congrArg (fun z => z.1) hz)
            have e2 : skRR S P = i := (if_pos c4).trans (congrArg (fun z => z.2) hz)
            exact rI (k _ (by rw [e1]; exact hp1) hF) e2.symm
          · refine A.al3_0 d5_skip_24 ?_
            refine A.v0 d5_skip_25 (s5_isLineShown hp1 hB hb1 hT (kS ?_)) (hc := x0)
            refine A.bz_eq d5_skip_28 (fun c28 => ?_) (fun c28 => ?_)
            · refine A.il3_1 d5_skip_42 ?_
              refine A.iret d5_skip_43 ?_
              have hz : skN2 S 60 P 0 = (P1, (i : Int)) := by
                rcases he with ⟨z1, z2⟩ | ⟨z1, z2⟩
                · first
                    | (exfalso; omega)
                    | exact z2.trans (skN2_nl c28)
                    | (rw [z2, show 60 - i = 0 by omega]; rfl)
                · exact z2
              have e1 : skPP S P = P1 := (if_pos c4).trans (congrArg (fun z => z.1) hz)
              have e2 : skRR S P = i := (if_pos c4).trans (congrArg (fun z => z.2) hz)
              exact rI (k _ (by rw [e1]; exact hp1) hF) e2.symm
            · have hkl := kd_lt (S := S) (v := (nowM P1).1) (by rw [sk_line c28]; decide)
              have hB1 := hB.1
              obtain ⟨hb2, hn2⟩ := plI_go hB hb1 (v := (nowM P1).1 + 1) (by omega) (by omega)
              have hsr := seenB_rng hsb (goM S P1 ((nowM P1).1 + 1)).1
              obtain ⟨j, hj⟩ : ∃ j, 60 - i = j + 1 := ⟨60 - i - 1, by omega⟩
              refine A.al3_0 d5_skip_31 ?_
              refine A.v0 d5_skip_32 (s5_goOnFromLine hp1 hB hb1 hT (fun h32 hp32 F32 => kS ?_)) (hc := x0)
              refine A.is3_2 d5_skip_35 ?_
              refine A.ii3_1 d5_skip_36 ?_
              refine A.goto d5_skip_39 ?_
              refine ih (i + 1) _ _ _ (by omega) hp32 hb2 (hF.then F32 (by omega) (by omega)) ?_ (by omega)
              rcases he with ⟨z1, z2⟩ | ⟨z1, z2⟩
              · rw [hj, show skN2 S (j + 1) P1 i = _ from if_pos c28] at z2
                by_cases y : seenB P1 (goM S P1 ((nowM P1).1 + 1)).1 = 1
                · rw [if_pos y] at z2
                  exact Or.inl ⟨y, by rw [z2, show 60 - (i + 1) = j by omega]; rfl⟩
                · rw [if_neg y] at z2
                  exact Or.inr ⟨by omega, by rw [z2]; rfl⟩
              · omega
    exact loop 61 0 1 P _ (by omega) hP0 hb0 Fr.rfl (Or.inl ⟨rfl, rfl⟩) (by omega)
  · refine A.bipush d5_skip_7 ?_
    refine A.iret d5_skip_9 ?_
    have e : skPP S P = P := if_neg c4
    exact rI (k _ (by rw [e]; exact hP0) (Fr.rfl (h := h) (a := x) (n := 98))) (if_neg c4 : skRR S P = _).symm
