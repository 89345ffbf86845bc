/-! ===== the class as a whole: it reads ===== -/
set_option maxRecDepth 100000 in
set_option maxHeartbeats 4000000 in
theorem s5_read {d : Nat} {h : AH} {R : RP} {x : Nat} {S : SC} {P : PL} {T : TX} {B : FN} (hp : pAt h x S P T) (hB : rScr B S) (hb : plI P) (hT : txI T) (k : ∀ Sd h', pAt h' x (rdSS S Sd T) (rdPP P Sd T) T → Fr h h' x 98 → R (some (vI (rdRR T))) h') : AM m5_read (d + 7) h [vR x] R := by
  refine AM.of (L := [some (vR x), none]) ok_5_read (by decide) (fun G => Nat.le_of_ble_eq_true rfl) rfl ?_
  have hP0 := hp
  obtain ⟨sr, dr, a, n, Sd, re, wc, Cc, Lc, Lo, Wa, Es, m, hsd, x0, hX, hS, hD, hI, hJ, hPl, k0, k1, k2, k3, k4, k5, hm, hC⟩ := hp
  have hPL := hPl
  obtain ⟨g, sg, p0, p1, p2, p3, p4, hg, hsg, hFm, hV⟩ := hPl
  have hb0 := hb
  obtain ⟨⟨hp0, hpk, hk20⟩, hsb, hvb, hn0, hn1⟩ := hb
  obtain ⟨-, -, hnw⟩ := hFm.1 P.2.1 hp0 (by omega)
  have hnow : moAt h (P.2.2.1 P.2.1) (nowM P) := hnw
  have hB1 := hB.1
  have hT1 := hT.1
  have hT2 := hT.2.1
  refine A.al2_0 d5_read_0 ?_
  refine A.getf d5_read_1 ?_ (hc := x0)
  refine A.v0 d5_read_4 (s4_findFault hX hT hD hJ (by omega) (fun h4 a4 n4 S4 hX4 hD4 hJ4 hz4 f4 => kS ?_)) (hc := hX.1)
  have f4a := f4.one (c := x + 1) (m := 14) (by omega) (by omega) (by omega) (by omega)
  have x0 := f4a.get x0 (by omega)
  have hS := hS.fr2 f4 (by omega) (by omega)
  have k0 := f4a.get k0 (by omega)
  have k1 := f4a.get k1 (by omega)
  have k2 := f4a.get k2 (by omega)
  have k3 := f4a.get k3 (by omega)
  have k4 := f4a.get k4 (by omega)
  have k5 := f4a.get k5 (by omega)
  have hm := hm.fr f4a (by omega)
  have hPL := hPL.fr f4a (by omega)
  have hX := hX4
  have hD := hD4
  have hJ := hJ4
  have F4 := (Fr.rfl (h := h) (a := x) (n := 98)).then f4a (by omega) (by omega)
  refine A.bipush d5_read_7 ?_
  refine A.ic_eq d5_read_9 (fun c9 => ?_) (fun c9 => ?_)
  · have hS4 : S4 = rdS Sd T := hz4 c9
    subst hS4
    obtain ⟨B2, hBn⟩ := rScr_ex Sd T
    have hsd2 : (dr = x + 9 ∧ sr = x + 3) ∨ (dr = x + 3 ∧ sr = x + 9) := by omega
    refine A.al2_0 d5_read_15 ?_
    refine A.getf d5_read_16 ?_ (hc := x0)
    refine A.as2_1 d5_read_19 ?_
    refine A.al2_0 d5_read_20 ?_
    refine A.al2_0 d5_read_21 ?_
    refine A.getf d5_read_22 ?_ (hc := x0)
    refine A.getf d5_read_25 ?_ (hc := hX.1)
    refine A.putf d5_read_28 (fun h28 e28 f28 => ?_) (hc := x0) (hk := blt_ok rfl)
    first | (have x0 := (f28.2 _ (by omega)).trans x0) | (have x0 := e28)
    first | (have k0 := (f28.2 _ (by omega)).trans k0) | (have k0 := e28)
    first | (have k1 := (f28.2 _ (by omega)).trans k1) | (have k1 := e28)
    first | (have k2 := (f28.2 _ (by omega)).trans k2) | (have k2 := e28)
    first | (have k3 := (f28.2 _ (by omega)).trans k3) | (have k3 := e28)
    first | (have k4 := (f28.2 _ (by omega)).trans k4) | (have k4 := e28)
    first | (have k5 := (f28.2 _ (by omega)).trans k5) | (have k5 := e28)
    have hS := hS.fr f28 (by omega)
    have hD := hD.fr f28 (by omega)
    have hm := hm.fr f28 (by omega)
    have hPL := hPL.fr f28 (by omega)
    have F28 := F4.then f28 (by omega) (by omega)
    have hX := hX.fr f28 (by omega)
    refine A.al2_0 d5_read_31 ?_
    refine A.getf d5_read_32 ?_ (hc := x0)
    refine A.al2_1 d5_read_35 ?_
    refine A.putf d5_read_36 (fun h36 e36 f36 => ?_) (hc := hX.1) (hk := blt_ok rfl)
    first | (have x0 := (f36.2 _ (by omega)).trans x0) | (have x0 := e36)
    first | (have k0 := (f36.2 _ (by omega)).trans k0) | (have k0 := e36)
    first | (have k1 := (f36.2 _ (by omega)).trans k1) | (have k1 := e36)
    first | (have k2 := (f36.2 _ (by omega)).trans k2) | (have k2 := e36)
    first | (have k3 := (f36.2 _ (by omega)).trans k3) | (have k3 := e36)
    first | (have k4 := (f36.2 _ (by omega)).trans k4) | (have k4 := e36)
    first | (have k5 := (f36.2 _ (by omega)).trans k5) | (have k5 := e36)
    have hS := hS.fr f36 (by omega)
    have hD := hD.fr f36 (by omega)
    have hm := hm.fr f36 (by omega)
    have hPL := hPL.fr f36 (by omega)
    have F36 := F28.then f36 (by omega) (by omega)
    have hX : txAt h36 (x + 1) T sr a4 n4 := ⟨e36, f36.get hX.2 (by omega)⟩
    have hsw := hS
    have hS := hD
    have hD := hsw
    have p0 := hPL.choose_spec.choose_spec.1
    refine A.al2_0 d5_read_39 ?_
    refine A.getf d5_read_40 ?_ (hc := x0)
    refine A.al2_0 d5_read_43 ?_
    refine A.getf d5_read_44 ?_ (hc := x0)
    refine A.v1 d5_read_47 (s2_startScript hPL hS (by omega) (fun h47 hPl47 f47 => kN ?_)) (hc := p0)
    first | (have x0 := (f47.2 _ (by omega)).trans x0) | (have x0 := e47) | skip
    first | (have k0 := (f47.2 _ (by omega)).trans k0) | (have k0 := e47) | skip
    first | (have k1 := (f47.2 _ (by omega)).trans k1) | (have k1 := e47) | skip
    first | (have k2 := (f47.2 _ (by omega)).trans k2) | (have k2 := e47) | skip
    first | (have k3 := (f47.2 _ (by omega)).trans k3) | (have k3 := e47) | skip
    first | (have k4 := (f47.2 _ (by omega)).trans k4) | (have k4 := e47) | skip
    first | (have k5 := (f47.2 _ (by omega)).trans k5) | (have k5 := e47) | skip
    first | (have hS := hS.fr f47 (by omega)) | skip
    first | (have hD := hD.fr f47 (by omega)) | skip
    first | (have hm := hm.fr f47 (by omega)) | skip
    first | (have hPL := hPL.fr f47 (by omega)) | skip
    have F47 := F36.then f47 (by omega) (by omega)
    have hPL := hPl47
    have hX := hX.fr f47 (by omega)
    refine A.al2_0 d5_read_50 ?_
    refine A.getf d5_read_51 ?_ (hc := x0)
    refine A.al2_0 d5_read_54 ?_
    refine A.getf d5_read_55 ?_ (hc := x0)
    refine A.v1 d5_read_58 (s0_draw k0 k1 k2 k3 k4 k5 hS (by omega) hBn hm (fun h58 re58 wc58 Cc58 Lc58 Lo58 Wa58 Es58 m58 q0 q1 q2 q3 q4 q5 hm58 u58 v58 hC58 f58 => kN ?_)) (hc := k0)
    first | (have x0 := (f58.2 _ (by omega)).trans x0) | (have x0 := e58) | skip
    first | (have k0 := (f58.2 _ (by omega)).trans k0) | (have k0 := e58) | skip
    first | (have k1 := (f58.2 _ (by omega)).trans k1) | (have k1 := e58) | skip
    first | (have k2 := (f58.2 _ (by omega)).trans k2) | (have k2 := e58) | skip
    first | (have k3 := (f58.2 _ (by omega)).trans k3) | (have k3 := e58) | skip
    first | (have k4 := (f58.2 _ (by omega)).trans k4) | (have k4 := e58) | skip
    first | (have k5 := (f58.2 _ (by omega)).trans k5) | (have k5 := e58) | skip
    first | (have hS := hS.fr f58 (by omega)) | skip
    first | (have hD := hD.fr f58 (by omega)) | skip
    first | (have hm := hm.fr f58 (by omega)) | skip
    first | (have hPL := hPL.fr f58 (by omega)) | skip
    have F58 := F47.then f58 (by omega) (by omega)
    have k0 := q0
    have k1 := q1
    have k2 := q2
    have k3 := q3
    have k4 := q4
    have k5 := q5
    have hm := hm58
    have hX := hX.fr f58 (by omega)
    refine A.al2_0 d5_read_61 ?_
    refine A.getf d5_read_62 ?_ (hc := x0)
    refine A.getf d5_read_65 ?_ (hc := hS.1)
    refine A.iret d5_read_68 ?_
    have e1 : rdSS S Sd T = rdS Sd T := if_pos c9
    have e2 : rdPP P Sd T = startP (rdS Sd T) P := if_pos c9
    have e3 : rdRR T = _ := if_pos c9
    exact rI (k Sd _ (by rw [e1, e2]; exact ⟨_, _, _, _, _, _, _, _, _, _, _, _, _, hsd2, x0, hX, hS, hD, hJ, hI, hPL, k0, k1, k2, k3, k4, k5, hm, hC58⟩) F58) (by rw [e3]; exact addAll_n)
  · refine A.bipush d5_read_12 ?_
    refine A.iret d5_read_14 ?_
    have e1 : rdSS S Sd T = S := if_neg c9
    have e2 : rdPP P Sd T = P := if_neg c9
    exact rI (k Sd _ (by rw [e1, e2]; exact ⟨_, _, _, _, _, _, _, _, _, _, _, _, _, hsd, x0, hX, hS, hD, hI, hJ, hPL, k0, k1, k2, k3, k4, k5, hm, hC⟩) F4) (if_neg c9 : rdRR T = _).symm
