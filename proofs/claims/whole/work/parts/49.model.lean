/-! ===== the reference as a whole: text, reading, beginning ===== -/
def mAt (h : AH) (q : Nat) (S : SC) (P : PL) (T : TX) : Prop := ∃ (rd fi co ah se ps fa fl ch : Int) (hx : Int64) (B Rd Mo Sv Iv V F Re Ch Fm By Ie Ef Eb : Int → Int), h.2 q = some (mobj q S.1 rd fi co ah se T.1 ps fa fl ch hx) ∧ h.2 (q + 1) = some (kA 0 348 B) ∧ h.2 (q + 2) = some (kA 0 348 Rd) ∧ h.2 (q + 3) = some (kA 0 160 Mo) ∧ h.2 (q + 4) = some (kA 0 24 Sv) ∧ h.2 (q + 5) = some (kA 2 3 Iv) ∧ h.2 (q + 6) = some (kA 0 100 T.2) ∧ h.2 (q + 7) = some (kA 0 3 V) ∧ h.2 (q + 8) = some (kA 0 3 F) ∧ h.2 (q + 9) = some (kA 2 1984 Re) ∧ h.2 (q + 10) = some (kA 0 1984 Ch) ∧ h.2 (q + 11) = some (kA 0 1984 Fm) ∧ h.2 (q + 12) = some (kA 0 1984 By) ∧ h.2 (q + 13) = some (kA 2 13 Ie) ∧ h.2 (q + 14) = some (kA 0 13 Ef) ∧ h.2 (q + 15) = some (kA 0 13 Eb) ∧ rScr B S ∧ plR S P fi co ah se Mo Sv Iv ∧ txI T
noncomputable def tyT (T : TX) (l : Int) : TX := pif ((0 ≤ l ∧ l ≤ 127) ∧ T.1 < 100) (T.1 + 1, fset T.2 T.1 l) T
def tyR (T : TX) (l : Int) : Int := if 0 ≤ l ∧ l ≤ 127 then (if T.1 < 100 then T.1 + 1 else -14) else -12
theorem txI_ty {T : TX} {l : Int} (h : txI T) : txI (tyT T l) := by
  obtain ⟨h0, h1, h2⟩ := h
  by_cases c : (0 ≤ l ∧ l ≤ 127) ∧ T.1 < 100
  · rw [show tyT T l = _ from pif_t c]
    refine ⟨by show 0 ≤ T.1 + 1; omega, by show T.1 + 1 ≤ 100; omega, fun i i0 i1 => ?_⟩
    have i1 : i < T.1 + 1 := i1
    show 0 ≤ fset T.2 T.1 l i ∧ fset T.2 T.1 l i ≤ 127
    by_cases e : i = T.1
    · rw [fs_at e]; exact c.1
    · rw [fs_off e]; exact h2 i i0 (by omega)
  · rw [show tyT T l = _ from pif_f c]; exact ⟨h0, h1, h2⟩
theorem txI_0 {T : TX} : txI (0, T.2) := ⟨Int.le_refl 0, (by decide : (0 : Int) ≤ 100), fun i i0 i1 => by have : i < 0 := i1; omega⟩
set_option maxRecDepth 100000 in
set_option maxHeartbeats 4000000 in
theorem s6_type {d : Nat} {h : AH} {R : RP} {l : Int} {q : Nat} {S : SC} {P : PL} {T : TX} (hM : mAt h q S P T) (k : ∀ h', mAt h' q S P (tyT T l) → Fr h h' q 16 → R (some (vI (tyR T l))) h') : AM m6_type (d + 1) h [vR q, vI l] R := by
  refine AM.of (L := [some (vR q), some (vI l)]) ok_6_type (by decide) (fun G => Nat.le_of_ble_eq_true rfl) rfl ?_
  obtain ⟨rd, fi, co, ah, se, ps, fa, fl, ch, hx, B, Rd, Mo, Sv, Iv, V, F, Re, Ch, Fm, By, Ie, Ef, Eb, w0, w1, w2, w3, w4, w5, w6, w7, w8, w9, w10, w11, w12, w13, w14, w15, hB, hP, hT⟩ := hM
  have hT1 := hT.1
  have hT2 := hT.2.1
  have hty := txI_ty (l := l) hT
  refine A.il2_1 d6_type_0 ?_
  refine A.iconst d6_type_1 ?_
  refine A.bipush d6_type_2 ?_
  refine A.s3 d6_type_4 (s6_in (kS ?_))
  refine A.bz_ne d6_type_7 (fun c7 => ?_) (fun c7 => ?_)
  · refine A.al2_0 d6_type_13 ?_
    refine A.getf d6_type_14 ?_ (hc := w0)
    refine A.bipush d6_type_17 ?_
    refine A.ic_ne d6_type_19 (fun c19 => ?_) (fun c19 => ?_)
    · refine A.al2_0 d6_type_25 ?_
      refine A.getf d6_type_26 ?_ (hc := w0)
      refine A.al2_0 d6_type_29 ?_
      refine A.getf d6_type_30 ?_ (hc := w0)
      refine A.il2_1 d6_type_33 ?_
      refine A.iast d6_type_34 (fun h34 e34 f34 => ?_) (hc := w6)
      first | (have w0 := (f34.2 _ (by omega)).trans w0) | (have w0 := e34)
      first | (have w1 := (f34.2 _ (by omega)).trans w1) | (have w1 := e34)
      first | (have w2 := (f34.2 _ (by omega)).trans w2) | (have w2 := e34)
      first | (have w3 := (f34.2 _ (by omega)).trans w3) | (have w3 := e34)
      first | (have w4 := (f34.2 _ (by omega)).trans w4) | (have w4 := e34)
      first | (have w5 := (f34.2 _ (by omega)).trans w5) | (have w5 := e34)
      first | (have w6 := (f34.2 _ (by omega)).trans w6) | (have w6 := e34)
      first | (have w7 := (f34.2 _ (by omega)).trans w7) | (have w7 := e34)
      first | (have w8 := (f34.2 _ (by omega)).trans w8) | (have w8 := e34)
      first | (have w9 := (f34.2 _ (by omega)).trans w9) | (have w9 := e34)
      first | (have w10 := (f34.2 _ (by omega)).trans w10) | (have w10 := e34)
      first | (have w11 := (f34.2 _ (by omega)).trans w11) | (have w11 := e34)
      first | (have w12 := (f34.2 _ (by omega)).trans w12) | (have w12 := e34)
      first | (have w13 := (f34.2 _ (by omega)).trans w13) | (have w13 := e34)
      first | (have w14 := (f34.2 _ (by omega)).trans w14) | (have w14 := e34)
      first | (have w15 := (f34.2 _ (by omega)).trans w15) | (have w15 := e34)
      have F34 := (Fr.rfl (h := h) (a := q) (n := 16)).then f34 (by omega) (by omega)
      refine A.al2_0 d6_type_35 ?_
      refine A.dup d6_type_36 ?_
      refine A.getf d6_type_37 ?_ (hc := w0)
      refine A.iconst d6_type_40 ?_
      refine A.iadd d6_type_41 ?_
      refine A.putf d6_type_42 (fun h42 e42 f42 => ?_) (hc := w0) (hk := blt_ok rfl)
      first | (have w0 := (f42.2 _ (by omega)).trans w0) | (have w0 := e42)
      first | (have w1 := (f42.2 _ (by omega)).trans w1) | (have w1 := e42)
      first | (have w2 := (f42.2 _ (by omega)).trans w2) | (have w2 := e42)
      first | (have w3 := (f42.2 _ (by omega)).trans w3) | (have w3 := e42)
      first | (have w4 := (f42.2 _ (by omega)).trans w4) | (have w4 := e42)
      first | (have w5 := (f42.2 _ (by omega)).trans w5) | (have w5 := e42)
      first | (have w6 := (f42.2 _ (by omega)).trans w6) | (have w6 := e42)
      first | (have w7 := (f42.2 _ (by omega)).trans w7) | (have w7 := e42)
      first | (have w8 := (f42.2 _ (by omega)).trans w8) | (have w8 := e42)
      first | (have w9 := (f42.2 _ (by omega)).trans w9) | (have w9 := e42)
      first | (have w10 := (f42.2 _ (by omega)).trans w10) | (have w10 := e42)
      first | (have w11 := (f42.2 _ (by omega)).trans w11) | (have w11 := e42)
      first | (have w12 := (f42.2 _ (by omega)).trans w12) | (have w12 := e42)
      first | (have w13 := (f42.2 _ (by omega)).trans w13) | (have w13 := e42)
      first | (have w14 := (f42.2 _ (by omega)).trans w14) | (have w14 := e42)
      first | (have w15 := (f42.2 _ (by omega)).trans w15) | (have w15 := e42)
      have F42 := F34.then f42 (by omega) (by omega)
      refine A.al2_0 d6_type_45 ?_
      refine A.getf d6_type_46 ?_ (hc := w0)
      refine A.iret d6_type_49 ?_
      have e : tyT T l = _ := pif_t (by omega)
      exact rI (k _ (by rw [e] at hty ⊢; exact ⟨_, _, _, _, _, _, _, _, _, _, _, _, _, _, _, _, _, _, _, _, _, _, _, _, w0, w1, w2, w3, w4, w5, w6, w7, w8, w9, w10, w11, w12, w13, w14, w15, hB, hP, hty⟩) F42) ((if_pos (by omega)).trans (if_pos (by omega))).symm
    · refine A.bipush d6_type_22 ?_
      refine A.iret d6_type_24 ?_
      have e : tyT T l = _ := pif_f (by omega)
      exact rI (k _ (by rw [e]; exact ⟨_, _, _, _, _, _, _, _, _, _, _, _, _, _, _, _, _, _, _, _, _, _, _, _, w0, w1, w2, w3, w4, w5, w6, w7, w8, w9, w10, w11, w12, w13, w14, w15, hB, hP, hT⟩) (Fr.rfl (h := h) (a := q) (n := 16))) ((if_pos (by omega)).trans (if_neg (by omega))).symm
  · refine A.bipush d6_type_10 ?_
    refine A.iret d6_type_12 ?_
    have e : tyT T l = _ := pif_f (by omega)
    exact rI (k _ (by rw [e]; exact ⟨_, _, _, _, _, _, _, _, _, _, _, _, _, _, _, _, _, _, _, _, _, _, _, _, w0, w1, w2, w3, w4, w5, w6, w7, w8, w9, w10, w11, w12, w13, w14, w15, hB, hP, hT⟩) (Fr.rfl (h := h) (a := q) (n := 16))) (if_neg (by omega)).symm
set_option maxRecDepth 100000 in
set_option maxHeartbeats 4000000 in
theorem s6_clearText {d : Nat} {h : AH} {R : RP} {q : Nat} {S : SC} {P : PL} {T : TX} (hM : mAt h q S P T) (k : ∀ h', mAt h' q S P (0, T.2) → Fr h h' q 16 → R (some (vI T.1)) h') : AM m6_clearText (d) h [vR q] R := by
  refine AM.of (L := [some (vR q), none]) ok_6_clearText (by decide) (fun G => Nat.le_of_ble_eq_true rfl) rfl ?_
  obtain ⟨rd, fi, co, ah, se, ps, fa, fl, ch, hx, B, Rd, Mo, Sv, Iv, V, F, Re, Ch, Fm, By, Ie, Ef, Eb, w0, w1, w2, w3, w4, w5, w6, w7, w8, w9, w10, w11, w12, w13, w14, w15, hB, hP, hT⟩ := hM
  refine A.al2_0 d6_clearText_0 ?_
  refine A.getf d6_clearText_1 ?_ (hc := w0)
  refine A.is2_1 d6_clearText_4 ?_
  refine A.al2_0 d6_clearText_5 ?_
  refine A.iconst d6_clearText_6 ?_
  refine A.putf d6_clearText_7 (fun h7 e7 f7 => ?_) (hc := w0) (hk := blt_ok rfl)
  first | (have w0 := (f7.2 _ (by omega)).trans w0) | (have w0 := e7)
  first | (have w1 := (f7.2 _ (by omega)).trans w1) | (have w1 := e7)
  first | (have w2 := (f7.2 _ (by omega)).trans w2) | (have w2 := e7)
  first | (have w3 := (f7.2 _ (by omega)).trans w3) | (have w3 := e7)
  first | (have w4 := (f7.2 _ (by omega)).trans w4) | (have w4 := e7)
  first | (have w5 := (f7.2 _ (by omega)).trans w5) | (have w5 := e7)
  first | (have w6 := (f7.2 _ (by omega)).trans w6) | (have w6 := e7)
  first | (have w7 := (f7.2 _ (by omega)).trans w7) | (have w7 := e7)
  first | (have w8 := (f7.2 _ (by omega)).trans w8) | (have w8 := e7)
  first | (have w9 := (f7.2 _ (by omega)).trans w9) | (have w9 := e7)
  first | (have w10 := (f7.2 _ (by omega)).trans w10) | (have w10 := e7)
  first | (have w11 := (f7.2 _ (by omega)).trans w11) | (have w11 := e7)
  first | (have w12 := (f7.2 _ (by omega)).trans w12) | (have w12 := e7)
  first | (have w13 := (f7.2 _ (by omega)).trans w13) | (have w13 := e7)
  first | (have w14 := (f7.2 _ (by omega)).trans w14) | (have w14 := e7)
  first | (have w15 := (f7.2 _ (by omega)).trans w15) | (have w15 := e7)
  have F7 := (Fr.rfl (h := h) (a := q) (n := 16)).then f7 (by omega) (by omega)
  refine A.il2_1 d6_clearText_10 ?_
  refine A.iret d6_clearText_11 ?_
  exact k _ ⟨_, _, _, _, _, _, _, _, _, _, _, _, _, _, _, _, _, _, _, _, _, _, _, _, w0, w1, w2, w3, w4, w5, w6, w7, w8, w9, w10, w11, w12, w13, w14, w15, hB, hP, txI_0⟩ F7
set_option maxRecDepth 100000 in
set_option maxHeartbeats 4000000 in
theorem s6_faultM {d : Nat} {h : AH} {R : RP} {q : Nat} {S : SC} {P : PL} {T : TX} (hM : mAt h q S P T) (k : ∀ h', mAt h' q S P T → Fr h h' q 16 → R (some (vI (ffR T 29 0).1)) h') : AM m6_fault (d + 6) h [vR q] R := by
  refine AM.of (L := [some (vR q)]) ok_6_fault (by decide) (fun G => Nat.le_of_ble_eq_true rfl) rfl ?_
  obtain ⟨rd, fi, co, ah, se, ps, fa, fl, ch, hx, B, Rd, Mo, Sv, Iv, V, F, Re, Ch, Fm, By, Ie, Ef, Eb, w0, w1, w2, w3, w4, w5, w6, w7, w8, w9, w10, w11, w12, w13, w14, w15, hB, hP, hT⟩ := hM
  refine A.al1_0 d6_fault_0 ?_
  refine A.v0 d6_fault_1 (s6_reads w0 w2 w6 hT (fun h1 ps1 rd1 A1 e1 g1 r1 f1 => kN ?_)) (hc := w0)
  have w0 := e1
  have w2 := g1
  have w1 := f1.get w1 (by omega) (by omega)
  have w3 := f1.get w3 (by omega) (by omega)
  have w4 := f1.get w4 (by omega) (by omega)
  have w5 := f1.get w5 (by omega) (by omega)
  have w6 := f1.get w6 (by omega) (by omega)
  have w7 := f1.get w7 (by omega) (by omega)
  have w8 := f1.get w8 (by omega) (by omega)
  have w9 := f1.get w9 (by omega) (by omega)
  have w10 := f1.get w10 (by omega) (by omega)
  have w11 := f1.get w11 (by omega) (by omega)
  have w12 := f1.get w12 (by omega) (by omega)
  have w13 := f1.get w13 (by omega) (by omega)
  have w14 := f1.get w14 (by omega) (by omega)
  have w15 := f1.get w15 (by omega) (by omega)
  have F1 := f1.one (c := q) (m := 16) (by omega) (by omega) (by omega) (by omega)
  refine A.al1_0 d6_fault_4 ?_
  refine A.getf d6_fault_5 ?_ (hc := w0)
  refine A.iret d6_fault_8 ?_
  exact k _ ⟨_, _, _, _, _, _, _, _, _, _, _, _, _, _, _, _, _, _, _, _, _, _, _, _, w0, w1, w2, w3, w4, w5, w6, w7, w8, w9, w10, w11, w12, w13, w14, w15, hB, hP, hT⟩ F1
