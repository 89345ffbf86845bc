/-! ===== Text: the bytes; the grammar's tokens ===== -/
/-- a text: its length, its bytes -/
abbrev TX : Type := Int × (Int → Int)
def txI (T : TX) : Prop := 0 ≤ T.1 ∧ T.1 ≤ 100 ∧ ∀ i, 0 ≤ i → i < T.1 → 0 ≤ T.2 i ∧ T.2 i ≤ 127
/-- the byte at a place; behind the last one -1 -/
def tc (T : TX) (p : Int) : Int := if 0 ≤ p ∧ p < T.1 then T.2 p else -1
def hv (T : TX) (p : Int) : Int := if 0 ≤ p ∧ p < T.1 then T.2 p else 0
theorem tc_rng {T : TX} (hT : txI T) (p : Int) : -1 ≤ tc T p ∧ tc T p ≤ 127 := by
  unfold tc
  by_cases e : 0 ≤ p ∧ p < T.1
  · rw [if_pos e]; have := hT.2.2 p e.1 e.2; omega
  · rw [if_neg e]; omega
theorem hv_tc {T : TX} (hT : txI T) (p : Int) : (tc T p = -1 ∧ hv T p = 0 ∧ ¬ (0 ≤ p ∧ p < T.1)) ∨ (0 ≤ tc T p ∧ hv T p = tc T p ∧ 0 ≤ p ∧ p < T.1) := by
  unfold tc hv
  by_cases e : 0 ≤ p ∧ p < T.1
  · rw [if_pos e, if_pos e]; have := hT.2.2 p e.1 e.2; omega
  · rw [if_neg e, if_neg e]; omega
def isd (T : TX) (p : Int) : Prop := 48 ≤ tc T p ∧ tc T p ≤ 57
def skN (T : TX) : Nat → Int → Int
  | 0, p => p
  | k + 1, p => if tc T p = 32 then skN T k (p + 1) else p
/-- behind the blanks from a place on -/
def sk (T : TX) (p : Int) : Int := skN T 101 p
theorem skN_stop {T : TX} {k : Nat} {p : Int} (h : tc T p ≠ 32) : skN T k p = p := by
  cases k with
  | zero => rfl
  | succ k => exact if_neg h
theorem skN_le {T : TX} : ∀ (k : Nat) (p : Int), p ≤ skN T k p ∧ (p ≤ T.1 → skN T k p ≤ T.1) ∧ (T.1 - p < k → tc T (skN T k p) ≠ 32) := by
  intro k
  induction k with
  | zero => intro p; exact ⟨Int.le_refl _, fun h => h, fun h => by show tc T p ≠ 32; unfold tc; rw [if_neg (by omega)]; decide⟩
  | succ k ih =>
    intro p
    show p ≤ (if tc T p = 32 then skN T k (p + 1) else p) ∧ (p ≤ T.1 → (if tc T p = 32 then skN T k (p + 1) else p) ≤ T.1) ∧ (T.1 - p < _ → tc T (if tc T p = 32 then skN T k (p + 1) else p) ≠ 32)
    by_cases e : tc T p = 32
    · rw [if_pos e]
      obtain ⟨h1, h2, h3⟩ := ih (p + 1)
      have hlt : p < T.1 := by
        unfold tc at e
        by_cases z : 0 ≤ p ∧ p < T.1
        · exact z.2
        · rw [if_neg z] at e; omega
      exact ⟨by omega, fun _ => h2 (by omega), fun q => h3 (by omega)⟩
    · rw [if_neg e]
      exact ⟨Int.le_refl _, fun h => h, fun _ => e⟩
theorem sk_le {T : TX} (p : Int) : p ≤ sk T p := (skN_le 101 p).1
theorem sk_len {T : TX} {p : Int} (h : p ≤ T.1) : sk T p ≤ T.1 := (skN_le 101 p).2.1 h
theorem sk_nb {T : TX} (hT : txI T) {p : Int} (h : 0 ≤ p) : tc T (sk T p) ≠ 32 := (skN_le 101 p).2.2 (by have := hT.2.1; omega)
theorem sk_sk {T : TX} (hT : txI T) {p : Int} (h : 0 ≤ p) : sk T (sk T p) = sk T p := skN_stop (sk_nb hT h)
theorem sk_id {T : TX} {p : Int} (h : tc T p ≠ 32) : sk T p = p := skN_stop h
theorem tc_lt {T : TX} {p : Int} (h : 0 ≤ tc T p) : 0 ≤ p ∧ p < T.1 := by
  unfold tc at h
  by_cases e : 0 ≤ p ∧ p < T.1
  · exact e
  · rw [if_neg e] at h; omega
/-- a digit up to m: fits, and where the reading stands then -/
def dgOk (T : TX) (m p : Int) : Prop := (48 ≤ tc T p ∧ tc T p ≤ 48 + m) ∧ ¬ isd T (p + 1)
def dgAt (T : TX) (m p : Int) : Int := if 48 ≤ tc T p ∧ tc T p ≤ 48 + m then p + 1 else p
noncomputable def nmV (T : TX) (p : Int) : Int := pif (isd T (p + 1)) (10 * (tc T p - 48) + (tc T (p + 1) - 48)) (tc T p - 48)
noncomputable def nmE (T : TX) (p : Int) : Int := pif (isd T (p + 1)) (p + 2) (p + 1)
def nmOk (T : TX) (m p : Int) : Prop := (isd T p ∧ nmV T p ≤ m) ∧ ¬ isd T (nmE T p)
noncomputable def nmAt (T : TX) (m p : Int) : Int := pif (isd T p ∧ nmV T p ≤ m) (nmE T p) p
def vcOk (T : TX) (p : Int) : Prop := 97 ≤ tc T p ∧ tc T p ≤ 102
/-- a Text: the text, its draft, where the reading stands, the number read last -/
def txAt (h : AH) (t : Nat) (T : TX) (s : Nat) (a n : Int) : Prop := h.2 t = some (kO 4 [vI T.1, vR (t + 1), vR s, vI a, vI n]) ∧ h.2 (t + 1) = some (kA 1 100 T.2)
theorem txAt.fr {h h' : AH} {t s b k : Nat} {T : TX} {a n : Int} (x : txAt h t T s a n) (f : Fr h h' b k) (hd : t + 2 ≤ b ∨ b + k ≤ t) : txAt h' t T s a n := ⟨f.get x.1 (by omega), f.get x.2 (by omega)⟩
set_option maxRecDepth 100000 in
set_option maxHeartbeats 4000000 in
theorem s4_here {d : Nat} {h : AH} {R : RP} {t s : Nat} {T : TX} {a n : Int} (hX : txAt h t T s a n) (hT : txI T) (k : R (some (vI (hv T a))) h) : AM m4_here (d) h [vR t] R := by
  refine AM.of (L := [some (vR t)]) ok_4_here (by decide) (fun G => Nat.le_of_ble_eq_true rfl) rfl ?_
  obtain ⟨x0, x1⟩ := hX
  have hT2 := hT.2.1
  refine A.al1_0 d4_here_0 ?_
  refine A.getf d4_here_1 ?_ (hc := x0)
  refine A.if_lt d4_here_4 (fun c4 => ?_) (fun c4 => ?_)
  · refine A.iconst d4_here_39 ?_
    refine A.iret d4_here_40 ?_
    exact rI k (by unfold hv; first | (rw [if_pos (by omega)]; done) | (rw [if_neg (by omega)]; done))
  · refine A.al1_0 d4_here_7 ?_
    refine A.getf d4_here_8 ?_ (hc := x0)
    refine A.al1_0 d4_here_11 ?_
    refine A.getf d4_here_12 ?_ (hc := x0)
    refine A.ic_ge d4_here_15 (fun c15 => ?_) (fun c15 => ?_)
    · refine A.iconst d4_here_39 ?_
      refine A.iret d4_here_40 ?_
      exact rI k (by unfold hv; first | (rw [if_pos (by omega)]; done) | (rw [if_neg (by omega)]; done))
    · refine A.al1_0 d4_here_18 ?_
      refine A.getf d4_here_19 ?_ (hc := x0)
      refine A.bipush d4_here_22 ?_
      refine A.ic_ge d4_here_24 (fun c24 => ?_) (fun c24 => ?_)
      · refine A.iconst d4_here_39 ?_
        refine A.iret d4_here_40 ?_
        exact rI k (by unfold hv; first | (rw [if_pos (by omega)]; done) | (rw [if_neg (by omega)]; done))
      · refine A.al1_0 d4_here_27 ?_
        refine A.getf d4_here_28 ?_ (hc := x0)
        refine A.al1_0 d4_here_31 ?_
        refine A.getf d4_here_32 ?_ (hc := x0)
        refine A.bald d4_here_35 ?_ (hc := x1)
        refine A.goto d4_here_36 ?_
        refine A.iret d4_here_40 ?_
        exact rI k (by unfold hv; first | (rw [if_pos (by omega)]; done) | (rw [if_neg (by omega)]; done))
set_option maxRecDepth 100000 in
set_option maxHeartbeats 4000000 in
theorem s4_isAtDigit {d : Nat} {h : AH} {R : RP} {t s : Nat} {T : TX} {a n : Int} (hX : txAt h t T s a n) (hT : txI T) (k : R (some (vI (bi (isd T a)))) h) : AM m4_isAtDigit (d + 1) h [vR t] R := by
  refine AM.of (L := [some (vR t)]) ok_4_isAtDigit (by decide) (fun G => Nat.le_of_ble_eq_true rfl) rfl ?_
  obtain ⟨x0, x1⟩ := hX
  have hh := hv_tc hT a
  refine A.al1_0 d4_isAtDigit_0 ?_
  refine A.v0 d4_isAtDigit_1 (s4_here ⟨x0, x1⟩ hT (kS ?_)) (hc := x0)
  refine A.bipush d4_isAtDigit_4 ?_
  refine A.ic_lt d4_isAtDigit_6 (fun c6 => ?_) (fun c6 => ?_)
  · refine A.iconst d4_isAtDigit_22 ?_
    refine A.zret d4_isAtDigit_23 ?_
    first | exact rT k (by unfold isd; omega) | exact rF k (by unfold isd; omega)
  · refine A.al1_0 d4_isAtDigit_9 ?_
    refine A.v0 d4_isAtDigit_10 (s4_here ⟨x0, x1⟩ hT (kS ?_)) (hc := x0)
    refine A.bipush d4_isAtDigit_13 ?_
    refine A.ic_gt d4_isAtDigit_15 (fun c15 => ?_) (fun c15 => ?_)
    · refine A.iconst d4_isAtDigit_22 ?_
      refine A.zret d4_isAtDigit_23 ?_
      first | exact rT k (by unfold isd; omega) | exact rF k (by unfold isd; omega)
    · refine A.iconst d4_isAtDigit_18 ?_
      refine A.goto d4_isAtDigit_19 ?_
      refine A.zret d4_isAtDigit_23 ?_
      first | exact rT k (by unfold isd; omega) | exact rF k (by unfold isd; omega)
set_option maxRecDepth 100000 in
set_option maxHeartbeats 4000000 in
theorem s4_isAtEnd {d : Nat} {h : AH} {R : RP} {t s : Nat} {T : TX} {a n : Int} (hX : txAt h t T s a n) (hT : txI T) (ha : 0 ≤ a) (k : R (some (vI (bi (tc T a = -1)))) h) : AM m4_isAtEnd (d) h [vR t] R := by
  refine AM.of (L := [some (vR t)]) ok_4_isAtEnd (by decide) (fun G => Nat.le_of_ble_eq_true rfl) rfl ?_
  obtain ⟨x0, x1⟩ := hX
  have hh := hv_tc hT a
  refine A.al1_0 d4_isAtEnd_0 ?_
  refine A.getf d4_isAtEnd_1 ?_ (hc := x0)
  refine A.al1_0 d4_isAtEnd_4 ?_
  refine A.getf d4_isAtEnd_5 ?_ (hc := x0)
  refine A.ic_lt d4_isAtEnd_8 (fun c8 => ?_) (fun c8 => ?_)
  · refine A.iconst d4_isAtEnd_15 ?_
    refine A.zret d4_isAtEnd_16 ?_
    first | exact rT k (by omega) | exact rF k (by omega)
  · refine A.iconst d4_isAtEnd_11 ?_
    refine A.goto d4_isAtEnd_12 ?_
    refine A.zret d4_isAtEnd_16 ?_
    first | exact rT k (by omega) | exact rF k (by omega)
set_option maxRecDepth 100000 in
set_option maxHeartbeats 4000000 in
theorem s4_append {d : Nat} {h : AH} {R : RP} {v : Int} {t s : Nat} {T : TX} {a n : Int} (hX : txAt h t T s a n) (hT : txI T) (hv0 : -128 ≤ v ∧ v ≤ 127) (k : ∀ h', txAt h' t (pif (T.1 < 100) (T.1 + 1, fset T.2 T.1 v) T) s a n → Fr h h' t 2 → R (some (vI (bi (T.1 < 100)))) h') : AM m4_append (d) h [vR t, vI v] R := by
  refine AM.of (L := [some (vR t), some (vI v)]) ok_4_append (by decide) (fun G => Nat.le_of_ble_eq_true rfl) rfl ?_
  obtain ⟨x0, x1⟩ := hX
  have hT1 := hT.1
  refine A.al2_0 d4_append_0 ?_
  refine A.getf d4_append_1 ?_ (hc := x0)
  refine A.if_lt d4_append_4 (fun c4 => ?_) (fun c4 => ?_)
  · refine A.iconst d4_append_16 ?_
    refine A.zret d4_append_17 ?_
    first | exact rT (k _ (by rw [pif_t (by omega)]; exact ⟨x0, x1⟩) None) (by omega) | exact rF (k _ (by rw [pif_f (by omega)]; exact ⟨x0, x1⟩) Fr.rfl) (by omega)
  · refine A.al2_0 d4_append_7 ?_
    refine A.getf d4_append_8 ?_ (hc := x0)
    refine A.bipush d4_append_11 ?_
    refine A.ic_lt d4_append_13 (fun c13 => ?_) (fun c13 => ?_)
    · refine A.al2_0 d4_append_18 ?_
      refine A.getf d4_append_19 ?_ (hc := x0)
      refine A.al2_0 d4_append_22 ?_
      refine A.getf d4_append_23 ?_ (hc := x0)
      refine A.il2_1 d4_append_26 ?_
      refine A.bast d4_append_27 (fun h27 e27 f27 => ?_) (hc := x1)
      first | (have x0 := (f27.2 _ (by omega)).trans x0) | (have x0 := e27)
      first | (have x1 := (f27.2 _ (by omega)).trans x1) | (have x1 := e27)
      have F27 := f27.wide (a := t) (n := 2) (by omega) (by omega)
      refine A.al2_0 d4_append_28 ?_
      refine A.dup d4_append_29 ?_
      refine A.getf d4_append_30 ?_ (hc := x0)
      refine A.iconst d4_append_33 ?_
      refine A.iadd d4_append_34 ?_
      refine A.putf d4_append_35 (fun h35 e35 f35 => ?_) (hc := x0) (hk := blt_ok rfl)
      first | (have x0 := (f35.2 _ (by omega)).trans x0) | (have x0 := e35)
      first | (have x1 := (f35.2 _ (by omega)).trans x1) | (have x1 := e35)
      have F35 := F27.then f35 (by omega) (by omega)
      refine A.iconst d4_append_38 ?_
      refine A.zret d4_append_39 ?_
      first | exact rT (k _ (by rw [pif_t (by omega)]; exact ⟨x0, x1⟩) F35) (by omega) | exact rF (k _ (by rw [pif_f (by omega)]; exact ⟨x0, x1⟩) Fr.rfl) (by omega)
    · refine A.iconst d4_append_16 ?_
      refine A.zret d4_append_17 ?_
      first | exact rT (k _ (by rw [pif_t (by omega)]; exact ⟨x0, x1⟩) None) (by omega) | exact rF (k _ (by rw [pif_f (by omega)]; exact ⟨x0, x1⟩) Fr.rfl) (by omega)
set_option maxRecDepth 100000 in
set_option maxHeartbeats 4000000 in
theorem s4_skipBlanks {d : Nat} {h : AH} {R : RP} {t s : Nat} {T : TX} {a n : Int} (hX : txAt h t T s a n) (hT : txI T) (ha : 0 ≤ a) (ha2 : a ≤ T.1) (k : ∀ h', txAt h' t T s (sk T a) n → Fr h h' t 1 → R none h') : AM m4_skipBlanks (d + 1) h [vR t] R := by
  refine AM.of (L := [some (vR t)]) ok_4_skipBlanks (by decide) (fun G => Nat.le_of_ble_eq_true rfl) rfl ?_
  obtain ⟨x0, x1⟩ := hX
  have loop : ∀ (nf : Nat) (i : Nat) (b : Int) (h1 : AH) (hi : b = a + i) (hb : b ≤ T.1) (x0 : h1.2 t = some (kO 4 [vI T.1, vR (t + 1), vR s, vI b, vI n])) (x1 : h1.2 (t + 1) = some (kA 1 100 T.2)) (hF : Fr h h1 t 1) (hs : sk T a = skN T (101 - i) b) (hn : 101 - i < nf), AW m4_skipBlanks (d + 1) (mC m4_skipBlanks, mS m4_skipBlanks) 0 [some (vR t)] [] h1 R := by
    intro nf
    induction nf with
    | zero => intro i  b  h1  hi hb x0 x1 hF hs hn; omega
    | succ nf ih =>
      intro i  b  h1  hi hb x0 x1 hF hs hn
      have hh := hv_tc hT b
      have hT2 := hT.2.1
      refine A.al1_0 d4_skipBlanks_0 ?_
      refine A.getf d4_skipBlanks_1 ?_ (hc := x0)
      refine A.al1_0 d4_skipBlanks_4 ?_
      refine A.getf d4_skipBlanks_5 ?_ (hc := x0)
      refine A.ic_ge d4_skipBlanks_8 (fun c8 => ?_) (fun c8 => ?_)
      · refine A.vret d4_skipBlanks_33 ?_
        have e : tc T b ≠ 32 := by omega
        rw [skN_stop e] at hs
        exact k _ (by rw [hs]; exact ⟨x0, x1⟩) hF
      · refine A.al1_0 d4_skipBlanks_11 ?_
        refine A.v0 d4_skipBlanks_12 (s4_here ⟨x0, x1⟩ hT (kS ?_)) (hc := x0)
        refine A.bipush d4_skipBlanks_15 ?_
        refine A.ic_ne d4_skipBlanks_17 (fun c17 => ?_) (fun c17 => ?_)
        · refine A.vret d4_skipBlanks_33 ?_
          have e : tc T b ≠ 32 := by omega
          rw [skN_stop e] at hs
          exact k _ (by rw [hs]; exact ⟨x0, x1⟩) hF
        · refine A.al1_0 d4_skipBlanks_20 ?_
          refine A.dup d4_skipBlanks_21 ?_
          refine A.getf d4_skipBlanks_22 ?_ (hc := x0)
          refine A.iconst d4_skipBlanks_25 ?_
          refine A.iadd d4_skipBlanks_26 ?_
          refine A.putf d4_skipBlanks_27 (fun h27 e27 f27 => ?_) (hc := x0) (hk := blt_ok rfl)
          first | (have x0 := (f27.2 _ (by omega)).trans x0) | (have x0 := e27)
          first | (have x1 := (f27.2 _ (by omega)).trans x1) | (have x1 := e27)
          have F27 := f27.wide (a := t) (n := 1) (by omega) (by omega)
          refine A.goto d4_skipBlanks_30 ?_
          have e : tc T b = 32 := by omega
          refine ih (i + 1) (b + 1) _ (by omega) (by omega) x0 x1 (hF.then F27 (by omega) (by omega)) ?_ (by omega)
          obtain ⟨j, hj⟩ : ∃ j, 101 - i = j + 1 := ⟨101 - i - 1, by omega⟩
          rw [hs, hj, show 101 - (i + 1) = j by omega]
          exact if_pos e
  exact loop 102 0 a h (by omega) ha2 x0 x1 Fr.rfl rfl (by omega)
