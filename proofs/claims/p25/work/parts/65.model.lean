/-! ===== the reference: its digest's steps ===== -/
/-- the reference as a whole, its hash seen -/
def mAtx (h : AH) (q : Nat) (S : SC) (P : PL) (T : TX) (hx : Int64) : Prop := ∃ (rd fi co ah se ps fa fl ch : Int) (B Rd Mo Sv Iv V F Re Ch Fm By Ie Ef Eb : Int → Int), h.2 q = some (mobj q S.1 rd fi co ah se T.1 ps fa fl ch hx) ∧ h.2 (q + 1) = some (kA 0 348 B) ∧ h.2 (q + 2) = some (kA 0 348 Rd) ∧ h.2 (q + 3) = some (kA 0 160 Mo) ∧ h.2 (q + 4) = some (kA 0 24 Sv) ∧ h.2 (q + 5) = some (kA 2 3 Iv) ∧ h.2 (q + 6) = some (kA 0 100 T.2) ∧ h.2 (q + 7) = some (kA 0 3 V) ∧ h.2 (q + 8) = some (kA 0 3 F) ∧ h.2 (q + 9) = some (kA 2 1984 Re) ∧ h.2 (q + 10) = some (kA 0 1984 Ch) ∧ h.2 (q + 11) = some (kA 0 1984 Fm) ∧ h.2 (q + 12) = some (kA 0 1984 By) ∧ h.2 (q + 13) = some (kA 2 13 Ie) ∧ h.2 (q + 14) = some (kA 0 13 Ef) ∧ h.2 (q + 15) = some (kA 0 13 Eb) ∧ rScr B S ∧ plR S P fi co ah se Mo Sv Iv ∧ txI T
theorem mAtx.to {h : AH} {q : Nat} {S : SC} {P : PL} {T : TX} {hx : Int64} (hM : mAtx h q S P T hx) : mAt h q S P T := by
  obtain ⟨rd, fi, co, ah, se, ps, fa, fl, ch, B, Rd, Mo, Sv, Iv, V, F, Re, Ch, Fm, By, Ie, Ef, Eb, w0, w1, w2, w3, w4, w5, w6, w7, w8, w9, w10, w11, w12, w13, w14, w15, hB, hP, hT⟩ := hM
  exact ⟨_, _, _, _, _, _, _, _, _, _, _, _, _, _, _, _, _, _, _, _, _, _, _, _, w0, w1, w2, w3, w4, w5, w6, w7, w8, w9, w10, w11, w12, w13, w14, w15, hB, hP, hT⟩
theorem mAt.to {h : AH} {q : Nat} {S : SC} {P : PL} {T : TX} (hM : mAt h q S P T) : ∃ hx, mAtx h q S P T hx := by
  obtain ⟨rd, fi, co, ah, se, ps, fa, fl, ch, hx, B, Rd, Mo, Sv, Iv, V, F, Re, Ch, Fm, By, Ie, Ef, Eb, w0, w1, w2, w3, w4, w5, w6, w7, w8, w9, w10, w11, w12, w13, w14, w15, hB, hP, hT⟩ := hM
  exact ⟨hx, ⟨_, _, _, _, _, _, _, _, _, _, _, _, _, _, _, _, _, _, _, _, _, _, _, w0, w1, w2, w3, w4, w5, w6, w7, w8, w9, w10, w11, w12, w13, w14, w15, hB, hP, hT⟩⟩
/-- one more number in the digest -/
def mx (h : Int64) (v : Int) : Int64 := 31 * h + (Int32.ofInt v).toInt64
def mxl (f : Int → Int) : Nat → Int64 → Int64
  | 0, h => h
  | n + 1, h => mx (mxl f n h) (f n)
theorem mxl_0 (f : Int → Int) (h : Int64) : mxl f 0 h = h := rfl
theorem mxl_s (f : Int → Int) (n : Nat) (h : Int64) : mxl f (n + 1) h = mx (mxl f n h) (f n) := rfl
noncomputable def dOps (S : SC) (v : Int) : Nat → Int64 → Int64
  | 0, h => h
  | n + 1, h => mx (mxl (opRR S v n) 3 (dOps S v n h)) (usRR S v n)
noncomputable def dNd (S : SC) (v : Int) (h : Int64) : Int64 := dOps S v (cOpts S v).toNat (mxl (noRR S v) 4 h)
noncomputable def dNds (S : SC) : Nat → Int64 → Int64
  | 0, h => h
  | n + 1, h => dNd S n (dNds S n h)
def dPo (m : MO) : Nat → Int64 → Int64
  | 0, h => h
  | n + 1, h => mx (mx (dPo m n h) (poRR m n 0)) (poRR m n 1)
def edI (i : Int) : Int := if i = 0 then -3 else if i = 1 then -2 else i - 2
noncomputable def stI (S : SC) (i : Int) : Int := stR (drawn S) (edI i)
noncomputable def dgTl (S : SC) (T : TX) (h : Int64) : Int64 := mxl T.2 T.1.toNat (mxl (stI S) 12 (mx (dNds S S.1.toNat h) (siRR S (-1))))
noncomputable def dgRR (S : SC) (P : PL) (T : TX) : Int64 := dgTl S T (dPo (nowM P) 3 (mxl (shRR S (nowM P)) 6 (mxl (coRR S P T) 7 163)))
theorem no_of {S : SC} {B : Int → Int} {v w : Int} (hB : rScr B S) (h0 : 0 ≤ v) (h1 : v < S.1) (w0 : 0 ≤ w) (w1 : w ≤ 3) : B (12 * v + w) = noRR S v w := by
  have g := hB.2 v h0 h1
  unfold noRR
  rw [if_pos ⟨⟨h0, h1⟩, w0, w1⟩]
  by_cases a : w = 0
  · rw [if_pos a, a, Int.add_zero]; exact g.kd
  · rw [if_neg a]
    rcases (by omega : w = 1 ∨ w = 2 ∨ w = 3) with z | z | z
    · subst z; exact g.n0
    · subst z; exact g.n1
    · subst z; exact g.n2
