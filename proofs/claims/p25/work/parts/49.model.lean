/-! ===== the reference as a whole: text, reading, beginning ===== -/
def mAt (h : AH) (q : Nat) (S : SC) (P : PL) (T : TX) : Prop := ∃ (rd fi co ah se ps fa fl ch : Int) (hx : Int64) (B Rd Mo Sv Iv V F Re Ch Fm By Ie Ef Eb : Int → Int), h.2 q = some (mobj q S.1 rd fi co ah se T.1 ps fa fl ch hx) ∧ h.2 (q + 1) = some (kA 0 348 B) ∧ h.2 (q + 2) = some (kA 0 348 Rd) ∧ h.2 (q + 3) = some (kA 0 160 Mo) ∧ h.2 (q + 4) = some (kA 0 24 Sv) ∧ h.2 (q + 5) = some (kA 2 3 Iv) ∧ h.2 (q + 6) = some (kA 0 100 T.2) ∧ h.2 (q + 7) = some (kA 0 3 V) ∧ h.2 (q + 8) = some (kA 0 3 F) ∧ h.2 (q + 9) = some (kA 2 1984 Re) ∧ h.2 (q + 10) = some (kA 0 1984 Ch) ∧ h.2 (q + 11) = some (kA 0 1984 Fm) ∧ h.2 (q + 12) = some (kA 0 1984 By) ∧ h.2 (q + 13) = some (kA 2 13 Ie) ∧ h.2 (q + 14) = some (kA 0 13 Ef) ∧ h.2 (q + 15) = some (kA 0 13 Eb) ∧ rScr B S ∧ plR S P fi co ah se Mo Sv Iv ∧ txI T
noncomputable def tyT (T : TX) (l : Int) : TX := pif ((0 ≤ l ∧ l ≤ 127) ∧ T.1 < 100) (T.1 + 1, fset T.2 T.1 l) T
def tyR (T : TX) (l : Int) : Int := if 0 ≤ l ∧ l ≤ 127 then (if T.1 < 100 then T.1 + 1 else -14) else -12
theorem txI_ty {T : TX} {l : Int} (h : txI T) : txI (tyT T l) := by
  obtain ⟨h0, h1, h2⟩ := h
  by_cases c : (0 ≤ l ∧ l ≤ 127) ∧ T.1 < 100
  · rw [show tyT T l = _ from pif_t c]
    refine ⟨by show 0 ≤ T.1 + 1; omega, by show T.1 + 1 ≤ 100; omega, fun i i0 i1 => ?_⟩
    have i1 : i < T.1 + 1 := i1
    show 0 ≤ fset T.2 T.1 l i ∧ fset T.2 T.1 l i ≤ 127
    by_cases e : i = T.1
    · rw [fs_at e]; exact c.1
    · rw [fs_off e]; exact h2 i i0 (by omega)
  · rw [show tyT T l = _ from pif_f c]; exact ⟨h0, h1, h2⟩
theorem txI_0 {T : TX} : txI (0, T.2) := ⟨Int.le_refl 0, (by decide : (0 : Int) ≤ 100), fun i i0 i1 => by have : i < 0 := i1; omega⟩
