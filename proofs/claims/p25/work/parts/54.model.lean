/-! ===== the reference: reading; options; counts ===== -/
noncomputable def rdS (Sd : SC) (T : TX) : SC := addAll (0, Sd.2) (ffR T 29 0).2
theorem opx {S : SC} {v o w : Int} (h : cKind S v = 6) (h0 : 0 ≤ o) (h1 : 0 ≤ w) (h2 : w ≤ 2) (e : w = 0) : cPart S v o 0 = opRR S v o w := by
  subst e
  exact (if_pos ⟨h, h0, h1, h2⟩ : opRR S v o 0 = _).symm
noncomputable def rdSS (S Sd : SC) (T : TX) : SC := if (ffR T 29 0).1 = -11 then rdS Sd T else S
noncomputable def rdPP (P : PL) (Sd : SC) (T : TX) : PL := if (ffR T 29 0).1 = -11 then startP (rdS Sd T) P else P
noncomputable def rdRR (T : TX) : Int := if (ffR T 29 0).1 = -11 then ((ffR T 29 0).2.length : Nat) else -13
