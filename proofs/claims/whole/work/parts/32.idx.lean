/-! ===== the letters: where a byte stands among them (the machine's part is closed in a part of its own) ===== -/
def kIdx (c : Int) : Int := if c = 115 then 0 else if c = 112 then 1 else if c = 104 then 2 else if c = 102 then 3 else if c = 106 then 4 else if c = 116 then 5 else if c = 99 then 6 else if c = 101 then 7 else -1
theorem kIdx_rng (c : Int) : -1 ≤ kIdx c ∧ kIdx c ≤ 7 := by
  unfold kIdx
  (repeat' split) <;> omega
theorem kIdx_lt {c : Int} (h : kIdx c ≠ -1) : 0 ≤ c := by
  unfold kIdx at h
  refine Classical.byContradiction fun z => h ?_
  rw [if_neg (by omega), if_neg (by omega), if_neg (by omega), if_neg (by omega), if_neg (by omega), if_neg (by omega), if_neg (by omega), if_neg (by omega)]
def Dsi (M : MT) (pc n : Nat) : Prop := decode (mB M) pc = .ok (.invokevirtual 52, 3) ∧ (mY M).cls = RX4 ∧ pc + 3 = n
theorem d4_takeNode_7 : Dsi m4_takeNode 7 10 := ⟨by decide +kernel, rfl, rfl⟩
theorem A.idx {M : MT} {fr : Nat} {kb : Nat × Nat} {pc n : Nat} {L : List (Option AV)} {S : List AV} {h : AH} {Rp : RP} {c : Int} (hd : Dsi M pc n) (hc : 0 ≤ c ∧ c ≤ 127) (hf : 4 ≤ fr) (hS4 : S.length ≤ 3) (k : AW M fr kb n L (vI (kIdx c) :: S) h Rp) : AW M fr kb pc L (vI c :: vS :: S) h Rp := by
  sorry
