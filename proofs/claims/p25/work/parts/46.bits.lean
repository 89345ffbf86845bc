/-! ===== bits of the seen set ===== -/
theorem sh_amt : ∀ v : Fin 32, ((Int32.ofInt (v.val : Int) &&& 31).toBitVec.smod 32).toNat = v.val := by decide +kernel
theorem sh_amt' {v : Int} (h0 : 0 ≤ v) (h1 : v ≤ 31) : ((Int32.ofInt v &&& 31).toBitVec.smod 32).toNat = v.toNat := by
  have := sh_amt ⟨v.toNat, by omega⟩
  rwa [show ((v.toNat : Nat) : Int) = v by omega] at this
theorem one_bits (y : BitVec 32) : y &&& 1#32 = if y.getLsbD 0 then 1#32 else 0#32 := by
  apply BitVec.eq_of_getLsbD_eq
  intro i hi
  rw [BitVec.getLsbD_and]
  by_cases e : i = 0
  · subst e
    cases h : y.getLsbD 0 <;> simp
  · have h1 : (1#32).getLsbD i = false := by
      rw [BitVec.getLsbD_one]; simp [e]
    rw [h1, Bool.and_false]
    split
    · rw [h1]
    · simp
def bitOf (x v : Int) : Bool := (Int32.ofInt x).toBitVec.getLsbD v.toNat
theorem bit_eq {x v : Int} (h0 : 0 ≤ v) (h1 : v ≤ 31) : bAnd (bShr x v) 1 = if bitOf x v then 1 else 0 := by
  unfold bAnd bShr bitOf
  rw [Int32.ofInt_toInt]
  have e : (Int32.ofInt x >>> (Int32.ofInt v &&& 31) &&& Int32.ofInt 1).toBitVec = if (Int32.ofInt x).toBitVec.getLsbD v.toNat then 1#32 else 0#32 := by
    rw [Int32.toBitVec_and]
    rw [show (Int32.ofInt 1).toBitVec = 1#32 by decide, one_bits]
    have : (Int32.ofInt x >>> (Int32.ofInt v &&& 31)).toBitVec.getLsbD 0 = (Int32.ofInt x).toBitVec.getLsbD v.toNat := by
      rw [Int32.toBitVec_shiftRight, BitVec.sshiftRight_eq', BitVec.getLsbD_sshiftRight, sh_amt' h0 h1]
      have : v.toNat + 0 < 32 := by omega
      simp [this]
      intro h; omega
    rw [this]
  show (Int32.ofInt x >>> (Int32.ofInt v &&& 31) &&& Int32.ofInt 1).toBitVec.toInt = _
  rw [e]
  split <;> rfl
theorem bit_or {x n v : Int} (h0 : 0 ≤ v) (h1 : v ≤ 31) (n0 : 0 ≤ n) (n1 : n ≤ 31) : bitOf (bOr x (bShl 1 n)) v = (bitOf x v || decide (v = n)) := by
  unfold bOr bShl bitOf
  rw [Int32.ofInt_toInt, Int32.ofInt_toInt, Int32.toBitVec_or, BitVec.getLsbD_or]
  congr 1
  rw [Int32.toBitVec_shiftLeft, BitVec.shiftLeft_eq', sh_amt' n0 n1, show (Int32.ofInt 1).toBitVec = 1#32 by decide, BitVec.getLsbD_shiftLeft]
  by_cases e : v = n
  · subst e
    have : v.toNat < 32 := by omega
    simp [this]
  · rw [BitVec.getLsbD_one]
    have : ¬ v.toNat = n.toNat := by omega
    by_cases c : v.toNat < n.toNat
    · simp [c, e]
    · have : ¬ (v.toNat - n.toNat = 0) := by omega
      simp [e, this]
theorem bit_or_eq {x n v : Int} (h0 : 0 ≤ v) (h1 : v ≤ 31) (n0 : 0 ≤ n) (n1 : n ≤ 31) : bAnd (bShr (bOr x (bShl 1 n)) v) 1 = if v = n then 1 else bAnd (bShr x v) 1 := by
  rw [bit_eq h0 h1, bit_eq h0 h1, bit_or h0 h1 n0 n1]
  by_cases e : v = n
  · rw [if_pos e]; simp [e]
  · rw [if_neg e]; simp [e]
theorem bit_zero {v : Int} (h0 : 0 ≤ v) (h1 : v ≤ 31) : bAnd (bShr 0 v) 1 = 0 := by
  rw [bit_eq h0 h1]; unfold bitOf
  rw [show (Int32.ofInt 0).toBitVec = 0#32 by decide]
  simp
theorem bit_rng {x v : Int} (h0 : 0 ≤ v) (h1 : v ≤ 31) : bAnd (bShr x v) 1 = 0 ∨ bAnd (bShr x v) 1 = 1 := by
  rw [bit_eq h0 h1]; split
  · exact Or.inr rfl
  · exact Or.inl rfl
