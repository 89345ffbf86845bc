/-! ===== bits of packed numbers ===== -/
theorem nb {x : Int} (h0 : 0 ≤ x) (h1 : x ≤ 2147483647) : (Int32.ofInt x).toBitVec.toNat = x.toNat := by
  obtain ⟨n, rfl⟩ : ∃ n : Nat, x = (n : Nat) := ⟨x.toNat, by omega⟩
  show (BitVec.ofInt 32 (n : Int)).toNat = _
  rw [BitVec.ofInt_natCast, BitVec.toNat_ofNat]
  show n % 4294967296 = n
  omega
theorem tI {y : Int32} {n : Nat} (h : y.toBitVec.toNat = n) (hn : n ≤ 2147483647) : y.toInt = (n : Int) := by
  show y.toBitVec.toInt = _
  rw [BitVec.toInt_eq_toNat_of_lt (by rw [h]; show 2 * n < 4294967296; omega), h]
theorem bAnd_n {x y : Int} (x0 : 0 ≤ x) (x1 : x ≤ 2147483647) (y0 : 0 ≤ y) (y1 : y ≤ 2147483647) : bAnd x y = ((x.toNat &&& y.toNat : Nat) : Int) := by
  unfold bAnd
  refine tI ?_ ?_
  · rw [Int32.toBitVec_and, BitVec.toNat_and, nb x0 x1, nb y0 y1]
  · have := Nat.and_le_left (n := x.toNat) (m := y.toNat)
    omega
theorem bOr_n {x y : Int} (x0 : 0 ≤ x) (x1 : x ≤ 2147483647) (y0 : 0 ≤ y) (y1 : y ≤ 2147483647) : bOr x y = ((x.toNat ||| y.toNat : Nat) : Int) := by
  unfold bOr
  refine tI ?_ ?_
  · rw [Int32.toBitVec_or, BitVec.toNat_or, nb x0 x1, nb y0 y1]
  · have := Nat.or_lt_two_pow (x := x.toNat) (y := y.toNat) (n := 31) (by omega) (by omega)
    omega
theorem bShr_n {x : Int} {s : Nat} (x0 : 0 ≤ x) (x1 : x ≤ 2147483647) (hs : s ≤ 31) : bShr x (s : Int) = ((x.toNat >>> s : Nat) : Int) := by
  unfold bShr
  have e : (Int32.ofInt x >>> (Int32.ofInt (s : Int) &&& 31)).toBitVec = (Int32.ofInt x).toBitVec.sshiftRight s := by
    rw [Int32.toBitVec_shiftRight, BitVec.sshiftRight_eq', sh_amt' (by omega) (by omega)]
    rfl
  show (Int32.ofInt x >>> (Int32.ofInt (s : Int) &&& 31)).toBitVec.toInt = _
  rw [e, BitVec.toInt_sshiftRight, show (Int32.ofInt x).toBitVec.toInt = x from of_i32 (by omega)]
  obtain ⟨n, rfl⟩ : ∃ n : Nat, x = (n : Nat) := ⟨x.toNat, by omega⟩
  rfl
theorem bShl_n {x : Int} {s : Nat} (x0 : 0 ≤ x) (hs : s ≤ 31) (x1 : x.toNat * 2 ^ s ≤ 2147483647) : bShl x (s : Int) = ((x.toNat * 2 ^ s : Nat) : Int) := by
  unfold bShl
  have hx : x ≤ 2147483647 := by
    have := Nat.le_mul_of_pos_right x.toNat (Nat.two_pow_pos s)
    omega
  refine tI ?_ x1
  rw [Int32.toBitVec_shiftLeft, BitVec.shiftLeft_eq', sh_amt' (by omega) (by omega), BitVec.toNat_shiftLeft, nb x0 hx, Nat.shiftLeft_eq]
  show x.toNat * 2 ^ s % 4294967296 = _
  exact Nat.mod_eq_of_lt (by omega)
/-- a field of w bits at place s -/
theorem getSh {x : Int} {s w : Nat} {m : Int} (hm : m = 2 ^ w - 1) (x0 : 0 ≤ x) (x1 : x ≤ 2147483647) (hs : s ≤ 31) (hw : w ≤ 31) : bAnd (bShr x (s : Int)) m = ((x.toNat / 2 ^ s % 2 ^ w : Nat) : Int) := by
  have hp : 2 ^ w ≤ 2 ^ 31 := Nat.pow_le_pow_right (by decide) hw
  have h1 := Nat.two_pow_pos w
  have hmn : m.toNat = 2 ^ w - 1 := by
    rw [hm]
    have : ((2 : Int) ^ w - 1) = ((2 ^ w - 1 : Nat) : Int) := by
      rw [Int.ofNat_sub h1]; simp
    rw [this]; rfl
  have hm0 : 0 ≤ m := by
    rw [hm]
    have : ((2 : Int) ^ w) = ((2 ^ w : Nat) : Int) := by simp
    omega
  have hd : x.toNat >>> s ≤ x.toNat := by rw [Nat.shiftRight_eq_div_pow]; exact Nat.div_le_self _ _
  rw [bShr_n x0 x1 hs]
  generalize hy : x.toNat >>> s = y at hd ⊢
  rw [bAnd_n (by omega) (by omega) hm0 (by omega), hmn]
  show ((y &&& (2 ^ w - 1) : Nat) : Int) = _
  rw [Nat.and_two_pow_sub_one_eq_mod, ← hy, Nat.shiftRight_eq_div_pow]
theorem and_sh (x c s : Nat) : x &&& (c * 2 ^ s) = ((x / 2 ^ s) &&& c) * 2 ^ s := by
  rw [← Nat.shiftLeft_eq, ← Nat.shiftLeft_eq, ← Nat.shiftRight_eq_div_pow]
  apply Nat.eq_of_testBit_eq
  intro i
  rw [Nat.testBit_and, Nat.testBit_shiftLeft, Nat.testBit_shiftLeft, Nat.testBit_and, Nat.testBit_shiftRight]
  by_cases h : i ≥ s
  · rw [show s + (i - s) = i by omega]
    cases decide (i ≥ s) <;> cases x.testBit i <;> rfl
  · have : decide (i ≥ s) = false := by simpa using h
    rw [this]; simp
theorem and_0 {a c w : Nat} (hc : c < 2 ^ w) (ha : a % 2 ^ w = 0) : a &&& c = 0 := by
  have h1 : a &&& c < 2 ^ w := Nat.lt_of_le_of_lt Nat.and_le_right hc
  rw [← Nat.mod_eq_of_lt h1, Nat.and_mod_two_pow, ha, Nat.zero_and]
theorem or_add {x y : Nat} (hx : x ≤ 2147483647) (hy : y ≤ 2147483647) (h : x &&& y = 0) : x ||| y = x + y := by
  have e : BitVec.ofNat 32 x &&& BitVec.ofNat 32 y = 0#32 := by
    apply BitVec.eq_of_toNat_eq
    rw [BitVec.toNat_and, BitVec.toNat_ofNat, BitVec.toNat_ofNat, Nat.mod_eq_of_lt (by omega), Nat.mod_eq_of_lt (by omega), h]
    rfl
  have g := congrArg BitVec.toNat (BitVec.add_eq_or_of_and_eq_zero _ _ e)
  have hx' : x % 2 ^ 32 = x := Nat.mod_eq_of_lt (by omega)
  have hy' : y % 2 ^ 32 = y := Nat.mod_eq_of_lt (by omega)
  rw [BitVec.toNat_or, BitVec.toNat_add, BitVec.toNat_ofNat, BitVec.toNat_ofNat, hx', hy'] at g
  rw [← g]
  exact Nat.mod_eq_of_lt (by omega)
theorem orSh {y c : Int} {s w : Nat} (y0 : 0 ≤ y) (c0 : 0 ≤ c) (hc : c.toNat < 2 ^ w) (hy : y.toNat / 2 ^ s % 2 ^ w = 0) (hs : s ≤ 31) (hm : y.toNat + c.toNat * 2 ^ s ≤ 2147483647) : bOr y (bShl c (s : Int)) = y + ((c.toNat * 2 ^ s : Nat) : Int) := by
  rw [bShl_n c0 hs (by omega), bOr_n y0 (by omega) (by omega) (by omega)]
  show ((y.toNat ||| c.toNat * 2 ^ s : Nat) : Int) = _
  rw [or_add (by omega) (by omega) (by rw [and_sh, and_0 hc hy, Nat.zero_mul])]
  omega
theorem and_not {x y : Int} (x0 : 0 ≤ x) (x1 : x ≤ 2147483647) (y0 : 0 ≤ y) (y1 : y ≤ 2147483647) : bAnd x (bXor y (-1)) = x - ((x.toNat &&& y.toNat : Nat) : Int) := by
  unfold bAnd bXor
  rw [Int32.ofInt_toInt]
  generalize hX : (Int32.ofInt x).toBitVec = X
  generalize hY : (Int32.ofInt y).toBitVec = Y
  have nX : X.toNat = x.toNat := by rw [← hX]; exact nb x0 x1
  have nY : Y.toNat = y.toNat := by rw [← hY]; exact nb y0 y1
  have e0 : (Int32.ofInt x &&& (Int32.ofInt y ^^^ Int32.ofInt (-1))).toBitVec = X &&& ~~~Y := by
    rw [Int32.toBitVec_and, Int32.toBitVec_xor, hX, hY, show (Int32.ofInt (-1)).toBitVec = BitVec.allOnes 32 by decide, BitVec.xor_allOnes]
  have e1 : (X &&& Y) + (X &&& ~~~Y) = X := by
    rw [BitVec.add_eq_or_of_and_eq_zero]
    · apply BitVec.eq_of_getLsbD_eq
      intro i hi
      simp only [BitVec.getLsbD_or, BitVec.getLsbD_and, BitVec.getLsbD_not, hi, decide_true, Bool.true_and]
      cases X.getLsbD i <;> cases Y.getLsbD i <;> rfl
    · apply BitVec.eq_of_getLsbD_eq
      intro i hi
      simp only [BitVec.getLsbD_and, BitVec.getLsbD_not, hi, decide_true, Bool.true_and, BitVec.getLsbD_zero]
      cases X.getLsbD i <;> cases Y.getLsbD i <;> rfl
  have a0 : (X &&& Y).toNat = (x.toNat &&& y.toNat) := by rw [BitVec.toNat_and, nX, nY]
  have a1 : (X &&& ~~~Y).toNat ≤ x.toNat := by rw [BitVec.toNat_and, nX]; exact Nat.and_le_left
  have a2 : (x.toNat &&& y.toNat) ≤ x.toNat := Nat.and_le_left
  have g := congrArg BitVec.toNat e1
  rw [BitVec.toNat_add, a0, nX] at g
  have g2 : (x.toNat &&& y.toNat) + (X &&& ~~~Y).toNat = x.toNat := by
    have : ((x.toNat &&& y.toNat) + (X &&& ~~~Y).toNat) % 4294967296 = x.toNat := g
    omega
  rw [tI (n := x.toNat - (x.toNat &&& y.toNat)) (by rw [e0]; omega) (by omega)]
  omega
theorem clrSh {x : Int} {s w : Nat} {m : Int} (hm : m = 2 ^ w - 1) (x0 : 0 ≤ x) (x1 : x ≤ 2147483647) (hs : s ≤ 31) (hw : m.toNat * 2 ^ s ≤ 2147483647) : bAnd x (bXor (bShl m (s : Int)) (-1)) = x - ((x.toNat / 2 ^ s % 2 ^ w * 2 ^ s : Nat) : Int) := by
  have h1 := Nat.two_pow_pos w
  have hm' : m = ((2 ^ w - 1 : Nat) : Int) := by
    rw [hm, Int.ofNat_sub h1]; simp
  have hmn : m.toNat = 2 ^ w - 1 := by rw [hm']; rfl
  rw [bShl_n (by omega) hs hw, and_not x0 x1 (by omega) (by omega)]
  show x - ((x.toNat &&& (m.toNat * 2 ^ s) : Nat) : Int) = _
  rw [and_sh, hmn, Nat.and_two_pow_sub_one_eq_mod]
/-- the law's number out of the script's -/
theorem and_max (x : Int) : 0 ≤ bAnd x 2147483647 := by
  unfold bAnd
  have h : (Int32.ofInt x &&& Int32.ofInt 2147483647).toBitVec.toNat ≤ 2147483647 := by
    rw [Int32.toBitVec_and, BitVec.toNat_and, show (Int32.ofInt 2147483647).toBitVec.toNat = 2147483647 by decide]
    exact Nat.and_le_right
  rw [tI rfl h]
  omega
def lowF (x n : Int) : Int := bAnd x 2147483647 % n
theorem low_rng (x : Int) {n : Int} (h : 0 < n) : 0 ≤ lowF x n ∧ lowF x n < n := ⟨Int.emod_nonneg _ (by omega), Int.emod_lt_of_pos _ h⟩
