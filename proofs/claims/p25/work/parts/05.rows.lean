/-! ===== the abstract machine's rows: stack, locals, numbers, branches ===== -/
def Dc (M : MT) (pc : Nat) (i : Instr) (len n : Nat) : Prop := decode (mB M) pc = .ok (i, len) ∧ pc + len = n
theorem of_i32 {z : Int} (h : -2147483648 ≤ z ∧ z ≤ 2147483647) : (Int32.ofInt z).toInt = z := Int32.toInt_ofInt_of_le (by omega) (by omega)
theorem i32_eq {a b : Int} (ha : -2147483648 ≤ a ∧ a ≤ 2147483647) (hb : -2147483648 ≤ b ∧ b ≤ 2147483647) : Int32.ofInt a = Int32.ofInt b ↔ a = b := by
  rw [← Int32.toInt_inj, of_i32 ha, of_i32 hb]
theorem i32_lt {a b : Int} (ha : -2147483648 ≤ a ∧ a ≤ 2147483647) (hb : -2147483648 ≤ b ∧ b ≤ 2147483647) : Int32.ofInt a < Int32.ofInt b ↔ a < b := by
  rw [Int32.lt_iff_toInt_lt, of_i32 ha, of_i32 hb]
theorem i32_le {a b : Int} (ha : -2147483648 ≤ a ∧ a ≤ 2147483647) (hb : -2147483648 ≤ b ∧ b ≤ 2147483647) : Int32.ofInt a ≤ Int32.ofInt b ↔ a ≤ b := by
  rw [Int32.le_iff_toInt_le, of_i32 ha, of_i32 hb]
theorem i32_0 : (0 : Int32) = Int32.ofInt 0 := rfl
theorem i32_cl {z : Int} (h : -2147483648 ≤ z ∧ z ≤ 2147483647) : (Int32.ofInt z).toNatClampNeg = z.toNat := by
  show (Int32.ofInt z).toInt.toNat = z.toNat
  rw [of_i32 h]
theorem i32_in {z : Int} {N : Nat} (h0 : 0 ≤ z) (h1 : z < N) (hN : N ≤ 2147483647) : vp_in (Int32.ofInt z) N := by
  have hz : -2147483648 ≤ z ∧ z ≤ 2147483647 := by omega
  intro q
  rcases q with q | q
  · rw [i32_0, i32_lt hz (by omega)] at q
    omega
  · rw [i32_cl hz] at q
    omega
section ROWS
variable {M : MT} {fr : Nat} {kb : Nat × Nat} {pc n : Nat} {L : List (Option AV)} {S S' : List AV} {h : AH} {Rp : RP}
theorem AW.go {L' : List (Option AV)} (hv : (∀ v ∈ S, vok v) → (∀ (i : Nat) (v : AV), L[i]? = some (some v) → vok v) → ∀ v ∈ S', vok v)
    (st : ∀ (p : Program) (l : Launch) (e : Env) (R : Room) (s : State) (m : MethodId) (args : Array Value) (below : List Frame) (meth : Method) (c : Code) (Q : State → Prop) (G : GD) (H : Heap) (locs : List Loc) (cells slots : Nat) (ls : Array Slot), p.tables.exec = Jvm.exec → c.code = mB M → s.vm.findClass (mY M).cls = some m.cls → (∀ w ∈ tG, w.before args s = true) → GK G s → (∀ v ∈ S, vok v) → LR G L ls (mL M) →
      (∀ ls' : Array Slot, LR G L' ls' (mL M) → W p l e R s m args below meth c H locs cells slots Q (F0 m n ls' (S'.map (cv G)))) → W p l e R s m args below meth c H locs cells slots Q (F0 m pc ls (S.map (cv G))))
    (k : AW M fr kb n L' S' h Rp) : AW M fr kb pc L S h Rp := by
  intro p l e R s m args below meth c Q G X H locs cells slots ls hH hS hL hV hc hs
  refine st p l e R s m args below meth c Q G H locs cells slots ls X.1.1 X.1.2.1 X.1.2.2.2.1 X.1.2.2.2.2 X.2.1.1 hV hL fun ls' hL' => ?_
  exact k p l e R s m args below meth c Q G X H locs cells slots ls' hH hS hL' (hv hV hL.2.2) hc hs
theorem vok_c {v : AV} {S : List AV} (h : vok v) (hS : ∀ w ∈ S, vok w) : ∀ w ∈ v :: S, vok w := fun w hw => by
  rcases List.mem_cons.mp hw with rfl | hw
  · exact h
  · exact hS w hw
theorem vok_ci {z : Int} {S : List AV} (h : -2147483648 ≤ z ∧ z ≤ 2147483647) (hS : ∀ w ∈ S, vok w) : ∀ w ∈ vI z :: S, vok w := vok_c h hS
theorem vok_cl {x : Int64} {S : List AV} (hS : ∀ w ∈ S, vok w) : ∀ w ∈ vL x :: S, vok w := vok_c trivial hS
theorem vok_t {v : AV} {S : List AV} (hS : ∀ w ∈ v :: S, vok w) : ∀ w ∈ S, vok w := fun w hw => hS w (List.mem_cons_of_mem _ hw)
theorem vok_h {v : AV} {S : List AV} (hS : ∀ w ∈ v :: S, vok w) : vok v := hS v List.mem_cons_self
theorem A.iconst {z : Int} (hd : Dc M pc (.iconst z) 1 n) (k : AW M fr kb n L (vI z :: S) h Rp) (hz : -2147483648 ≤ z ∧ z ≤ 2147483647 := by decide) : AW M fr kb pc L S h Rp :=
  AW.go (fun hV _ => vok_ci hz hV) (fun p l e R s m args below meth c Q G H locs cells slots ls hx hb _ _ _ _ hL kk => by
    obtain ⟨hd, rfl⟩ := hd
    exact lv_iconst hx hb hd rfl (kk ls hL)) k
theorem A.bipush {z : Int} (hd : Dc M pc (.bipush z) 2 n) (k : AW M fr kb n L (vI z :: S) h Rp) (hz : -2147483648 ≤ z ∧ z ≤ 2147483647 := by decide) (hv : (Int8.ofInt z).toInt32 = Int32.ofInt z := by decide) : AW M fr kb pc L S h Rp :=
  AW.go (fun hV _ => vok_ci hz hV) (fun p l e R s m args below meth c Q G H locs cells slots ls hx hb _ _ _ _ hL kk => by
    obtain ⟨hd, rfl⟩ := hd
    exact lv_bipush hx hb hd hv (kk ls hL)) k
theorem A.sipush {z : Int} (hd : Dc M pc (.sipush z) 3 n) (k : AW M fr kb n L (vI z :: S) h Rp) (hz : -2147483648 ≤ z ∧ z ≤ 2147483647 := by decide) (hv : (Int16.ofInt z).toInt32 = Int32.ofInt z := by decide) : AW M fr kb pc L S h Rp :=
  AW.go (fun hV _ => vok_ci hz hV) (fun p l e R s m args below meth c Q G H locs cells slots ls hx hb _ _ _ _ hL kk => by
    obtain ⟨hd, rfl⟩ := hd
    exact lv_sipush hx hb hd hv (kk ls hL)) k
/-! loads and stores: in either form -/
def Dil (M : MT) (pc i n : Nat) : Prop := (∃ k : Fin 4, decode (mB M) pc = .ok (.iload_n k, 1) ∧ (k : Nat) = i ∧ pc + 1 = n) ∨ (decode (mB M) pc = .ok (.iload i, 2) ∧ pc + 2 = n)
def Dal (M : MT) (pc i n : Nat) : Prop := (∃ k : Fin 4, decode (mB M) pc = .ok (.aload_n k, 1) ∧ (k : Nat) = i ∧ pc + 1 = n) ∨ (decode (mB M) pc = .ok (.aload i, 2) ∧ pc + 2 = n)
def Dll (M : MT) (pc i n : Nat) : Prop := (∃ k : Fin 4, decode (mB M) pc = .ok (.lload_n k, 1) ∧ (k : Nat) = i ∧ pc + 1 = n) ∨ (decode (mB M) pc = .ok (.lload i, 2) ∧ pc + 2 = n)
def Dis (M : MT) (pc i n : Nat) : Prop := (∃ k : Fin 4, decode (mB M) pc = .ok (.istore_n k, 1) ∧ (k : Nat) = i ∧ pc + 1 = n) ∨ (decode (mB M) pc = .ok (.istore i, 2) ∧ pc + 2 = n)
def Das (M : MT) (pc i n : Nat) : Prop := (∃ k : Fin 4, decode (mB M) pc = .ok (.astore_n k, 1) ∧ (k : Nat) = i ∧ pc + 1 = n) ∨ (decode (mB M) pc = .ok (.astore i, 2) ∧ pc + 2 = n)
def Dls (M : MT) (pc i n : Nat) : Prop := (∃ k : Fin 4, decode (mB M) pc = .ok (.lstore_n k, 1) ∧ (k : Nat) = i ∧ pc + 1 = n) ∨ (decode (mB M) pc = .ok (.lstore i, 2) ∧ pc + 2 = n)
theorem A.iload {i : Nat} {z : Int} (hd : Dil M pc i n) (hl : L[i]? = some (some (vI z))) (k : AW M fr kb n L (vI z :: S) h Rp) : AW M fr kb pc L S h Rp :=
  AW.go (fun hV hv => vok_c (hv i _ hl) hV) (fun p l e R s m args below meth c Q G H locs cells slots ls hx hb _ _ _ _ hL kk => by
    rcases hd with ⟨q, hd, hq, rfl⟩ | ⟨hd, rfl⟩
    · exact lv_iload_n hx hb hd hq (hL.get hl).1 (kk ls hL)
    · exact lv_iload hx hb hd (hL.get hl).1 (kk ls hL)) k
theorem A.aload {i a : Nat} (hd : Dal M pc i n) (hl : L[i]? = some (some (vR a))) (k : AW M fr kb n L (vR a :: S) h Rp) : AW M fr kb pc L S h Rp :=
  AW.go (fun hV hv => vok_c (hv i _ hl) hV) (fun p l e R s m args below meth c Q G H locs cells slots ls hx hb _ _ _ _ hL kk => by
    rcases hd with ⟨q, hd, hq, rfl⟩ | ⟨hd, rfl⟩
    · exact lv_aload_n hx hb hd hq (hL.get hl).1 (kk ls hL)
    · exact lv_aload hx hb hd (hL.get hl).1 (kk ls hL)) k
theorem A.aloadX {i : Nat} {b : Bool} (hd : Dal M pc i n) (hl : L[i]? = some (some (.inr (.inr (.inr b))))) (k : AW M fr kb n L ((.inr (.inr (.inr b))) :: S) h Rp) : AW M fr kb pc L S h Rp :=
  AW.go (fun hV hv => vok_c (hv i _ hl) hV) (fun p l e R s m args below meth c Q G H locs cells slots ls hx hb _ _ _ _ hL kk => by
    rcases hd with ⟨q, hd, hq, rfl⟩ | ⟨hd, rfl⟩
    · exact lv_aload_n hx hb hd hq (hL.get hl).1 (kk ls hL)
    · exact lv_aload hx hb hd (hL.get hl).1 (kk ls hL)) k
theorem A.lload {i : Nat} {x : Int64} (hd : Dll M pc i n) (hl : L[i]? = some (some (vL x))) (k : AW M fr kb n L (vL x :: S) h Rp) : AW M fr kb pc L S h Rp :=
  AW.go (fun hV hv => vok_c (hv i _ hl) hV) (fun p l e R s m args below meth c Q G H locs cells slots ls hx hb _ _ _ _ hL kk => by
    rcases hd with ⟨q, hd, hq, rfl⟩ | ⟨hd, rfl⟩
    · exact lv_lload_n hx hb hd hq (hL.get hl).1 (kk ls hL)
    · exact lv_lload hx hb hd (hL.get hl).1 (kk ls hL)) k
theorem A.istore {i : Nat} {z : Int} {L' : List (Option AV)} (hd : Dis M pc i n) (hi : i < L.length) (hl : lset L i (vI z) = L') (k : AW M fr kb n L' S h Rp) : AW M fr kb pc L (vI z :: S) h Rp := by
  subst hl
  exact AW.go (fun hV _ => vok_t hV) (fun p l e R s m args below meth c Q G H locs cells slots ls hx hb _ _ _ hV hL kk => by
    have hi' : i < mL M := by rw [← hL.2.1]; exact hi
    rcases hd with ⟨q, hd, hq, rfl⟩ | ⟨hd, rfl⟩
    · exact lv_istore_n hx hb hd hq hL.1 hi' rfl (fun ls' h' => kk ls' (hL.set (v := vI z) (vok_h hV) h'))
    · exact lv_istore hx hb hd hL.1 hi' rfl (fun ls' h' => kk ls' (hL.set (v := vI z) (vok_h hV) h'))) k
theorem A.astore {i a : Nat} {L' : List (Option AV)} (hd : Das M pc i n) (hi : i < L.length) (hl : lset L i (vR a) = L') (k : AW M fr kb n L' S h Rp) : AW M fr kb pc L (vR a :: S) h Rp := by
  subst hl
  exact AW.go (fun hV _ => vok_t hV) (fun p l e R s m args below meth c Q G H locs cells slots ls hx hb _ _ _ hV hL kk => by
    have hi' : i < mL M := by rw [← hL.2.1]; exact hi
    rcases hd with ⟨q, hd, hq, rfl⟩ | ⟨hd, rfl⟩
    · exact lv_astore_n hx hb hd hq hL.1 hi' rfl (fun ls' h' => kk ls' (hL.set (v := vR a) (vok_h hV) h'))
    · exact lv_astore hx hb hd hL.1 hi' rfl (fun ls' h' => kk ls' (hL.set (v := vR a) (vok_h hV) h'))) k
theorem A.iinc {i : Nat} {z d : Int} {L' : List (Option AV)} (hd : Dc M pc (.iinc i d) 3 n) (hg : L[i]? = some (some (vI z))) (hl : lset L i (vI (z + d)) = L') (hr : -2147483648 ≤ z + d ∧ z + d ≤ 2147483647) (k : AW M fr kb n L' S h Rp) : AW M fr kb pc L S h Rp := by
  subst hl
  exact AW.go (fun hV _ => hV) (fun p l e R s m args below meth c Q G H locs cells slots ls hx hb _ _ _ hV hL kk => by
    obtain ⟨hd, rfl⟩ := hd
    have hi' : i < mL M := by rw [← hL.2.1]; exact (List.getElem?_eq_some_iff.mp hg).1
    have hm : (i, cv G (vI z)) ∈ aLs G 0 L := (aLs_in L 0 i _).mpr ⟨vI z, Nat.zero_le _, by simpa using hg, rfl⟩
    obtain ⟨q, hq⟩ := List.getElem?_of_mem hm
    exact lv_iinc hx hb hd hL.1 hq (Int32.ofInt_add z d).symm hi' rfl (fun ls' h' => kk ls' (hL.set (v := vI (z + d)) hr h'))) k
/-! numbers -/
theorem A.iadd {x y : Int} (hd : Dc M pc .iadd 1 n) (k : AW M fr kb n L (vI (x + y) :: S) h Rp) (hr : -2147483648 ≤ x + y ∧ x + y ≤ 2147483647 := by omega) : AW M fr kb pc L (vI y :: vI x :: S) h Rp :=
  AW.go (fun hV _ => vok_ci hr (vok_t (vok_t hV))) (fun p l e R s m args below meth c Q G H locs cells slots ls hx hb _ _ _ _ hL kk => by
    obtain ⟨hd, rfl⟩ := hd
    have h1 := kk ls hL
    simp only [List.map_cons, cv, Int32.ofInt_add] at h1
    exact lv_iadd hx hb hd h1) k
theorem A.isub {x y : Int} (hd : Dc M pc .isub 1 n) (k : AW M fr kb n L (vI (x - y) :: S) h Rp) (hr : -2147483648 ≤ x - y ∧ x - y ≤ 2147483647 := by omega) : AW M fr kb pc L (vI y :: vI x :: S) h Rp :=
  AW.go (fun hV _ => vok_ci hr (vok_t (vok_t hV))) (fun p l e R s m args below meth c Q G H locs cells slots ls hx hb _ _ _ _ hL kk => by
    obtain ⟨hd, rfl⟩ := hd
    have h1 := kk ls hL
    simp only [List.map_cons, cv, Int32.ofInt_sub] at h1
    exact lv_isub hx hb hd h1) k
theorem A.imul {x y : Int} (hd : Dc M pc .imul 1 n) (k : AW M fr kb n L (vI (x * y) :: S) h Rp) (hr : -2147483648 ≤ x * y ∧ x * y ≤ 2147483647 := by omega) : AW M fr kb pc L (vI y :: vI x :: S) h Rp :=
  AW.go (fun hV _ => vok_ci hr (vok_t (vok_t hV))) (fun p l e R s m args below meth c Q G H locs cells slots ls hx hb _ _ _ _ hL kk => by
    obtain ⟨hd, rfl⟩ := hd
    have h1 := kk ls hL
    simp only [List.map_cons, cv, Int32.ofInt_mul] at h1
    exact lv_imul hx hb hd h1) k
/-- an int of the machine, read back -/
theorem i32_back (w : Int32) : Int32.ofInt w.toInt = w := Int32.ofInt_toInt w
theorem i32_rng (w : Int32) : -2147483648 ≤ w.toInt ∧ w.toInt ≤ 2147483647 := by
  have h1 := Int32.le_toInt w
  have h2 := Int32.toInt_lt w
  omega
def bAnd (x y : Int) : Int := (Int32.ofInt x &&& Int32.ofInt y).toInt
def bOr (x y : Int) : Int := (Int32.ofInt x ||| Int32.ofInt y).toInt
def bXor (x y : Int) : Int := (Int32.ofInt x ^^^ Int32.ofInt y).toInt
def bShl (x y : Int) : Int := (Int32.ofInt x <<< (Int32.ofInt y &&& 31)).toInt
def bShr (x y : Int) : Int := (Int32.ofInt x >>> (Int32.ofInt y &&& 31)).toInt
theorem A.iand {x y : Int} (hd : Dc M pc .iand 1 n) (k : AW M fr kb n L (vI (bAnd x y) :: S) h Rp) : AW M fr kb pc L (vI y :: vI x :: S) h Rp :=
  AW.go (fun hV _ => vok_ci (i32_rng _) (vok_t (vok_t hV))) (fun p l e R s m args below meth c Q G H locs cells slots ls hx hb _ _ _ _ hL kk => by
    obtain ⟨hd, rfl⟩ := hd
    have h1 := kk ls hL
    simp only [List.map_cons, cv, bAnd, i32_back] at h1
    exact lv_iand hx hb hd h1) k
theorem A.ior {x y : Int} (hd : Dc M pc .ior 1 n) (k : AW M fr kb n L (vI (bOr x y) :: S) h Rp) : AW M fr kb pc L (vI y :: vI x :: S) h Rp :=
  AW.go (fun hV _ => vok_ci (i32_rng _) (vok_t (vok_t hV))) (fun p l e R s m args below meth c Q G H locs cells slots ls hx hb _ _ _ _ hL kk => by
    obtain ⟨hd, rfl⟩ := hd
    have h1 := kk ls hL
    simp only [List.map_cons, cv, bOr, i32_back] at h1
    exact lv_ior hx hb hd h1) k
theorem A.ixor {x y : Int} (hd : Dc M pc .ixor 1 n) (k : AW M fr kb n L (vI (bXor x y) :: S) h Rp) : AW M fr kb pc L (vI y :: vI x :: S) h Rp :=
  AW.go (fun hV _ => vok_ci (i32_rng _) (vok_t (vok_t hV))) (fun p l e R s m args below meth c Q G H locs cells slots ls hx hb _ _ _ _ hL kk => by
    obtain ⟨hd, rfl⟩ := hd
    have h1 := kk ls hL
    simp only [List.map_cons, cv, bXor, i32_back] at h1
    exact lv_ixor hx hb hd h1) k
theorem A.ishl {x y : Int} (hd : Dc M pc .ishl 1 n) (k : AW M fr kb n L (vI (bShl x y) :: S) h Rp) : AW M fr kb pc L (vI y :: vI x :: S) h Rp :=
  AW.go (fun hV _ => vok_ci (i32_rng _) (vok_t (vok_t hV))) (fun p l e R s m args below meth c Q G H locs cells slots ls hx hb _ _ _ _ hL kk => by
    obtain ⟨hd, rfl⟩ := hd
    have h1 := kk ls hL
    simp only [List.map_cons, cv, bShl, i32_back] at h1
    exact lv_ishl hx hb hd h1) k
theorem A.ishr {x y : Int} (hd : Dc M pc .ishr 1 n) (k : AW M fr kb n L (vI (bShr x y) :: S) h Rp) : AW M fr kb pc L (vI y :: vI x :: S) h Rp :=
  AW.go (fun hV _ => vok_ci (i32_rng _) (vok_t (vok_t hV))) (fun p l e R s m args below meth c Q G H locs cells slots ls hx hb _ _ _ _ hL kk => by
    obtain ⟨hd, rfl⟩ := hd
    have h1 := kk ls hL
    simp only [List.map_cons, cv, bShr, i32_back] at h1
    exact lv_ishr hx hb hd h1) k
/-- division and rest, of what isn't negative by what is positive -/
theorem i32_div {x y : Int} (hx : 0 ≤ x) (hx2 : x ≤ 2147483647) (hy : 0 < y) (hy2 : y ≤ 2147483647) : Int32.ofInt x / Int32.ofInt y = Int32.ofInt (x / y) := by
  have h0 : 0 ≤ x / y := Int.ediv_nonneg hx (by omega)
  have h1 : x / y ≤ x := Int.ediv_le_self y hx
  rw [← Int32.toInt_inj, Int32.toInt_div, of_i32 (by omega), of_i32 (by omega), of_i32 (by omega), Int.tdiv_eq_ediv_of_nonneg hx]
  exact Int.bmod_eq_of_le (by omega) (by omega)
theorem A.idiv {x y : Int} (hd : Dc M pc .idiv 1 n) (k : AW M fr kb n L (vI (x / y) :: S) h Rp) (h0 : 0 ≤ x := by omega) (h1 : 0 < y := by omega) : AW M fr kb pc L (vI y :: vI x :: S) h Rp :=
  AW.go (fun hV _ => vok_ci (by
      have h2 := vok_h (vok_t hV)
      have h3 : 0 ≤ x / y := Int.ediv_nonneg h0 (by omega)
      have h4 : x / y ≤ x := Int.ediv_le_self y h0
      exact ⟨by omega, Int.le_trans h4 h2.2⟩) (vok_t (vok_t hV))) (fun p l e R s m args below meth c Q G H locs cells slots ls hx hb _ _ _ hV hL kk => by
    obtain ⟨hd, rfl⟩ := hd
    have h2 := vok_h (vok_t hV)
    have h3 := vok_h hV
    have h4 := kk ls hL
    simp only [List.map_cons, cv] at h4
    rw [← i32_div h0 h2.2 h1 h3.2] at h4
    exact lv_idiv hx hb hd (by rw [i32_0, i32_eq h3 (by omega)]; omega) h4) k
theorem A.irem {x y : Int} (hd : Dc M pc .irem 1 n) (k : AW M fr kb n L (vI (x % y) :: S) h Rp) (h0 : 0 ≤ x := by omega) (h1 : 0 < y := by omega) : AW M fr kb pc L (vI y :: vI x :: S) h Rp :=
  AW.go (fun hV _ => vok_ci (by
      have h2 := vok_h hV
      have h3 : 0 ≤ x % y := Int.emod_nonneg x (by omega)
      have h4 : x % y < y := Int.emod_lt_of_pos x h1
      exact ⟨by omega, Int.le_trans (Int.le_of_lt h4) h2.2⟩) (vok_t (vok_t hV))) (fun p l e R s m args below meth c Q G H locs cells slots ls hx hb _ _ _ hV hL kk => by
    obtain ⟨hd, rfl⟩ := hd
    have h2 := vok_h (vok_t hV)
    have h3 := vok_h hV
    have h4 := kk ls hL
    simp only [List.map_cons, cv] at h4
    have e : Int32.ofInt (x % y) = Int32.ofInt x - Int32.ofInt x / Int32.ofInt y * Int32.ofInt y := by
      rw [i32_div h0 h2.2 h1 h3.2, ← Int32.ofInt_mul, ← Int32.ofInt_sub]
      congr 1
      rw [Int.emod_def, Int.mul_comm]
    rw [e] at h4
    exact lv_irem hx hb hd (by rw [i32_0, i32_eq h3 (by omega)]; omega) h4) k
theorem A.i2b {x : Int} (hd : Dc M pc .i2b 1 n) (k : AW M fr kb n L (vI x :: S) h Rp) (h0 : -128 ≤ x ∧ x ≤ 127 := by omega) : AW M fr kb pc L (vI x :: S) h Rp :=
  AW.go (fun hV _ => hV) (fun p l e R s m args below meth c Q G H locs cells slots ls hx hb _ _ _ _ hL kk => by
    obtain ⟨hd, rfl⟩ := hd
    refine lv_i2b hx hb hd ?_ (kk ls hL)
    rw [← Int32.toInt_inj]
    rw [Int8.toInt_toInt32, Int32.toInt_toInt8, of_i32 (by omega)]
    exact Int.bmod_eq_of_le (by omega) (by omega)) k
theorem A.i2c {x : Int} (hd : Dc M pc .i2c 1 n) (k : AW M fr kb n L (vI x :: S) h Rp) (h0 : 0 ≤ x ∧ x ≤ 65535 := by omega) : AW M fr kb pc L (vI x :: S) h Rp :=
  AW.go (fun hV _ => hV) (fun p l e R s m args below meth c Q G H locs cells slots ls hx hb _ _ _ _ hL kk => by
    obtain ⟨hd, rfl⟩ := hd
    refine lv_i2c hx hb hd ?_ (kk ls hL)
    obtain ⟨w, rfl⟩ : ∃ w : Nat, x = (w : Int) := ⟨x.toNat, by omega⟩
    have e : Int32.ofInt (w : Int) = nI w := Int32.ofInt_eq_ofNat
    rw [e, pk_char, pk_tn (by omega), Nat.mod_eq_of_lt (by omega)]) k
theorem A.i2l {x : Int} (hd : Dc M pc .i2l 1 n) (k : AW M fr kb n L (vL (Int32.ofInt x).toInt64 :: S) h Rp) : AW M fr kb pc L (vI x :: S) h Rp :=
  AW.go (fun hV _ => vok_cl (vok_t hV)) (fun p l e R s m args below meth c Q G H locs cells slots ls hx hb _ _ _ _ hL kk => by
    obtain ⟨hd, rfl⟩ := hd
    exact lv_i2l hx hb hd rfl (kk ls hL)) k
theorem A.ladd {x y : Int64} (hd : Dc M pc .ladd 1 n) (k : AW M fr kb n L (vL (x + y) :: S) h Rp) : AW M fr kb pc L (vL y :: vL x :: S) h Rp :=
  AW.go (fun hV _ => vok_cl (vok_t (vok_t hV))) (fun p l e R s m args below meth c Q G H locs cells slots ls hx hb _ _ _ _ hL kk => by
    obtain ⟨hd, rfl⟩ := hd
    exact lv_ladd hx hb hd (kk ls hL)) k
theorem A.lmul {x y : Int64} (hd : Dc M pc .lmul 1 n) (k : AW M fr kb n L (vL (x * y) :: S) h Rp) : AW M fr kb pc L (vL y :: vL x :: S) h Rp :=
  AW.go (fun hV _ => vok_cl (vok_t (vok_t hV))) (fun p l e R s m args below meth c Q G H locs cells slots ls hx hb _ _ _ _ hL kk => by
    obtain ⟨hd, rfl⟩ := hd
    exact lv_lmul hx hb hd (kk ls hL)) k
theorem A.dup {v : AV} (hd : Dc M pc .dup 1 n) (k : AW M fr kb n L (v :: v :: S) h Rp) (hv : isL v = false := by rfl) : AW M fr kb pc L (v :: S) h Rp :=
  AW.go (fun hV _ => vok_c (vok_h hV) hV) (fun p l e R s m args below meth c Q G H locs cells slots ls hx hb _ _ _ _ hL kk => by
    obtain ⟨hd, rfl⟩ := hd
    have hc : (cv G v).category = 1 := by
      rcases lv_cat (cv G v) with q | q
      · exact q
      · rw [(isL_cat G v).mp q] at hv; cases hv
    exact lv_dup hx hb hd hc (kk ls hL)) k
theorem A.dup2 {v w : AV} (hd : Dc M pc .dup2 1 n) (k : AW M fr kb n L (v :: w :: v :: w :: S) h Rp) (hv : isL v = false := by rfl) (hw : isL w = false := by rfl) : AW M fr kb pc L (v :: w :: S) h Rp :=
  AW.go (fun hV _ => vok_c (vok_h hV) (vok_c (vok_h (vok_t hV)) hV)) (fun p l e R s m args below meth c Q G H locs cells slots ls hx hb _ _ _ _ hL kk => by
    obtain ⟨hd, rfl⟩ := hd
    have hc : ∀ v : AV, isL v = false → (cv G v).category = 1 := fun v hv => by
      rcases lv_cat (cv G v) with q | q
      · exact q
      · rw [(isL_cat G v).mp q] at hv; cases hv
    exact lv_dup2_11 hx hb hd (hc v hv) (hc w hw) (kk ls hL)) k
theorem A.pop {v : AV} (hd : Dc M pc .pop 1 n) (k : AW M fr kb n L S h Rp) (hv : isL v = false := by rfl) : AW M fr kb pc L (v :: S) h Rp :=
  AW.go (fun hV _ => vok_t hV) (fun p l e R s m args below meth c Q G H locs cells slots ls hx hb _ _ _ _ hL kk => by
    obtain ⟨hd, rfl⟩ := hd
    have hc : (cv G v).category = 1 := by
      rcases lv_cat (cv G v) with q | q
      · exact q
      · rw [(isL_cat G v).mp q] at hv; cases hv
    exact lv_pop hx hb hd hc (kk ls hL)) k
/-! jumps and branches -/
def Dgo (M : MT) (pc t : Nat) : Prop := ∃ off : Int, decode (mB M) pc = .ok (.goto off, 3) ∧ (pc : Int) + off = (t : Int)
def Dif (M : MT) (pc : Nat) (cd : ClassFile.Cond) (t n : Nat) : Prop := ∃ off : Int, decode (mB M) pc = .ok (.ifCond cd off, 3) ∧ (pc : Int) + off = (t : Int) ∧ pc + 3 = n
def Dic (M : MT) (pc : Nat) (cd : ClassFile.Cond) (t n : Nat) : Prop := ∃ off : Int, decode (mB M) pc = .ok (.if_icmp cd off, 3) ∧ (pc : Int) + off = (t : Int) ∧ pc + 3 = n
theorem A.if_eq {x : Int} {t : Nat} (hd : Dif M pc .eq t n) (kt : x = 0 → AW M fr kb t L S h Rp) (kf : ¬ x = 0 → AW M fr kb n L S h Rp) : AW M fr kb pc L (vI x :: S) h Rp := by
  intro p l e R s m args below meth c Q G X H locs cells slots ls hH hS hL hV hc hs
  obtain ⟨off, hd, ht, rfl⟩ := hd
  have r1 := vok_h hV
  exact lv_if_eq X.1.1 X.1.2.1 hd ht (fun q => kt (by rw [i32_0] at q; (first | rw [i32_eq r1 (by omega)] at q | rw [i32_lt r1 (by omega)] at q | rw [i32_lt (by omega) r1] at q | rw [i32_le r1 (by omega)] at q | rw [i32_le (by omega) r1] at q); omega) p l e R s m args below meth c Q G X H locs cells slots ls hH hS hL (vok_t hV) hc hs)
    (fun q => kf (by rw [i32_0] at q; (first | rw [i32_eq r1 (by omega)] at q | rw [i32_lt r1 (by omega)] at q | rw [i32_lt (by omega) r1] at q | rw [i32_le r1 (by omega)] at q | rw [i32_le (by omega) r1] at q); omega) p l e R s m args below meth c Q G X H locs cells slots ls hH hS hL (vok_t hV) hc hs)
theorem A.ic_eq {x y : Int} {t : Nat} (hd : Dic M pc .eq t n) (kt : x = y → AW M fr kb t L S h Rp) (kf : ¬ x = y → AW M fr kb n L S h Rp) : AW M fr kb pc L (vI y :: vI x :: S) h Rp := by
  intro p l e R s m args below meth c Q G X H locs cells slots ls hH hS hL hV hc hs
  obtain ⟨off, hd, ht, rfl⟩ := hd
  have r1 := vok_h hV
  have r2 := vok_h (vok_t hV)
  exact lv_icmp_eq X.1.1 X.1.2.1 hd ht (fun q => kt (by (first | rw [i32_eq r2 r1] at q | rw [i32_lt r2 r1] at q | rw [i32_lt r1 r2] at q | rw [i32_le r2 r1] at q | rw [i32_le r1 r2] at q); omega) p l e R s m args below meth c Q G X H locs cells slots ls hH hS hL (vok_t (vok_t hV)) hc hs)
    (fun q => kf (by (first | rw [i32_eq r2 r1] at q | rw [i32_lt r2 r1] at q | rw [i32_lt r1 r2] at q | rw [i32_le r2 r1] at q | rw [i32_le r1 r2] at q); omega) p l e R s m args below meth c Q G X H locs cells slots ls hH hS hL (vok_t (vok_t hV)) hc hs)
theorem A.if_ne {x : Int} {t : Nat} (hd : Dif M pc .ne t n) (kt : ¬ x = 0 → AW M fr kb t L S h Rp) (kf : x = 0 → AW M fr kb n L S h Rp) : AW M fr kb pc L (vI x :: S) h Rp := by
  intro p l e R s m args below meth c Q G X H locs cells slots ls hH hS hL hV hc hs
  obtain ⟨off, hd, ht, rfl⟩ := hd
  have r1 := vok_h hV
  exact lv_if_ne X.1.1 X.1.2.1 hd ht (fun q => kt (by rw [i32_0] at q; (first | rw [i32_eq r1 (by omega)] at q | rw [i32_lt r1 (by omega)] at q | rw [i32_lt (by omega) r1] at q | rw [i32_le r1 (by omega)] at q | rw [i32_le (by omega) r1] at q); omega) p l e R s m args below meth c Q G X H locs cells slots ls hH hS hL (vok_t hV) hc hs)
    (fun q => kf (by rw [i32_0] at q; (first | rw [i32_eq r1 (by omega)] at q | rw [i32_lt r1 (by omega)] at q | rw [i32_lt (by omega) r1] at q | rw [i32_le r1 (by omega)] at q | rw [i32_le (by omega) r1] at q); omega) p l e R s m args below meth c Q G X H locs cells slots ls hH hS hL (vok_t hV) hc hs)
theorem A.ic_ne {x y : Int} {t : Nat} (hd : Dic M pc .ne t n) (kt : ¬ x = y → AW M fr kb t L S h Rp) (kf : x = y → AW M fr kb n L S h Rp) : AW M fr kb pc L (vI y :: vI x :: S) h Rp := by
  intro p l e R s m args below meth c Q G X H locs cells slots ls hH hS hL hV hc hs
  obtain ⟨off, hd, ht, rfl⟩ := hd
  have r1 := vok_h hV
  have r2 := vok_h (vok_t hV)
  exact lv_icmp_ne X.1.1 X.1.2.1 hd ht (fun q => kt (by (first | rw [i32_eq r2 r1] at q | rw [i32_lt r2 r1] at q | rw [i32_lt r1 r2] at q | rw [i32_le r2 r1] at q | rw [i32_le r1 r2] at q); omega) p l e R s m args below meth c Q G X H locs cells slots ls hH hS hL (vok_t (vok_t hV)) hc hs)
    (fun q => kf (by (first | rw [i32_eq r2 r1] at q | rw [i32_lt r2 r1] at q | rw [i32_lt r1 r2] at q | rw [i32_le r2 r1] at q | rw [i32_le r1 r2] at q); omega) p l e R s m args below meth c Q G X H locs cells slots ls hH hS hL (vok_t (vok_t hV)) hc hs)
theorem A.if_lt {x : Int} {t : Nat} (hd : Dif M pc .lt t n) (kt : x < 0 → AW M fr kb t L S h Rp) (kf : 0 ≤ x → AW M fr kb n L S h Rp) : AW M fr kb pc L (vI x :: S) h Rp := by
  intro p l e R s m args below meth c Q G X H locs cells slots ls hH hS hL hV hc hs
  obtain ⟨off, hd, ht, rfl⟩ := hd
  have r1 := vok_h hV
  exact lv_if_lt X.1.1 X.1.2.1 hd ht (fun q => kt (by rw [i32_0] at q; (first | rw [i32_eq r1 (by omega)] at q | rw [i32_lt r1 (by omega)] at q | rw [i32_lt (by omega) r1] at q | rw [i32_le r1 (by omega)] at q | rw [i32_le (by omega) r1] at q); omega) p l e R s m args below meth c Q G X H locs cells slots ls hH hS hL (vok_t hV) hc hs)
    (fun q => kf (by rw [i32_0] at q; (first | rw [i32_eq r1 (by omega)] at q | rw [i32_lt r1 (by omega)] at q | rw [i32_lt (by omega) r1] at q | rw [i32_le r1 (by omega)] at q | rw [i32_le (by omega) r1] at q); omega) p l e R s m args below meth c Q G X H locs cells slots ls hH hS hL (vok_t hV) hc hs)
theorem A.ic_lt {x y : Int} {t : Nat} (hd : Dic M pc .lt t n) (kt : x < y → AW M fr kb t L S h Rp) (kf : y ≤ x → AW M fr kb n L S h Rp) : AW M fr kb pc L (vI y :: vI x :: S) h Rp := by
  intro p l e R s m args below meth c Q G X H locs cells slots ls hH hS hL hV hc hs
  obtain ⟨off, hd, ht, rfl⟩ := hd
  have r1 := vok_h hV
  have r2 := vok_h (vok_t hV)
  exact lv_icmp_lt X.1.1 X.1.2.1 hd ht (fun q => kt (by (first | rw [i32_eq r2 r1] at q | rw [i32_lt r2 r1] at q | rw [i32_lt r1 r2] at q | rw [i32_le r2 r1] at q | rw [i32_le r1 r2] at q); omega) p l e R s m args below meth c Q G X H locs cells slots ls hH hS hL (vok_t (vok_t hV)) hc hs)
    (fun q => kf (by (first | rw [i32_eq r2 r1] at q | rw [i32_lt r2 r1] at q | rw [i32_lt r1 r2] at q | rw [i32_le r2 r1] at q | rw [i32_le r1 r2] at q); omega) p l e R s m args below meth c Q G X H locs cells slots ls hH hS hL (vok_t (vok_t hV)) hc hs)
theorem A.if_ge {x : Int} {t : Nat} (hd : Dif M pc .ge t n) (kt : 0 ≤ x → AW M fr kb t L S h Rp) (kf : x < 0 → AW M fr kb n L S h Rp) : AW M fr kb pc L (vI x :: S) h Rp := by
  intro p l e R s m args below meth c Q G X H locs cells slots ls hH hS hL hV hc hs
  obtain ⟨off, hd, ht, rfl⟩ := hd
  have r1 := vok_h hV
  exact lv_if_ge X.1.1 X.1.2.1 hd ht (fun q => kt (by rw [i32_0] at q; (first | rw [i32_eq r1 (by omega)] at q | rw [i32_lt r1 (by omega)] at q | rw [i32_lt (by omega) r1] at q | rw [i32_le r1 (by omega)] at q | rw [i32_le (by omega) r1] at q); omega) p l e R s m args below meth c Q G X H locs cells slots ls hH hS hL (vok_t hV) hc hs)
    (fun q => kf (by rw [i32_0] at q; (first | rw [i32_eq r1 (by omega)] at q | rw [i32_lt r1 (by omega)] at q | rw [i32_lt (by omega) r1] at q | rw [i32_le r1 (by omega)] at q | rw [i32_le (by omega) r1] at q); omega) p l e R s m args below meth c Q G X H locs cells slots ls hH hS hL (vok_t hV) hc hs)
theorem A.ic_ge {x y : Int} {t : Nat} (hd : Dic M pc .ge t n) (kt : y ≤ x → AW M fr kb t L S h Rp) (kf : x < y → AW M fr kb n L S h Rp) : AW M fr kb pc L (vI y :: vI x :: S) h Rp := by
  intro p l e R s m args below meth c Q G X H locs cells slots ls hH hS hL hV hc hs
  obtain ⟨off, hd, ht, rfl⟩ := hd
  have r1 := vok_h hV
  have r2 := vok_h (vok_t hV)
  exact lv_icmp_ge X.1.1 X.1.2.1 hd ht (fun q => kt (by (first | rw [i32_eq r2 r1] at q | rw [i32_lt r2 r1] at q | rw [i32_lt r1 r2] at q | rw [i32_le r2 r1] at q | rw [i32_le r1 r2] at q); omega) p l e R s m args below meth c Q G X H locs cells slots ls hH hS hL (vok_t (vok_t hV)) hc hs)
    (fun q => kf (by (first | rw [i32_eq r2 r1] at q | rw [i32_lt r2 r1] at q | rw [i32_lt r1 r2] at q | rw [i32_le r2 r1] at q | rw [i32_le r1 r2] at q); omega) p l e R s m args below meth c Q G X H locs cells slots ls hH hS hL (vok_t (vok_t hV)) hc hs)
theorem A.if_gt {x : Int} {t : Nat} (hd : Dif M pc .gt t n) (kt : 0 < x → AW M fr kb t L S h Rp) (kf : x ≤ 0 → AW M fr kb n L S h Rp) : AW M fr kb pc L (vI x :: S) h Rp := by
  intro p l e R s m args below meth c Q G X H locs cells slots ls hH hS hL hV hc hs
  obtain ⟨off, hd, ht, rfl⟩ := hd
  have r1 := vok_h hV
  exact lv_if_gt X.1.1 X.1.2.1 hd ht (fun q => kt (by rw [i32_0] at q; (first | rw [i32_eq r1 (by omega)] at q | rw [i32_lt r1 (by omega)] at q | rw [i32_lt (by omega) r1] at q | rw [i32_le r1 (by omega)] at q | rw [i32_le (by omega) r1] at q); omega) p l e R s m args below meth c Q G X H locs cells slots ls hH hS hL (vok_t hV) hc hs)
    (fun q => kf (by rw [i32_0] at q; (first | rw [i32_eq r1 (by omega)] at q | rw [i32_lt r1 (by omega)] at q | rw [i32_lt (by omega) r1] at q | rw [i32_le r1 (by omega)] at q | rw [i32_le (by omega) r1] at q); omega) p l e R s m args below meth c Q G X H locs cells slots ls hH hS hL (vok_t hV) hc hs)
theorem A.ic_gt {x y : Int} {t : Nat} (hd : Dic M pc .gt t n) (kt : y < x → AW M fr kb t L S h Rp) (kf : x ≤ y → AW M fr kb n L S h Rp) : AW M fr kb pc L (vI y :: vI x :: S) h Rp := by
  intro p l e R s m args below meth c Q G X H locs cells slots ls hH hS hL hV hc hs
  obtain ⟨off, hd, ht, rfl⟩ := hd
  have r1 := vok_h hV
  have r2 := vok_h (vok_t hV)
  exact lv_icmp_gt X.1.1 X.1.2.1 hd ht (fun q => kt (by (first | rw [i32_eq r2 r1] at q | rw [i32_lt r2 r1] at q | rw [i32_lt r1 r2] at q | rw [i32_le r2 r1] at q | rw [i32_le r1 r2] at q); omega) p l e R s m args below meth c Q G X H locs cells slots ls hH hS hL (vok_t (vok_t hV)) hc hs)
    (fun q => kf (by (first | rw [i32_eq r2 r1] at q | rw [i32_lt r2 r1] at q | rw [i32_lt r1 r2] at q | rw [i32_le r2 r1] at q | rw [i32_le r1 r2] at q); omega) p l e R s m args below meth c Q G X H locs cells slots ls hH hS hL (vok_t (vok_t hV)) hc hs)
theorem A.if_le {x : Int} {t : Nat} (hd : Dif M pc .le t n) (kt : x ≤ 0 → AW M fr kb t L S h Rp) (kf : 0 < x → AW M fr kb n L S h Rp) : AW M fr kb pc L (vI x :: S) h Rp := by
  intro p l e R s m args below meth c Q G X H locs cells slots ls hH hS hL hV hc hs
  obtain ⟨off, hd, ht, rfl⟩ := hd
  have r1 := vok_h hV
  exact lv_if_le X.1.1 X.1.2.1 hd ht (fun q => kt (by rw [i32_0] at q; (first | rw [i32_eq r1 (by omega)] at q | rw [i32_lt r1 (by omega)] at q | rw [i32_lt (by omega) r1] at q | rw [i32_le r1 (by omega)] at q | rw [i32_le (by omega) r1] at q); omega) p l e R s m args below meth c Q G X H locs cells slots ls hH hS hL (vok_t hV) hc hs)
    (fun q => kf (by rw [i32_0] at q; (first | rw [i32_eq r1 (by omega)] at q | rw [i32_lt r1 (by omega)] at q | rw [i32_lt (by omega) r1] at q | rw [i32_le r1 (by omega)] at q | rw [i32_le (by omega) r1] at q); omega) p l e R s m args below meth c Q G X H locs cells slots ls hH hS hL (vok_t hV) hc hs)
theorem A.ic_le {x y : Int} {t : Nat} (hd : Dic M pc .le t n) (kt : x ≤ y → AW M fr kb t L S h Rp) (kf : y < x → AW M fr kb n L S h Rp) : AW M fr kb pc L (vI y :: vI x :: S) h Rp := by
  intro p l e R s m args below meth c Q G X H locs cells slots ls hH hS hL hV hc hs
  obtain ⟨off, hd, ht, rfl⟩ := hd
  have r1 := vok_h hV
  have r2 := vok_h (vok_t hV)
  exact lv_icmp_le X.1.1 X.1.2.1 hd ht (fun q => kt (by (first | rw [i32_eq r2 r1] at q | rw [i32_lt r2 r1] at q | rw [i32_lt r1 r2] at q | rw [i32_le r2 r1] at q | rw [i32_le r1 r2] at q); omega) p l e R s m args below meth c Q G X H locs cells slots ls hH hS hL (vok_t (vok_t hV)) hc hs)
    (fun q => kf (by (first | rw [i32_eq r2 r1] at q | rw [i32_lt r2 r1] at q | rw [i32_lt r1 r2] at q | rw [i32_le r2 r1] at q | rw [i32_le r1 r2] at q); omega) p l e R s m args below meth c Q G X H locs cells slots ls hH hS hL (vok_t (vok_t hV)) hc hs)
theorem A.goto {t : Nat} (hd : Dgo M pc t) (k : AW M fr kb t L S h Rp) : AW M fr kb pc L S h Rp := by
  obtain ⟨off, hd, ht⟩ := hd
  exact AW.go (fun hV _ => hV) (fun p l e R s m args below meth c Q G H locs cells slots ls hx hb _ _ _ _ hL kk => lv_goto hx hb hd ht (kk ls hL)) k
/-- a switch over lo, lo + 1 .. : its targets, in their order -/
def TSW (M : MT) (fr : Nat) (kb : Nat × Nat) (L : List (Option AV)) (S : List AV) (h : AH) (Rp : RP) (x : Int) : Int → List Nat → Prop
  | _, [] => True
  | lo, t :: ts => (x = lo → AW M fr kb t L S h Rp) ∧ TSW M fr kb L S h Rp x (lo + 1) ts
theorem TSW.get {x : Int} : ∀ (ts : List Nat) (lo : Int) (i t : Nat), TSW M fr kb L S h Rp x lo ts → ts[i]? = some t → x = lo + i → AW M fr kb t L S h Rp := by
  intro ts
  induction ts with
  | nil => intro lo i t _ h1; simp at h1
  | cons a ts ih =>
    intro lo i t hT h1 h2
    cases i with
    | zero =>
      have : a = t := by simpa using h1
      subst this
      exact hT.1 (by omega)
    | succ i => exact ih (lo + 1) i t hT.2 (by simpa using h1) (by omega)
def Dts (M : MT) (pc : Nat) (lo : Int) (ts : List Nat) (td : Nat) : Prop := ∃ (dflt hi : Int) (offs : Array Int) (len : Nat), decode (mB M) pc = .ok (.tableswitch dflt lo hi offs, len) ∧ (pc : Int) + dflt = (td : Int) ∧ hi + 1 = lo + ts.length ∧ offs.size = ts.length ∧ ∀ i : Fin ts.length, offs[(i : Nat)]?.map (fun o => (pc : Int) + o) = some (ts[i] : Int)
theorem A.tsw {x lo : Int} {ts : List Nat} {td : Nat} (hd : Dts M pc lo ts td) (kt : TSW M fr kb L S h Rp x lo ts) (kd : x < lo ∨ lo + ts.length ≤ x → AW M fr kb td L S h Rp) : AW M fr kb pc L (vI x :: S) h Rp := by
  intro p l e R s m args below meth c Q G X H locs cells slots ls hH hS hL hV hc hs
  obtain ⟨dflt, hi, offs, len, hd, htd, hhi, hsz, hto⟩ := hd
  have r1 : (Int32.ofInt x).toInt = x := of_i32 (vok_h hV)
  by_cases hin : x < lo ∨ hi < x
  · exact lv_tableOut X.1.1 X.1.2.1 hd (by rw [r1]; exact hin) htd (kd (by omega) p l e R s m args below meth c Q G X H locs cells slots ls hH hS hL (vok_t hV) hc hs)
  · have hlt : (x - lo).toNat < ts.length := by omega
    have h1 := hto ⟨(x - lo).toNat, hlt⟩
    obtain ⟨o, ho, hoe⟩ := Option.map_eq_some_iff.mp h1
    exact lv_tableIn X.1.1 X.1.2.1 hd (by rw [r1]; omega) (by rw [r1]; omega) (by rw [r1]; exact ho) hoe (TSW.get ts lo (x - lo).toNat _ kt (by simp [hlt]) (by omega) p l e R s m args below meth c Q G X H locs cells slots ls hH hS hL (vok_t hV) hc hs)
/-! a truth of a call, as an int -/
noncomputable def bi (P : Prop) : Int := @ite Int P (Classical.propDecidable P) 1 0
theorem bi_t {P : Prop} (h : P) : bi P = 1 := @if_pos P (Classical.propDecidable P) h Int 1 0
theorem bi_f {P : Prop} (h : ¬ P) : bi P = 0 := @if_neg P (Classical.propDecidable P) h Int 1 0
theorem bi_1 {P : Prop} : bi P = 1 ↔ P := by
  rcases Classical.em P with h | h
  · rw [bi_t h]; exact ⟨fun _ => h, fun _ => rfl⟩
  · rw [bi_f h]; exact ⟨fun q => absurd q (by decide), fun q => absurd q h⟩
theorem bi_0 {P : Prop} : bi P = 0 ↔ ¬ P := by
  rcases Classical.em P with h | h
  · rw [bi_t h]; exact ⟨fun q => absurd q (by decide), fun q => absurd h q⟩
  · rw [bi_f h]; exact ⟨fun _ => h, fun _ => rfl⟩
theorem bi_rng (P : Prop) : 0 ≤ bi P ∧ bi P ≤ 1 := by
  rcases Classical.em P with h | h
  · rw [bi_t h]; decide
  · rw [bi_f h]; decide
theorem A.bz_eq {P : Prop} {t : Nat} (hd : Dif M pc .eq t n) (kt : ¬ P → AW M fr kb t L S h Rp) (kf : P → AW M fr kb n L S h Rp) : AW M fr kb pc L (vI (bi P) :: S) h Rp :=
  A.if_eq hd (fun q => kt (bi_0.mp q)) (fun q => kf (Classical.byContradiction fun z => q (bi_f z)))
theorem A.bz_ne {P : Prop} {t : Nat} (hd : Dif M pc .ne t n) (kt : P → AW M fr kb t L S h Rp) (kf : ¬ P → AW M fr kb n L S h Rp) : AW M fr kb pc L (vI (bi P) :: S) h Rp :=
  A.if_ne hd (fun q => kt (Classical.byContradiction fun z => q (bi_f z))) (fun q => kf (bi_0.mp q))
end ROWS
