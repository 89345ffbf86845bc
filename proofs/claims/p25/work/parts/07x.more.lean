/-! ===== rows that this claim's law needs beside whole's: a constant, a product that wraps, a quotient towards 0, a call over a longer stack ===== -/
section MORE
variable {M M' : MT} {fr d : Nat} {kb : Nat × Nat} {pc n : Nat} {L : List (Option AV)} {S S' : List AV} {h : AH} {Rp : RP}
def Dld (M : MT) (pc : Nat) (x : Int) (n : Nat) : Prop := ∃ idx : Nat, decode (mB M) pc = .ok (.ldc idx, 2) ∧ Jvm.Cond.constant (mY M).cls idx (Int32.ofInt x) ∈ tG ∧ pc + 2 = n
theorem A.ldcI {x : Int} (hd : Dld M pc x n) (k : AW M fr kb n L (vI x :: S) h Rp) (hx : -2147483648 ≤ x ∧ x ≤ 2147483647 := by decide) : AW M fr kb pc L S h Rp :=
  AW.go (fun hV _ => vok_ci hx hV) (fun p l e R s m args below meth c Q G H locs cells slots ls hx hb hown hts _ _ hL kk => by
    obtain ⟨idx, hd, h1, rfl⟩ := hd
    exact lv_ldc hx hb hown (hts _ h1) hd (kk ls hL)) k
def bMul (x y : Int) : Int := (Int32.ofInt x * Int32.ofInt y).toInt
theorem A.imulW {x y : Int} (hd : Dc M pc .imul 1 n) (k : AW M fr kb n L (vI (bMul x y) :: S) h Rp) : AW M fr kb pc L (vI y :: vI x :: S) h Rp :=
  AW.go (fun hV _ => vok_ci (i32_rng _) (vok_t (vok_t hV))) (fun p l e R s m args below meth c Q G H locs cells slots ls hx hb _ _ _ _ hL kk => by
    obtain ⟨hd, rfl⟩ := hd
    have h1 := kk ls hL
    simp only [List.map_cons, cv, bMul, i32_back] at h1
    exact lv_imul hx hb hd h1) k
def bAdd (x y : Int) : Int := (Int32.ofInt x + Int32.ofInt y).toInt
theorem A.iaddW {x y : Int} (hd : Dc M pc .iadd 1 n) (k : AW M fr kb n L (vI (bAdd x y) :: S) h Rp) : AW M fr kb pc L (vI y :: vI x :: S) h Rp :=
  AW.go (fun hV _ => vok_ci (i32_rng _) (vok_t (vok_t hV))) (fun p l e R s m args below meth c Q G H locs cells slots ls hx hb _ _ _ _ hL kk => by
    obtain ⟨hd, rfl⟩ := hd
    have h1 := kk ls hL
    simp only [List.map_cons, cv, bAdd, i32_back] at h1
    exact lv_iadd hx hb hd h1) k
def bDiv (x y : Int) : Int := (Int32.ofInt x / Int32.ofInt y).toInt
theorem bDiv_pos {x y : Int} (hx : 0 ≤ x) (hx2 : x ≤ 2147483647) (hy : 0 < y) (hy2 : y ≤ 2147483647) : bDiv x y = x / y := by
  have h0 : 0 ≤ x / y := Int.ediv_nonneg hx (by omega)
  have h1 : x / y ≤ x := Int.ediv_le_self y hx
  unfold bDiv
  rw [i32_div hx hx2 hy hy2, of_i32 (by omega)]
theorem A.idivT {x y : Int} (hd : Dc M pc .idiv 1 n) (k : AW M fr kb n L (vI (bDiv x y) :: S) h Rp) (h1 : y ≠ 0 := by omega) : AW M fr kb pc L (vI y :: vI x :: S) h Rp :=
  AW.go (fun hV _ => vok_ci (i32_rng _) (vok_t (vok_t hV))) (fun p l e R s m args below meth c Q G H locs cells slots ls hx hb _ _ _ hV hL kk => by
    obtain ⟨hd, rfl⟩ := hd
    have h3 := vok_h hV
    have h4 := kk ls hL
    simp only [List.map_cons, cv, bDiv, i32_back] at h4
    exact lv_idiv hx hb hd (by rw [i32_0, i32_eq h3 (by omega)]; exact h1) h4) k
/-- words of a stack without longs -/
def noL : List AV → Bool
  | [] => true
  | v :: S => !isL v && noL S
theorem cat_sum1 (G : GD) : ∀ S : List AV, noL S = true → ((S.map (cv G)).map fun v => v.category).sum ≤ S.length := by
  intro S
  induction S with
  | nil => intro _; exact Nat.le_refl _
  | cons v S ih =>
    intro hn
    have hn2 : isL v = false ∧ noL S = true := by simpa [noL] using hn
    have h1 : (cv G v).category = 1 := by
      rcases lv_cat (cv G v) with q | q
      · exact q
      · exact absurd ((isL_cat G v).mp q) (by rw [hn2.1]; decide)
    have h2 := ih hn2.2
    simp only [List.map_cons, List.sum_cons, List.length_cons]
    omega
theorem A.invS8 {as : List AV} {na : Nat} {S0 : List AV} (hd : Dis' M pc M' na n) (hM : AM M' d h as (kont M fr kb n L S Rp)) (hst : S0 = as.reverse ++ S) (hna : as.length = na) (hz : mC M' = 0 ∧ mS M' = 0) (hdf : d + 1 ≤ fr) (hn : noL S = true) (hS8 : S.length ≤ 8) : AW M fr kb pc L S0 h Rp := by
  subst hst
  intro p l e R s m args below meth c Q G X H locs cells slots ls hH hS hL hV hcl' hsl
  obtain ⟨idx, hd, ⟨hOK, hlk, hpa, hml⟩, hsta, rfl⟩ := hd
  have hVa : ∀ v ∈ as, vok v := fun v hv => hV v (List.mem_append_left _ (List.mem_reverse.mpr hv))
  have hVs : ∀ v ∈ S, vok v := fun v hv => hV v (List.mem_append_right _ hv)
  have hcs := cat_sum1 G S hn
  have hts := X.1.2.2.2.2
  have hrun := va_runS (S := ⟨X.1.1, X.1.2.1, X.1.2.2.1, X.1.2.2.2.1, hts⟩) (hM hVa l G)
    ⟨callB_of na hts (tG_in hOK) rfl rfl rfl (hts _ hOK.2.2.1) (hts _ hlk) ⟨hOK.2.2.2.1, hOK.2.2.2.2, hpa⟩ ⟨by rw [X.2.1.2.2.2.1]; exact hdf, by have := X.2.1.2.2.2.2.1; show 8 + (mL M' + 11) + 36 * d ≤ R.locals; omega⟩, hts _ hsta⟩
    ⟨pc_blind, pc_here hH X.2.1.1⟩
    (g := F0 m pc ls ((as.reverse ++ S).map (cv G))) (As := as.map (cv G)) (rest := S.map (cv G)) (locs := locs) (cells := cells) (slots := slots) (p := p) (e := e) (below := below) (meth := meth) rfl (by rw [List.length_map]; exact hna) hL.1.1 (by show List.map (cv G) (as.reverse ++ S) = _; rw [List.map_append, List.map_reverse]) (by show 2 * 0 + _ ≤ 8; omega) hd ⟨by rw [hz.1]; omega, by rw [hz.2]; omega⟩
  exact AW.called (by rw [hz.1]; rfl) (by rw [hz.2]; rfl) X hS hL hVs hcl' hsl hrun
theorem A.w2 {y1 y2 : AV} {L : List (Option AV)} (hd : Dis' M pc M' 2 n) (hM : AM M' d h [y1, y2] (kont M (d + 1) kb n L S Rp)) (hz : mC M' = 0 ∧ mS M' = 0 := by exact ⟨rfl, rfl⟩) (hn : noL S = true := by rfl) (hS8 : S.length ≤ 8 := by exact Nat.le_of_ble_eq_true rfl) : AW M (d + 1) kb pc L (y2 :: y1 :: S) h Rp := A.invS8 (as := [y1, y2]) hd hM rfl rfl hz (Nat.le_refl _) hn hS8
end MORE
