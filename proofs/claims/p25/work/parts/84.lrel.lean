/-! ===== the law's moments against the class's play ===== -/
def moS (S : SC) (m : MO) : Prop := moQ m ∧ (0 ≤ m.1 ∧ m.1 ≤ 30) ∧ cShown S m.1
def hRel (S : SC) (f : FN) (P : PL) : Prop := f 60 = P.2.1 + 1 ∧ f 61 = P.1 - P.2.1 - 1 ∧ (∀ v : Int, 0 ≤ v → v < 31 → P.2.2.2.2.2.1 v = bAnd (bShr (f 62) v) 1) ∧ ∀ k : Int, 0 ≤ k → k < P.1 → mRow f (3 * k) (P.2.2.2.1 k) ∧ moS S (P.2.2.2.1 k) ∧ P.2.2.2.2.2.1 (P.2.2.2.1 k).1 = 1
def kRel (S : SC) (f : FN) (sl : Int) (P : PL) : Prop := ∀ i : Int, 0 ≤ i → i < 3 → bAnd (bShr sl i) 1 = P.2.2.2.2.1 i ∧ (P.2.2.2.2.1 i = 1 → mRow f (3 * i) (P.2.2.2.2.2.2 i) ∧ moS S (P.2.2.2.2.2.2 i) ∧ P.2.2.2.2.2.1 (P.2.2.2.2.2.2 i).1 = 1)
theorem hRel.now {S : SC} {f : FN} {P : PL} (h : hRel S f P) (hb : plI P) : moS S (nowM P) ∧ P.2.2.2.2.2.1 (nowM P).1 = 1 := (h.2.2.2 P.2.1 hb.1.1 hb.1.2.1).2
theorem row_of {f : FN} {p : Int} {g : FN} {m : MO} (h0 : f p = g 0) (h1 : f (p + 1) = g 1) (h2 : f (p + 2) = g 2) (hm : mReg g m) : mRow f p m := ⟨h0.trans hm.1, h1.trans hm.2.1, h2.trans hm.2.2⟩
theorem seeP_in {P : PL} {v : Int} (h0 : 0 ≤ v) (h1 : v ≤ 30) : seeP P v = (P.1, P.2.1, P.2.2.1, P.2.2.2.1, P.2.2.2.2.1, fset P.2.2.2.2.2.1 v 1, P.2.2.2.2.2.2) := if_pos ⟨h0, by omega⟩
theorem goP_y {S : SC} {P : PL} {v : Int} (hc : P.2.1 + 1 < 20) (h0 : 0 ≤ (goM S P v).1) (h1 : (goM S P v).1 ≤ 30) : goP S P v = (P.2.1 + 1 + 1, P.2.1 + 1, P.2.2.1, mset P.2.2.2.1 (P.2.1 + 1) (goM S P v), P.2.2.2.2.1, fset P.2.2.2.2.2.1 (goM S P v).1 1, P.2.2.2.2.2.2) := (if_pos hc : goP S P v = _).trans (seeP_in h0 h1)
theorem goP_n {S : SC} {P : PL} {v : Int} (hc : ¬ P.2.1 + 1 < 20) (h0 : 0 ≤ (goM S P v).1) (h1 : (goM S P v).1 ≤ 30) : goP S P v = (P.2.1 + 1, P.2.1, shA P.2.2.1, mset (shM P.2.2.2.1) P.2.1 (goM S P v), P.2.2.2.2.1, fset P.2.2.2.2.2.1 (goM S P v).1 1, P.2.2.2.2.2.2) := (if_neg hc : goP S P v = _).trans (seeP_in h0 h1)
theorem goP_sn {S : SC} {P : PL} {v : Int} (h0 : 0 ≤ (goM S P v).1) (h1 : (goM S P v).1 ≤ 30) : (goP S P v).2.2.2.2.1 = P.2.2.2.2.1 ∧ (goP S P v).2.2.2.2.2.1 = fset P.2.2.2.2.2.1 (goM S P v).1 1 ∧ (goP S P v).2.2.2.2.2.2 = P.2.2.2.2.2.2 := by
  by_cases hc : P.2.1 + 1 < 20
  · rw [goP_y hc h0 h1]; exact ⟨rfl, rfl, rfl⟩
  · rw [goP_n hc h0 h1]; exact ⟨rfl, rfl, rfl⟩
theorem hRel_go {S : SC} {f g f' : FN} {P : PL} {v : Int} (hb : plI P) (h : hRel S f P) (hp : putR f g f') (hm : mReg g (goM S P v)) (ho : moS S (goM S P v)) : hRel S f' (goP S P v) := by
  obtain ⟨n, sh, hn, e0, e1, e2, e3, e4, e5, e6⟩ := hp
  obtain ⟨a0, a1, a2, a3⟩ := h
  have b1 := hb.1
  have m0 := ho.2.1.1
  have m1 := ho.2.1.2
  have row : mRow f' (3 * n) (goM S P v) := row_of e1 e2 e3 hm
  have sn : ∀ w : Int, 0 ≤ w → w < 31 → fset P.2.2.2.2.2.1 (goM S P v).1 1 w = bAnd (bShr (f' 62) w) 1 := fun w w0 w1 => by
    rw [e6, hm.1]; exact seen_or a2 w0 w1 m0 m1
  by_cases hc : P.2.1 + 1 < 20
  · rw [goP_y hc m0 m1]
    have hn : n = P.2.1 + 1 := by omega
    have hsh : sh = 0 := by omega
    subst hn; subst hsh
    refine ⟨by show f' 60 = P.2.1 + 1 + 1; omega, by show f' 61 = P.2.1 + 1 + 1 - (P.2.1 + 1) - 1; omega, sn, fun k k0 k1 => ?_⟩
    have k1 : k < P.2.1 + 1 + 1 := k1
    by_cases c : k = P.2.1 + 1
    · subst c
      show mRow f' _ (mset _ _ _ _) ∧ moS S (mset _ _ _ _) ∧ fset _ _ _ (mset _ _ _ _).1 = 1
      rw [mset_s]
      exact ⟨row, ho, fs_at rfl⟩
    · show mRow f' _ (mset _ _ _ _) ∧ moS S (mset _ _ _ _) ∧ fset _ _ _ (mset _ _ _ _).1 = 1
      rw [mset_n _ _ c]
      obtain ⟨r0, r1, r2⟩ := a3 k k0 (by omega)
      exact ⟨r0.cp (fun x x0 x1 => (e0 _ (by omega) (by omega)).trans (by rw [Int.add_zero])), r1, seen_mono r2⟩
  · rw [goP_n hc m0 m1]
    have h19 : P.2.1 = 19 := by omega
    have hn2 : n = 19 := by omega
    have hsh : sh = 3 := by omega
    subst hsh
    rw [hn2] at e0 row
    refine ⟨by show f' 60 = P.2.1 + 1; omega, by show f' 61 = P.2.1 + 1 - P.2.1 - 1; omega, sn, fun k k0 k1 => ?_⟩
    have k1 : k < P.2.1 + 1 := k1
    by_cases c : k = P.2.1
    · subst c
      show mRow f' _ (mset _ _ _ _) ∧ moS S (mset _ _ _ _) ∧ fset _ _ _ (mset _ _ _ _).1 = 1
      rw [mset_s, h19]
      exact ⟨row, ho, fs_at rfl⟩
    · show mRow f' _ (mset _ _ _ _) ∧ moS S (mset _ _ _ _) ∧ fset _ _ _ (mset _ _ _ _).1 = 1
      rw [mset_n _ _ c, show shM P.2.2.2.1 k = P.2.2.2.1 (k + 1) from if_pos (by omega)]
      obtain ⟨r0, r1, r2⟩ := a3 (k + 1) (by omega) (by omega)
      exact ⟨r0.cp (fun x x0 x1 => (e0 _ (by omega) (by omega)).trans (by congr 1; omega)), r1, seen_mono r2⟩
theorem kRel_go {S : SC} {f : FN} {sl : Int} {P : PL} {v : Int} (h : kRel S f sl P) (ho : moS S (goM S P v)) : kRel S f sl (goP S P v) := fun i i0 i1 => by
  obtain ⟨a, b⟩ := h i i0 i1
  obtain ⟨z0, z1, z2⟩ := goP_sn ho.2.1.1 ho.2.1.2
  rw [z0, z1, z2]
  exact ⟨a, fun y => ⟨(b y).1, (b y).2.1, seen_mono (b y).2.2⟩⟩
/-- another moment of those kept is the present one -/
theorem hRel_turn {S : SC} {f f' : FN} {P : PL} {pr : Int} (h : hRel S f P) (e0 : f' 60 = pr + 1) (e1 : f' 61 = P.1 - pr - 1) (e2 : f' 62 = f 62) (e3 : ∀ j : Int, 0 ≤ j → j < 60 → f' j = f j) (hP : P.1 ≤ 20) : hRel S f' (P.1, pr, P.2.2) := by
  obtain ⟨a0, a1, a2, a3⟩ := h
  refine ⟨e0, e1, fun v v0 v1 => by rw [e2]; exact a2 v v0 v1, fun k k0 k1 => ?_⟩
  have k1 : k < P.1 := k1
  obtain ⟨r0, r1, r2⟩ := a3 k k0 k1
  exact ⟨r0.cp (fun x x0 x1 => e3 _ (by omega) (by omega)), r1, r2⟩
theorem plI_turn {S : SC} {f : FN} {P : PL} {pr : Int} (h : hRel S f P) (hb : plI P) (h0 : 0 ≤ pr) (h1 : pr < P.1) : plI (P.1, pr, P.2.2) := by
  have m := (h.2.2.2 pr h0 h1).2.1.2.1
  exact ⟨⟨h0, h1, hb.1.2.2⟩, hb.2.1, hb.2.2.1, m⟩
/-- the play begun anew -/
theorem anewP_y {S : SC} {P : PL} (h0 : 0 ≤ (cCome S (emptyM (P.2.2.2.1 0)) 0).1) (h1 : (cCome S (emptyM (P.2.2.2.1 0)) 0).1 ≤ 30) : anewP S P = (1, 0, P.2.2.1, mset P.2.2.2.1 0 (cCome S (emptyM (P.2.2.2.1 0)) 0), P.2.2.2.2.1, fset P.2.2.2.2.2.1 (cCome S (emptyM (P.2.2.2.1 0)) 0).1 1, P.2.2.2.2.2.2) := seeP_in h0 h1
theorem hRel_anew {S : SC} {f f' : FN} {P : PL} (hs : ∀ v : Int, 0 ≤ v → v < 31 → P.2.2.2.2.2.1 v = bAnd (bShr (f 62) v) 1) (hp : stR0 f f' (cCome S (emptyM (P.2.2.2.1 0)) 0)) (ho : moS S (cCome S (emptyM (P.2.2.2.1 0)) 0)) : hRel S f' (anewP S P) := by
  obtain ⟨row, e0, e1, e2⟩ := hp
  rw [anewP_y ho.2.1.1 ho.2.1.2]
  refine ⟨e0, e1, fun w w0 w1 => by rw [e2]; exact seen_or hs w0 w1 ho.2.1.1 ho.2.1.2, fun k k0 k1 => ?_⟩
  have k1 : k < 1 := k1
  have c : k = 0 := by omega
  subst c
  show mRow f' _ (mset _ _ _ _) ∧ moS S (mset _ _ _ _) ∧ fset _ _ _ (mset _ _ _ _).1 = 1
  rw [mset_s]
  exact ⟨row, ho, fs_at rfl⟩
theorem kRel_anew {S : SC} {f : FN} {sl : Int} {P : PL} (h : kRel S f sl P) (ho : moS S (cCome S (emptyM (P.2.2.2.1 0)) 0)) : kRel S f sl (anewP S P) := fun i i0 i1 => by
  obtain ⟨a, b⟩ := h i i0 i1
  rw [anewP_y ho.2.1.1 ho.2.1.2]
  exact ⟨a, fun y => ⟨(b y).1, (b y).2.1, seen_mono (b y).2.2⟩⟩
theorem come_ok {S : SC} {B : FN} {m : MO} {v : Int} (hB : rScr B S) (h0 : 0 ≤ v) (h1 : v ≤ 30) (hq : moQ (cCome S m v)) : moS S (cCome S m v) := ⟨hq, (cCome_rng hB m h0 h1).1, (cCome_rng hB m h0 h1).2⟩
def rstP (P : PL) : PL := (P.1, P.2.1, P.2.2.1, P.2.2.2.1, fillN 0 3 P.2.2.2.2.1, fillN 0 31 P.2.2.2.2.2.1, P.2.2.2.2.2.2)
theorem startP_is (S : SC) (P : PL) : startP S P = anewP S (rstP P) := rfl
theorem hRel_start {S : SC} {f f' : FN} {P : PL} (hz : f 62 = 0) (hp : stR0 f f' (cCome S (emptyM (P.2.2.2.1 0)) 0)) (ho : moS S (cCome S (emptyM (P.2.2.2.1 0)) 0)) : hRel S f' (startP S P) := by
  rw [startP_is]
  refine hRel_anew (P := rstP P) (fun v v0 v1 => ?_) hp ho
  rw [hz, bit_zero v0 (by omega)]
  exact fillN_in 0 _ 31 v v0 (by omega)
theorem kRel_start {S : SC} {f : FN} {P : PL} (ho : moS S (cCome S (emptyM (P.2.2.2.1 0)) 0)) : kRel S f 0 (startP S P) := by
  rw [startP_is]
  refine kRel_anew (P := rstP P) (fun i i0 i1 => ?_) ho
  have e : (rstP P).2.2.2.2.1 i = 0 := fillN_in 0 _ 3 i i0 (by omega)
  rw [e, bit_zero i0 (by omega)]
  exact ⟨rfl, fun y => by omega⟩
theorem plI_start {S : SC} {B : FN} (hB : rScr B S) (P : PL) : plI (startP S P) ∧ nowM (startP S P) = cCome S (emptyM (P.2.2.2.1 0)) 0 := by
  rw [startP_is]
  refine anewP_f (P := rstP P) hB (fun v v0 v1 => ?_) (fun j j0 j1 => ?_)
  · rw [show (rstP P).2.2.2.2.2.1 v = 0 from fillN_in 0 _ 31 v v0 (by omega)]; omega
  · rw [show (rstP P).2.2.2.2.1 j = 0 from fillN_in 0 _ 3 j j0 (by omega)]; omega
/-- a kept moment taken -/
theorem hRel_take {S : SC} {f f' : FN} {P : PL} {i : Int} (h : hRel S f P) (hp : stR0 f f' (P.2.2.2.2.2.2 i)) (ho : moS S (P.2.2.2.2.2.2 i)) (hs : P.2.2.2.2.2.1 (P.2.2.2.2.2.2 i).1 = 1) : hRel S f' (takeP P i) := by
  obtain ⟨row, e0, e1, e2⟩ := hp
  obtain ⟨-, -, a2, -⟩ := h
  refine ⟨e0, e1, fun w w0 w1 => ?_, fun k k0 k1 => ?_⟩
  · rw [e2, bit_or_eq w0 (by omega) ho.2.1.1 (by have := ho.2.1.2; omega)]
    show P.2.2.2.2.2.1 w = _
    by_cases c : w = (P.2.2.2.2.2.2 i).1
    · rw [if_pos c, c]; exact hs
    · rw [if_neg c]; exact a2 w w0 w1
  · have k1 : k < 1 := k1
    have c : k = 0 := by omega
    subst c
    show mRow f' _ (mset _ _ _ _) ∧ moS S (mset _ _ _ _) ∧ P.2.2.2.2.2.1 (mset _ _ _ _).1 = 1
    rw [mset_s]
    exact ⟨row, ho, hs⟩
theorem plI_take {P : PL} {i : Int} (hb : plI P) (h0 : 0 ≤ (P.2.2.2.2.2.2 i).1 ∧ (P.2.2.2.2.2.2 i).1 ≤ 30) : plI (takeP P i) ∧ nowM (takeP P i) = P.2.2.2.2.2.2 i := by
  have e : nowM (takeP P i) = P.2.2.2.2.2.2 i := by show mset P.2.2.2.1 0 (P.2.2.2.2.2.2 i) 0 = _; exact mset_s _ _ _
  exact ⟨⟨⟨by show (0 : Int) ≤ 0; omega, by show (0 : Int) < 1; omega, by show (1 : Int) ≤ 20; omega⟩, hb.2.1, hb.2.2.1, by rw [e]; exact h0⟩, e⟩
/-- the present moment kept -/
theorem kRel_keep {S : SC} {f f' g : FN} {sl : Int} {P : PL} {i : Int} (h : kRel S f sl P) (i0 : 0 ≤ i) (i1 : i < 3) (hm : mReg g (nowM P)) (ho : moS S (nowM P)) (hs : P.2.2.2.2.2.1 (nowM P).1 = 1) (e0 : f' (3 * i) = g 0) (e1 : f' (3 * i + 1) = g 1) (e2 : f' (3 * i + 2) = g 2) (e3 : ∀ j : Int, ¬ (3 * i ≤ j ∧ j < 3 * i + 3) → f' j = f j) : kRel S f' (bOr sl (bShl 1 i)) (keepP P i) := fun j j0 j1 => by
  obtain ⟨a, b⟩ := h j j0 j1
  show _ = fset P.2.2.2.2.1 i 1 j ∧ (fset P.2.2.2.2.1 i 1 j = 1 → mRow f' (3 * j) (mset P.2.2.2.2.2.2 i (nowM P) j) ∧ moS S (mset P.2.2.2.2.2.2 i (nowM P) j) ∧ P.2.2.2.2.2.1 (mset P.2.2.2.2.2.2 i (nowM P) j).1 = 1)
  rw [bit_or_eq j0 (by omega) i0 (by omega)]
  by_cases c : j = i
  · subst c
    rw [fs_at rfl, mset_s, if_pos rfl]
    exact ⟨rfl, fun _ => ⟨row_of e0 e1 e2 hm, ho, hs⟩⟩
  · rw [fs_off c, mset_n _ _ c, if_neg c]
    exact ⟨a, fun y => ⟨(b y).1.cp (fun x x0 x1 => e3 _ (by omega)), (b y).2.1, (b y).2.2⟩⟩
/-- the law's world in its loop: the object, the script's cells, the moments, the present one, the kept ones -/
def lI (h : AH) (x : Nat) (S : SC) (T : TX) (fp : FN) (sl : Int) : Prop := ∃ (P : PL) (ff fm fk : FN), pAt h x S P T ∧ plI P ∧ h.2 (x + 98) = some (kA 0 64 fp) ∧ h.2 (x + 99) = some (kA 0 64 ff) ∧ h.2 (x + 100) = some (kA 0 3 fm) ∧ h.2 (x + 101) = some (kA 0 9 fk) ∧ hRel S ff P ∧ mReg fm (nowM P) ∧ kRel S fk sl P
