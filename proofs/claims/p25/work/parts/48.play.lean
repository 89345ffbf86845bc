/-! ===== the reference's play against the class's ===== -/
def plRc (S : SC) (ke pr : Int) (M : Int → MO) (iv sn : Int → Int) (W : Int → MO) (fi co ah se : Int) (Mo Sv Iv : Int → Int) : Prop :=
  ((0 ≤ fi ∧ fi < 20) ∧ 0 ≤ pr ∧ pr < ke ∧ ke ≤ 20) ∧ (co = pr + 1 ∧ ah = ke - pr - 1) ∧
  (∀ k : Int, 0 ≤ k → k < ke → rowM Mo (8 * ((fi + k) % 20)) (M k) ∧ moOk S (M k) ∧ sn (M k).1 = 1) ∧
  (∀ j : Int, 0 ≤ j → j < 3 → Iv j = iv j ∧ (0 ≤ iv j ∧ iv j ≤ 1) ∧ (iv j = 1 → rowM Sv (8 * j) (W j) ∧ moOk S (W j) ∧ sn (W j).1 = 1)) ∧
  (∀ v : Int, 0 ≤ v → v < 31 → sn v = bAnd (bShr se v) 1)
def plR (S : SC) (P : PL) (fi co ah se : Int) (Mo Sv Iv : Int → Int) : Prop := plRc S P.1 P.2.1 P.2.2.2.1 P.2.2.2.2.1 P.2.2.2.2.2.1 P.2.2.2.2.2.2 fi co ah se Mo Sv Iv
theorem seen_or {sn : Int → Int} {se v n : Int} (h : ∀ v : Int, 0 ≤ v → v < 31 → sn v = bAnd (bShr se v) 1) (v0 : 0 ≤ v) (v1 : v < 31) (n0 : 0 ≤ n) (n1 : n ≤ 30) : fset sn n 1 v = bAnd (bShr (bOr se (bShl 1 n)) v) 1 := by
  rw [bit_or_eq v0 (by omega) n0 (by omega)]
  by_cases e : v = n
  · rw [fs_at e, if_pos e]
  · rw [fs_off e, if_neg e]; exact h v v0 v1
theorem seen_mono {sn : Int → Int} {n x : Int} (h : sn x = 1) : fset sn n 1 x = 1 := by
  by_cases e : x = n
  · exact fs_at e
  · rw [fs_off e]; exact h
/-- the moments' rows after one is put behind the present one -/
theorem plRc_go {S : SC} {ke pr : Int} {M : Int → MO} {iv sn : Int → Int} {W : Int → MO} {fi co ah se : Int} {Mo Mo' Sv Iv : Int → Int} {mm : MO} (h : plRc S ke pr M iv sn W fi co ah se Mo Sv Iv) (hc : pr + 1 < 20) (hr : rowM Mo' (8 * ((fi + (co + 1 - 1)) % 20)) mm) (hm : moOk S mm)
    (ho : ∀ j, ¬ (8 * ((fi + (co + 1 - 1)) % 20) ≤ j ∧ j < 8 * ((fi + (co + 1 - 1)) % 20) + 8) → Mo' j = Mo j) : plRc S (pr + 1 + 1) (pr + 1) (mset M (pr + 1) mm) iv (fset sn mm.1 1) W fi (co + 1) 0 (bOr se (bShl 1 mm.1)) Mo' Sv Iv := by
  obtain ⟨⟨h1, h2, h3, h4⟩, ⟨h5, h6⟩, h7, h8, h9⟩ := h
  refine ⟨⟨h1, by omega, by omega, by omega⟩, ⟨by omega, by omega⟩, fun k k0 k1 => ?_, fun j j0 j1 => ?_, fun v v0 v1 => seen_or h9 v0 v1 hm.1.1 hm.1.2⟩
  · by_cases e : k = pr + 1
    · subst e
      rw [mset_s]
      refine ⟨by rw [show fi + (pr + 1) = fi + (co + 1 - 1) by omega]; exact hr, hm, fs_at rfl⟩
    · rw [mset_n M mm e]
      obtain ⟨a, b, c⟩ := h7 k k0 (by omega)
      exact ⟨rowM_congr a (fun j j0 j1 => ho j (by omega)), b, seen_mono c⟩
  · obtain ⟨a, b, c⟩ := h8 j j0 j1
    exact ⟨a, b, fun z => ⟨(c z).1, (c z).2.1, seen_mono (c z).2.2⟩⟩
theorem plRc_go20 {S : SC} {ke pr : Int} {M : Int → MO} {iv sn : Int → Int} {W : Int → MO} {fi co ah se : Int} {Mo Mo' Sv Iv : Int → Int} {mm : MO} (h : plRc S ke pr M iv sn W fi co ah se Mo Sv Iv) (hc : ¬ pr + 1 < 20) (hr : rowM Mo' (8 * (((fi + 1) % 20 + (20 - 1)) % 20)) mm) (hm : moOk S mm)
    (ho : ∀ j, ¬ (8 * (((fi + 1) % 20 + (20 - 1)) % 20) ≤ j ∧ j < 8 * (((fi + 1) % 20 + (20 - 1)) % 20) + 8) → Mo' j = Mo j) : plRc S (pr + 1) pr (mset (shM M) pr mm) iv (fset sn mm.1 1) W ((fi + 1) % 20) 20 0 (bOr se (bShl 1 mm.1)) Mo' Sv Iv := by
  obtain ⟨⟨h1, h2, h3, h4⟩, ⟨h5, h6⟩, h7, h8, h9⟩ := h
  refine ⟨⟨by omega, by omega, by omega, by omega⟩, ⟨by omega, by omega⟩, fun k k0 k1 => ?_, fun j j0 j1 => ?_, fun v v0 v1 => seen_or h9 v0 v1 hm.1.1 hm.1.2⟩
  · by_cases e : k = pr
    · subst e
      rw [mset_s]
      refine ⟨by rw [show (fi + 1) % 20 + k = (fi + 1) % 20 + (20 - 1) by omega]; exact hr, hm, fs_at rfl⟩
    · rw [mset_n _ mm e, show shM M k = M (k + 1) from if_pos (by omega)]
      obtain ⟨a, b, c⟩ := h7 (k + 1) (by omega) (by omega)
      rw [show (fi + (k + 1)) % 20 = ((fi + 1) % 20 + k) % 20 by omega] at a
      exact ⟨rowM_congr a (fun j j0 j1 => ho j (by omega)), b, seen_mono c⟩
  · obtain ⟨a, b, c⟩ := h8 j j0 j1
    exact ⟨a, b, fun z => ⟨(c z).1, (c z).2.1, seen_mono (c z).2.2⟩⟩
theorem plR_go {S : SC} {P : PL} {v fi co ah se fi' co' : Int} {Mo Mo' Sv Iv : Int → Int} (h : plR S P fi co ah se Mo Sv Iv) (hn : (co = 20 → fi' = (fi + 1) % 20 ∧ co' = 20) ∧ (co ≠ 20 → fi' = fi ∧ co' = co + 1)) (hr : rowM Mo' (8 * ((fi' + (co' - 1)) % 20)) (goM S P v)) (hm : moOk S (goM S P v))
    (ho : ∀ j, ¬ (8 * ((fi' + (co' - 1)) % 20) ≤ j ∧ j < 8 * ((fi' + (co' - 1)) % 20) + 8) → Mo' j = Mo j) : plR S (goP S P v) fi' co' 0 (bOr se (bShl 1 (goM S P v).1)) Mo' Sv Iv := by
  have hco : co = P.2.1 + 1 := h.2.1.1
  have hs := hm.1
  by_cases c : P.2.1 + 1 < 20
  · obtain ⟨rfl, rfl⟩ := hn.2 (by omega)
    have e : goP S P v = _ := (if_pos c).trans (if_pos ⟨hs.1, by omega⟩)
    rw [e]
    exact plRc_go h c hr hm ho
  · obtain ⟨rfl, rfl⟩ := hn.1 (by have := h.1.2; omega)
    have e : goP S P v = _ := (if_neg c).trans (if_pos ⟨hs.1, by omega⟩)
    rw [e]
    exact plRc_go20 h c hr hm ho
/-- one moment alone, at the first row -/
theorem plRc_one {S : SC} {M : Int → MO} {iv sn : Int → Int} {W : Int → MO} {se : Int} {Mo Sv Iv : Int → Int} {mm : MO} (hr : rowM Mo 0 mm) (hm : moOk S mm) (hseen : ∀ v : Int, 0 ≤ v → v < 31 → sn v = bAnd (bShr se v) 1) (hmm : sn mm.1 = 1)
    (hv : ∀ j : Int, 0 ≤ j → j < 3 → Iv j = iv j ∧ (0 ≤ iv j ∧ iv j ≤ 1) ∧ (iv j = 1 → rowM Sv (8 * j) (W j) ∧ moOk S (W j) ∧ sn (W j).1 = 1)) : plRc S 1 0 (mset M 0 mm) iv sn W 0 1 0 se Mo Sv Iv := by
  refine ⟨⟨by omega, by omega, by omega, by omega⟩, ⟨by omega, by omega⟩, fun k k0 k1 => ?_, hv, hseen⟩
  have e : k = 0 := by omega
  subst e
  rw [mset_s]
  exact ⟨hr, hm, hmm⟩
theorem plR_anew {S : SC} {P : PL} {fi co ah se : Int} {Mo Mo' Sv Iv : Int → Int} (h : plR S P fi co ah se Mo Sv Iv) (hr : rowM Mo' 0 (cCome S (emptyM (P.2.2.2.1 0)) 0)) (hm : moOk S (cCome S (emptyM (P.2.2.2.1 0)) 0)) : plR S (anewP S P) 0 1 0 (bOr se (bShl 1 (cCome S (emptyM (P.2.2.2.1 0)) 0).1)) Mo' Sv Iv := by
  have hs := hm.1
  have e : anewP S P = _ := if_pos ⟨hs.1, by omega⟩
  rw [e]
  obtain ⟨-, -, -, h8, h9⟩ := h
  refine plRc_one hr hm (fun v v0 v1 => seen_or h9 v0 v1 hs.1 hs.2) (fs_at rfl) (fun j j0 j1 => ?_)
  obtain ⟨a, b, c⟩ := h8 j j0 j1
  exact ⟨a, b, fun z => ⟨(c z).1, (c z).2.1, seen_mono (c z).2.2⟩⟩
theorem plR_start {S : SC} {P : PL} {Mo' Sv Iv : Int → Int} (hi : ∀ j : Int, 0 ≤ j → j < 3 → Iv j = 0) (hr : rowM Mo' 0 (cCome S (emptyM (P.2.2.2.1 0)) 0)) (hm : moOk S (cCome S (emptyM (P.2.2.2.1 0)) 0)) : plR S (startP S P) 0 1 0 (bOr 0 (bShl 1 (cCome S (emptyM (P.2.2.2.1 0)) 0).1)) Mo' Sv Iv := by
  have hs := hm.1
  have e : startP S P = _ := if_pos ⟨hs.1, Int.lt_of_le_of_lt hs.2 (by decide)⟩
  rw [e]
  have z0 : ∀ v : Int, 0 ≤ v → v < 31 → fillN 0 31 P.2.2.2.2.2.1 v = bAnd (bShr 0 v) 1 := fun v v0 v1 => by
    rw [bit_zero v0 (by omega)]; exact fillN_in 0 _ 31 v v0 (by omega)
  refine plRc_one hr hm (fun v v0 v1 => seen_or z0 v0 v1 hs.1 hs.2) (fs_at rfl) (fun j j0 j1 => ?_)
  have e0 : fillN 0 3 P.2.2.2.2.1 j = 0 := fillN_in 0 _ 3 j j0 (by omega)
  exact ⟨(hi j j0 j1).trans e0.symm, ⟨by show 0 ≤ fillN 0 3 P.2.2.2.2.1 j; omega, by show fillN 0 3 P.2.2.2.2.1 j ≤ 1; omega⟩, fun z => by
    have z : fillN 0 3 P.2.2.2.2.1 j = 1 := z
    omega⟩
theorem plR_back {S : SC} {P : PL} {t fi co ah se : Int} {Mo Sv Iv : Int → Int} (h : plR S P fi co ah se Mo Sv Iv) (h0 : 0 ≤ t) (h1 : t ≤ P.2.1) : plR S (P.1, P.2.1 - t, P.2.2) fi (co - t) (ah + t) se Mo Sv Iv := by
  obtain ⟨⟨a, b, c, d⟩, ⟨e, f⟩, g⟩ := h
  exact ⟨⟨a, by show 0 ≤ P.2.1 - t; omega, by show P.2.1 - t < P.1; omega, d⟩, ⟨by show co - t = P.2.1 - t + 1; omega, by show ah + t = P.1 - (P.2.1 - t) - 1; omega⟩, g⟩
theorem plR_forth {S : SC} {P : PL} {fi co ah se : Int} {Mo Sv Iv : Int → Int} (h : plR S P fi co ah se Mo Sv Iv) (h1 : P.2.1 + 1 < P.1) : plR S (P.1, P.2.1 + 1, P.2.2) fi (co + 1) (ah - 1) se Mo Sv Iv := by
  obtain ⟨⟨a, b, c, d⟩, ⟨e, f⟩, g⟩ := h
  exact ⟨⟨a, by show 0 ≤ P.2.1 + 1; omega, h1, d⟩, ⟨by show co + 1 = P.2.1 + 1 + 1; omega, by show ah - 1 = P.1 - (P.2.1 + 1) - 1; omega⟩, g⟩
theorem plR_keep {S : SC} {P : PL} {i fi co ah se : Int} {Mo Sv Sv' Iv : Int → Int} (h : plR S P fi co ah se Mo Sv Iv) (h0 : 0 ≤ i) (h1 : i < 3) (hr : rowM Sv' (8 * i) (P.2.2.2.1 P.2.1)) (ho : ∀ j, ¬ (8 * i ≤ j ∧ j < 8 * i + 8) → Sv' j = Sv j) : plR S (keepP P i) fi co ah se Mo Sv' (fset Iv i 1) := by
  obtain ⟨⟨a, b, c, d⟩, ⟨e, f⟩, g, s, n⟩ := h
  refine ⟨⟨a, b, c, d⟩, ⟨e, f⟩, g, fun j j0 j1 => ?_, n⟩
  show fset Iv i 1 j = fset P.2.2.2.2.1 i 1 j ∧ (0 ≤ fset P.2.2.2.2.1 i 1 j ∧ fset P.2.2.2.2.1 i 1 j ≤ 1) ∧ (fset P.2.2.2.2.1 i 1 j = 1 → rowM Sv' (8 * j) (mset P.2.2.2.2.2.2 i (P.2.2.2.1 P.2.1) j) ∧ moOk S (mset P.2.2.2.2.2.2 i (P.2.2.2.1 P.2.1) j) ∧ P.2.2.2.2.2.1 (mset P.2.2.2.2.2.2 i (P.2.2.2.1 P.2.1) j).1 = 1)
  by_cases q : j = i
  · subst q
    rw [mset_s, fs_at rfl, fs_at rfl]
    obtain ⟨-, g1, g2⟩ := g P.2.1 b c
    exact ⟨rfl, by omega, fun _ => ⟨hr, g1, g2⟩⟩
  · rw [mset_n _ _ q, fs_off q, fs_off q]
    obtain ⟨u, v, w⟩ := s j j0 j1
    exact ⟨u, v, fun z => ⟨rowM_congr (w z).1 (fun k k0 k1 => ho k (by omega)), (w z).2⟩⟩
theorem plR_take {S : SC} {P : PL} {i fi co ah se : Int} {Mo Mo' Sv Iv : Int → Int} (h : plR S P fi co ah se Mo Sv Iv) (h0 : 0 ≤ i) (h1 : i < 3) (hi : P.2.2.2.2.1 i = 1) (hr : rowM Mo' 0 (P.2.2.2.2.2.2 i)) : plR S (takeP P i) 0 1 0 (bOr se (bShl 1 (P.2.2.2.2.2.2 i).1)) Mo' Sv Iv := by
  obtain ⟨-, -, -, s, n⟩ := h
  obtain ⟨-, -, w⟩ := s i h0 h1
  obtain ⟨w1, w2, w3⟩ := w hi
  refine plRc_one hr w2 (fun v v0 v1 => ?_) w3 s
  have hw := w2.1
  rw [bit_or_eq v0 (by omega) hw.1 (by omega)]
  by_cases q : v = (P.2.2.2.2.2.2 i).1
  · rw [if_pos q, q]; exact w3
  · rw [if_neg q]; exact n v v0 v1
