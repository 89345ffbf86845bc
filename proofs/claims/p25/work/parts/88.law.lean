/-! ===== the law: letters and numbers are typed ===== -/
theorem spl_eq {T T1 : TX} {l l' : List Int} {n n' : Int} (h : spl T T1 l n) (el : l = l') (en : n = n') : spl T T1 l' n' := by
  subst el; subst en; exact h
theorem sL_ty {d : Nat} {h : AH} {R : RP} {c : Int} {x : Nat} {S : SC} {P : PL} {T T1 : TX} {B : FN} {l : List Int} {n : Int} (ho : pAt h x S P T1) (hB : rScr B S) (hb : plI P) (hT : txI T) (hT1 : txI T1) (hl : spl T T1 l n) (c0 : 0 ≤ c) (c1 : c ≤ 127) (h100 : T1.1 < 100) (k : ∀ h' T2, pAt h' x S P T2 → txI T2 → spl T T2 (l ++ [c]) (n + 1) → Fr h h' x 98 → R (some (vI (T1.1 + 1))) h') : AM m5_type (d + 1) h [vR x, vI c] R := by
  obtain ⟨q1, q2⟩ := spl_ty hT hl c0 c1 h100
  exact s5_type ho hB hb hT1 (fun h' hp F => rI (k h' _ hp (txI_ty hT1) q1 F) q2)
theorem co_6 (S : SC) (P : PL) (T : TX) : coRR S P T 6 = T.1 := rfl
set_option maxRecDepth 100000 in
set_option maxHeartbeats 4000000 in
theorem sL_typesNumber {d : Nat} {h : AH} {R : RP} {v : Int} {x : Nat} {S : SC} {P : PL} {T T1 : TX} {B : FN} {l : List Int} {n : Int} (ho : pAt h x S P T1) (hB : rScr B S) (hb : plI P) (hT : txI T) (hT1 : txI T1) (hl : spl T T1 l n) (v0 : 0 ≤ v) (v1 : v ≤ 99) (h98 : T1.1 < 98) (k : ∀ h' T2, pAt h' x S P T2 → txI T2 → spl T T2 (l ++ dg v) (n + ((dg v).length : Nat)) → Fr h h' x 98 → R (some (vI 1)) h') : AM mL_typesNumber (d + 2) h [vR x, vI v] R := by
  refine AM.of (L := [some (vR x), some (vI v)]) ok_L_typesNumber (by decide) (fun G => Nat.le_of_ble_eq_true rfl) rfl ?_
  have gl := hl.2.1
  have g0 := hT.1
  have g1 := hT1.1
  obtain ⟨fs, x0⟩ := ho.ob
  refine A.il2_1 dL_typesNumber_0 ?_
  refine A.bipush dL_typesNumber_1 ?_
  refine A.ic_lt dL_typesNumber_3 (fun c3 => ?_) (fun c3 => ?_)
  · refine A.al2_0 dL_typesNumber_20 ?_
    refine A.bipush dL_typesNumber_21 ?_
    refine A.il2_1 dL_typesNumber_23 ?_
    refine A.bipush dL_typesNumber_24 ?_
    refine A.irem dL_typesNumber_26 ?_
    refine A.iadd dL_typesNumber_27 ?_
    refine A.v1 dL_typesNumber_28 (sL_ty ho hB hb hT hT1 hl (by omega) (by omega) (by omega) (fun h28 T28 hq28 ht28 hl28 F28 => kS ?_)) (hc := x0)
    have ho := hq28
    have hT1 := ht28
    have hl := hl28
    have gl := hl.2.1
    have g1 := hT1.1
    obtain ⟨fs, x0⟩ := ho.ob
    refine A.if_le dL_typesNumber_31 (fun c31 => by exfalso; omega) (fun c31 => ?_)
    refine A.iconst dL_typesNumber_34 ?_
    refine A.goto dL_typesNumber_35 ?_
    refine A.zret dL_typesNumber_39 ?_
    first
      | (exfalso; omega)
      | exact k _ _ ho hT1 (by rw [dg_1 (by omega)]; exact spl_eq hl (by rw [show v % 10 = v by omega]) rfl) (Fr.rfl.then F28 (by omega) (by omega))
      | exact k _ _ ho hT1 (by rw [dg_2 (by omega)]; exact spl_eq hl (List.append_assoc _ _ _) (by show _ = n + ((2 : Nat) : Int); omega)) ((Fr.rfl.then F14 (by omega) (by omega)).then F28 (by omega) (by omega))
  · refine A.al2_0 dL_typesNumber_6 ?_
    refine A.bipush dL_typesNumber_7 ?_
    refine A.il2_1 dL_typesNumber_9 ?_
    refine A.bipush dL_typesNumber_10 ?_
    refine A.idiv dL_typesNumber_12 ?_
    refine A.iadd dL_typesNumber_13 ?_
    refine A.v1 dL_typesNumber_14 (sL_ty ho hB hb hT hT1 hl (by omega) (by omega) (by omega) (fun h14 T14 hq14 ht14 hl14 F14 => kS ?_)) (hc := x0)
    have ho := hq14
    have hT1 := ht14
    have hl := hl14
    have gl := hl.2.1
    have g1 := hT1.1
    obtain ⟨fs, x0⟩ := ho.ob
    refine A.if_le dL_typesNumber_17 (fun c17 => by exfalso; omega) (fun c17 => ?_)
    refine A.al2_0 dL_typesNumber_20 ?_
    refine A.bipush dL_typesNumber_21 ?_
    refine A.il2_1 dL_typesNumber_23 ?_
    refine A.bipush dL_typesNumber_24 ?_
    refine A.irem dL_typesNumber_26 ?_
    refine A.iadd dL_typesNumber_27 ?_
    refine A.v1 dL_typesNumber_28 (sL_ty ho hB hb hT hT1 hl (by omega) (by omega) (by omega) (fun h28 T28 hq28 ht28 hl28 F28 => kS ?_)) (hc := x0)
    have ho := hq28
    have hT1 := ht28
    have hl := hl28
    have gl := hl.2.1
    have g1 := hT1.1
    obtain ⟨fs, x0⟩ := ho.ob
    refine A.if_le dL_typesNumber_31 (fun c31 => by exfalso; omega) (fun c31 => ?_)
    refine A.iconst dL_typesNumber_34 ?_
    refine A.goto dL_typesNumber_35 ?_
    refine A.zret dL_typesNumber_39 ?_
    first
      | (exfalso; omega)
      | exact k _ _ ho hT1 (by rw [dg_1 (by omega)]; exact spl_eq hl (by rw [show v % 10 = v by omega]) rfl) (Fr.rfl.then F28 (by omega) (by omega))
      | exact k _ _ ho hT1 (by rw [dg_2 (by omega)]; exact spl_eq hl (List.append_assoc _ _ _) (by show _ = n + ((2 : Nat) : Int); omega)) ((Fr.rfl.then F14 (by omega) (by omega)).then F28 (by omega) (by omega))
/-- goals, packed by 5 bits -/
def pk5 (G : Int) (l : List Int) : Prop := (0 ≤ G ∧ G.toNat < 32 ^ l.length) ∧ ∀ j : Nat, j < l.length → bAnd (bShr G (5 * j)) 31 = l.getD j 0
theorem pk5_0 : pk5 0 [] := ⟨⟨Int.le_refl 0, (by decide : (0 : Int).toNat < 32 ^ 0)⟩, fun j hj => absurd hj (Nat.not_lt_zero _)⟩
theorem get5 {G : Int} {s : Nat} {m : Int} (hm : m = s) (G0 : 0 ≤ G) (G1 : G ≤ 2147483647) (hs : s ≤ 31) : bAnd (bShr G m) 31 = ((G.toNat / 2 ^ s % 32 : Nat) : Int) := by
  subst hm; exact getSh (w := 5) (by decide) G0 G1 hs (by decide)
theorem get4 {G : Int} {s : Nat} {m : Int} (hm : m = s) (G0 : 0 ≤ G) (G1 : G ≤ 2147483647) (hs : s ≤ 31) : bAnd (bShr G m) 15 = ((G.toNat / 2 ^ s % 16 : Nat) : Int) := by
  subst hm; exact getSh (w := 4) (by decide) G0 G1 hs (by decide)
theorem pk5_s {G c : Int} {l : List Int} (h : pk5 G l) (hl : l.length ≤ 2) (c0 : 0 ≤ c) (c1 : c ≤ 31) : pk5 (bOr G (bShl c (5 * (l.length : Nat)))) (l ++ [c]) := by
  obtain ⟨⟨a0, a1⟩, b⟩ := h
  have fin : ∀ (k s : Nat) (G' : Int), l.length = k → s = 5 * k → G' = G + ((c.toNat * 2 ^ s : Nat) : Int) → k ≤ 2 → G.toNat < 32 ^ k → pk5 G' (l ++ [c]) := fun k s G' e es eG hk hG => by
    rcases (by omega : k = 0 ∨ k = 1 ∨ k = 2) with z | z | z <;> subst z <;> subst es <;> simp only [Nat.reducePow, Nat.reduceMul] at eG hG
    · refine ⟨⟨by omega, by rw [List.length_append, e]; show G'.toNat < 32; omega⟩, fun j hj => ?_⟩
      rw [List.length_append, e] at hj
      have hj : j < 1 := hj
      obtain rfl : j = 0 := by omega
      rw [getD_snoc, if_neg (by omega), if_pos (by omega), get5 (s := 0) (by rfl) (by omega) (by omega) (by decide)]
      simp only [Nat.reducePow]; omega
    · refine ⟨⟨by omega, by rw [List.length_append, e]; show G'.toNat < 1024; omega⟩, fun j hj => ?_⟩
      rw [List.length_append, e] at hj
      have hj : j < 2 := hj
      rcases (by omega : j = 0 ∨ j = 1) with q | q <;> subst q
      · have b0 := b 0 (by omega)
        rw [get5 (s := 0) (by rfl) (by omega) (by omega) (by decide)] at b0
        rw [getD_snoc, if_pos (by omega), ← b0, get5 (s := 0) (by rfl) (by omega) (by omega) (by decide)]
        simp only [Nat.reducePow]; omega
      · rw [getD_snoc, if_neg (by omega), if_pos (by omega), get5 (s := 5) (by rfl) (by omega) (by omega) (by decide)]
        simp only [Nat.reducePow]; omega
    · refine ⟨⟨by omega, by rw [List.length_append, e]; show G'.toNat < 32768; omega⟩, fun j hj => ?_⟩
      rw [List.length_append, e] at hj
      have hj : j < 3 := hj
      rcases (by omega : j = 0 ∨ j = 1 ∨ j = 2) with q | q | q <;> subst q
      · have b0 := b 0 (by omega)
        rw [get5 (s := 0) (by rfl) (by omega) (by omega) (by decide)] at b0
        rw [getD_snoc, if_pos (by omega), ← b0, get5 (s := 0) (by rfl) (by omega) (by omega) (by decide)]
        simp only [Nat.reducePow]; omega
      · have b0 := b 1 (by omega)
        rw [get5 (s := 5) (by rfl) (by omega) (by omega) (by decide)] at b0
        rw [getD_snoc, if_pos (by omega), ← b0, get5 (s := 5) (by rfl) (by omega) (by omega) (by decide)]
        simp only [Nat.reducePow]; omega
      · rw [getD_snoc, if_neg (by omega), if_pos (by omega), get5 (s := 10) (by rfl) (by omega) (by omega) (by decide)]
        simp only [Nat.reducePow]; omega
  refine fin l.length (5 * l.length) _ rfl rfl ?_ hl a1
  rw [show (5 : Int) * (l.length : Nat) = ((5 * l.length : Nat) : Int) by omega]
  rcases (by omega : l.length = 0 ∨ l.length = 1 ∨ l.length = 2) with z | z | z <;> rw [z] at a1 ⊢ <;> exact orSh (w := 5) a0 c0 (by simp only [Nat.reducePow]; omega) (by simp only [Nat.reducePow, Nat.reduceMul] at a1 ⊢; omega) (by decide) (by simp only [Nat.reducePow, Nat.reduceMul] at a1 ⊢; omega)
/-- locks, packed by 4 bits -/
def pk4 (G : Int) (l : List Int) : Prop := (0 ≤ G ∧ G.toNat < 16 ^ l.length) ∧ ∀ j : Nat, j < l.length → bAnd (bShr G (4 * j)) 15 = l.getD j 0
theorem pk4_0 : pk4 0 [] := ⟨⟨Int.le_refl 0, (by decide : (0 : Int).toNat < 16 ^ 0)⟩, fun j hj => absurd hj (Nat.not_lt_zero _)⟩
theorem pk4_s {G c : Int} {l : List Int} (h : pk4 G l) (hl : l.length ≤ 2) (c0 : 0 ≤ c) (c1 : c ≤ 15) : pk4 (bOr G (bShl c (4 * (l.length : Nat)))) (l ++ [c]) := by
  obtain ⟨⟨a0, a1⟩, b⟩ := h
  have fin : ∀ (k s : Nat) (G' : Int), l.length = k → s = 4 * k → G' = G + ((c.toNat * 2 ^ s : Nat) : Int) → k ≤ 2 → G.toNat < 16 ^ k → pk4 G' (l ++ [c]) := fun k s G' e es eG hk hG => by
    rcases (by omega : k = 0 ∨ k = 1 ∨ k = 2) with z | z | z <;> subst z <;> subst es <;> simp only [Nat.reducePow, Nat.reduceMul] at eG hG
    · refine ⟨⟨by omega, by rw [List.length_append, e]; show G'.toNat < 16; omega⟩, fun j hj => ?_⟩
      rw [List.length_append, e] at hj
      have hj : j < 1 := hj
      obtain rfl : j = 0 := by omega
      rw [getD_snoc, if_neg (by omega), if_pos (by omega), get4 (s := 0) (by rfl) (by omega) (by omega) (by decide)]
      simp only [Nat.reducePow]; omega
    · refine ⟨⟨by omega, by rw [List.length_append, e]; show G'.toNat < 256; omega⟩, fun j hj => ?_⟩
      rw [List.length_append, e] at hj
      have hj : j < 2 := hj
      rcases (by omega : j = 0 ∨ j = 1) with q | q <;> subst q
      · have b0 := b 0 (by omega)
        rw [get4 (s := 0) (by rfl) (by omega) (by omega) (by decide)] at b0
        rw [getD_snoc, if_pos (by omega), ← b0, get4 (s := 0) (by rfl) (by omega) (by omega) (by decide)]
        simp only [Nat.reducePow]; omega
      · rw [getD_snoc, if_neg (by omega), if_pos (by omega), get4 (s := 4) (by rfl) (by omega) (by omega) (by decide)]
        simp only [Nat.reducePow]; omega
    · refine ⟨⟨by omega, by rw [List.length_append, e]; show G'.toNat < 4096; omega⟩, fun j hj => ?_⟩
      rw [List.length_append, e] at hj
      have hj : j < 3 := hj
      rcases (by omega : j = 0 ∨ j = 1 ∨ j = 2) with q | q | q <;> subst q
      · have b0 := b 0 (by omega)
        rw [get4 (s := 0) (by rfl) (by omega) (by omega) (by decide)] at b0
        rw [getD_snoc, if_pos (by omega), ← b0, get4 (s := 0) (by rfl) (by omega) (by omega) (by decide)]
        simp only [Nat.reducePow]; omega
      · have b0 := b 1 (by omega)
        rw [get4 (s := 4) (by rfl) (by omega) (by omega) (by decide)] at b0
        rw [getD_snoc, if_pos (by omega), ← b0, get4 (s := 4) (by rfl) (by omega) (by omega) (by decide)]
        simp only [Nat.reducePow]; omega
      · rw [getD_snoc, if_neg (by omega), if_pos (by omega), get4 (s := 8) (by rfl) (by omega) (by omega) (by decide)]
        simp only [Nat.reducePow]; omega
  refine fin l.length (4 * l.length) _ rfl rfl ?_ hl a1
  rw [show (4 : Int) * (l.length : Nat) = ((4 * l.length : Nat) : Int) by omega]
  rcases (by omega : l.length = 0 ∨ l.length = 1 ∨ l.length = 2) with z | z | z <;> rw [z] at a1 ⊢ <;> exact orSh (w := 4) a0 c0 (by simp only [Nat.reducePow]; omega) (by simp only [Nat.reducePow, Nat.reduceMul] at a1 ⊢; omega) (by decide) (by simp only [Nat.reducePow, Nat.reduceMul] at a1 ⊢; omega)
theorem lkc_og {o : Int × Int} (h : ogOk o) : lkc (ogV o).2 = o.2 := by
  obtain ⟨g, k⟩ := o
  obtain ⟨-, k0, k1⟩ := h
  have k0 : 0 ≤ k := k0
  have k1 : k ≤ 6 := k1
  show lkc (if k = 0 then 0 else if k % 2 = 1 then 1 else 2, if k = 0 then -11 else (k - 1) / 2) = k
  by_cases z : k = 0
  · rw [if_pos z, if_pos z, z]; rfl
  · rw [if_neg z, if_neg z]
    by_cases y : k % 2 = 1
    · rw [if_pos y]
      exact (if_neg (by show ¬ (1 : Int) = 0; decide) : lkc (1, (k - 1) / 2) = _).trans (by show 1 + 2 * ((k - 1) / 2) = k; omega)
    · rw [if_neg y]
      exact (if_neg (by show ¬ (2 : Int) = 0; decide) : lkc (2, (k - 1) / 2) = _).trans (by show 2 + 2 * ((k - 1) / 2) = k; omega)
theorem getD_map {os : List (Int × Int)} {j : Nat} (h : j < os.length) : (os.map ogV).getD j (0, 0, 0) = ogV (os.getD j (0, 0)) ∧ (os.map Prod.fst).getD j 0 = (os.getD j (0, 0)).1 ∧ (os.map Prod.snd).getD j 0 = (os.getD j (0, 0)).2 := by
  simp [List.getD_eq_getElem?_getD, h]
theorem getD_mem {os : List (Int × Int)} {j : Nat} (h : j < os.length) : os.getD j (0, 0) ∈ os := by
  have e : os.getD j (0, 0) = os[j] := by simp [List.getD_eq_getElem?_getD, h]
  rw [e]; exact List.getElem_mem h
theorem pIs_6 {fp : FN} {j : Int} {os : List (Int × Int)} (hO : ∀ p, p ∈ os → ogOk p) (e0 : fp (4 * j) = 6) (e1 : fp (4 * j + 1) = (os.length : Nat)) (e2 : pk5 (fp (4 * j + 2)) (os.map Prod.fst)) (e3 : pk4 (fp (4 * j + 3)) (os.map Prod.snd)) : pIs fp j (6, [], os.map ogV) := by
  refine ⟨e0, fun z => absurd rfl z, fun _ => ⟨by rw [e1]; show _ = ((os.map ogV).length : Int); rw [List.length_map], fun o ho => ?_⟩⟩
  have ho : o < os.length := by have q : o < (os.map ogV).length := ho; rwa [List.length_map] at q
  obtain ⟨g1, g2, g3⟩ := getD_map ho
  show _ = ((os.map ogV).getD o (0, 0, 0)).1 ∧ _ = lkc ((os.map ogV).getD o (0, 0, 0)).2
  rw [g1, lkc_og (hO _ (getD_mem ho))]
  exact ⟨(e2.2 o (by rw [List.length_map]; exact ho)).trans g2, (e3.2 o (by rw [List.length_map]; exact ho)).trans g3⟩
/-- the letters of options -/
def oL : List (Int × Int) → List Int
  | [] => []
  | o :: os => og o ++ opT os
theorem oL_1 (o : Int × Int) : oL ([] ++ [o]) = og o := List.append_nil _
theorem oL_s {os : List (Int × Int)} (o : Int × Int) (h : os.length ≠ 0) : oL (os ++ [o]) = oL os ++ (44 :: og o) := by
  cases os with
  | nil => exact absurd rfl h
  | cons p os =>
    show og p ++ opT (os ++ [o]) = og p ++ opT os ++ _
    rw [opT_s, List.append_assoc]
theorem og_0 (g : Int) : og (g, 0) = dg g := List.append_nil _
theorem og_o {g k : Int} (h : k ≠ 0) (h1 : k % 2 = 1) : og (g, k) = dg g ++ [63, 48 + (k - 1) / 2] := by
  show dg g ++ (if k = 0 then [] else [if k % 2 = 1 then 63 else 33, 48 + (k - 1) / 2]) = _
  rw [if_neg h, if_pos h1]
theorem og_e {g k : Int} (h : k ≠ 0) (h1 : ¬ k % 2 = 1) : og (g, k) = dg g ++ [33, 48 + (k - 1) / 2] := by
  show dg g ++ (if k = 0 then [] else [if k % 2 = 1 then 63 else 33, 48 + (k - 1) / 2]) = _
  rw [if_neg h, if_neg h1]
