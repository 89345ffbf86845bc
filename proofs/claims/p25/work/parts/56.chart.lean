/-! ===== the chart: what holds of it; the reference's rows ===== -/
def chI (S : SC) (X : CH) : Prop := (0 ≤ X.2.1 ∧ X.2.1 ≤ cntN X.1 1984) ∧ (∀ s : Int, 0 ≤ s → s < 1984 → 0 ≤ X.1 s ∧ X.1 s ≤ 1) ∧
  (∀ k : Int, 0 ≤ k → k < X.2.1 → (0 ≤ X.2.2.1 k ∧ X.2.2.1 k < 1984) ∧ X.1 (X.2.2.1 k) = 1 ∧ cSK S (X.2.2.1 k / 64) = 1 ∧ (X.2.2.2.1 k = -11 ∨ (0 ≤ X.2.2.2.1 k ∧ X.2.2.2.1 k < k)) ∧ X.2.2.2.2.2.1 k = (if X.2.2.2.1 k = -11 then 0 else X.2.2.2.2.2.1 (X.2.2.2.1 k) + 1) ∧ 0 ≤ X.2.2.2.2.2.1 k ∧ X.2.2.2.2.2.1 k ≤ k) ∧
  (∀ e : Int, 0 ≤ e → e < 13 → (0 ≤ X.2.2.2.2.2.2.1 e ∧ X.2.2.2.2.2.2.1 e ≤ 1) ∧ (X.2.2.2.2.2.2.1 e = 1 → X.2.2.2.2.2.2.2.1 e = -11 ∨ (0 ≤ X.2.2.2.2.2.2.2.1 e ∧ X.2.2.2.2.2.2.2.1 e < X.2.1)))
def cR (X : CH) (chn : Int) (Re Ch Fm By Ie Ef Eb : FN) : Prop := chn = X.2.1 ∧ (∀ s : Int, 0 ≤ s → s < 1984 → Re s = X.1 s) ∧ (∀ k : Int, 0 ≤ k → k < X.2.1 → Ch k = X.2.2.1 k ∧ Fm k = X.2.2.2.1 k ∧ By k = X.2.2.2.2.1 k) ∧
  (∀ e : Int, 0 ≤ e → e < 13 → Ie e = X.2.2.2.2.2.2.1 e ∧ (X.2.2.2.2.2.2.1 e = 1 → Ef e = X.2.2.2.2.2.2.2.1 e ∧ Eb e = X.2.2.2.2.2.2.2.2 e))
theorem cntN_z0 : ∀ n : Nat, cntN z0 n = 0 := by
  intro n
  induction n with
  | zero => rfl
  | succ n ih => exact (if_pos rfl).trans ih
theorem chI_0 (S : SC) : chI S (z0, 0, z0, z0, z0, z0, z0, z0, z0) := ⟨⟨Int.le_refl _, by show (0 : Int) ≤ cntN z0 1984; rw [cntN_z0]; exact Int.le_refl _⟩, fun s _ _ => ⟨by show (0 : Int) ≤ 0; omega, by show (0 : Int) ≤ 1; omega⟩, fun k h0 h1 => by
  have h1 : k < 0 := h1
  omega, fun e _ _ => ⟨⟨by show (0 : Int) ≤ 0; omega, by show (0 : Int) ≤ 1; omega⟩, fun z => by
  have z : (0 : Int) = 1 := z
  omega⟩⟩
theorem cSN_rng {S : SC} {B : FN} {v : Int} (hB : rScr B S) (h : cSK S v = 2) (hs : cShown S v) : (-3 ≤ cSN S v ∧ cSN S v ≤ 9) ∧ cSN S v ≠ -1 := by
  have hB1 := hB.1
  unfold cSN
  by_cases a : v = 30
  · rw [if_pos a]; omega
  · rw [if_neg a]
    by_cases b : 0 ≤ v ∧ v < S.1 ∧ v < 29
    · rw [if_pos b]
      have g := hB.2 v b.1 b.2.1
      have hk : cKind S v = 7 := by
        have := g.kr
        unfold cShown at hs
        unfold cSK at h
        (repeat' split at h) <;> omega
      rw [if_neg (by omega)]
      have := g.r7 hk
      omega
    · rw [if_neg b]; omega
theorem chI_mk {S : SC} {B : FN} {X : CH} {nd fl pa op : Int} (hB : rScr B S) (h : chI S X) (n0 : 0 ≤ nd) (n1 : nd ≤ 30) (f0 : 0 ≤ fl) (f1 : fl ≤ 63) (hs : cShown S nd) (hR : X.1 (sit nd fl) = 0) (hp : pa = -11 ∨ (0 ≤ pa ∧ pa < X.2.1)) : chI S (mk S X nd fl pa op) ∧ X.2.1 ≤ (mk S X nd fl pa op).2.1 := by
  obtain ⟨⟨a1, a2⟩, b, c, d⟩ := h
  have s0 : 0 ≤ sit nd fl ∧ sit nd fl < 1984 := by unfold sit; omega
  have hc : cntN (fset X.1 (sit nd fl) 1) 1984 = cntN X.1 1984 + 1 := cntN_set s0.1 hR 1984 (by omega)
  have b' : ∀ s : Int, 0 ≤ s → s < 1984 → 0 ≤ fset X.1 (sit nd fl) 1 s ∧ fset X.1 (sit nd fl) 1 s ≤ 1 := fun s t0 t1 => by
    by_cases e : s = sit nd fl
    · rw [fs_at e]; omega
    · rw [fs_off e]; exact b s t0 t1
  have c' : ∀ s, X.1 s = 1 → fset X.1 (sit nd fl) 1 s = 1 := fun s z => seen_mono z
  have line : chI S (fset X.1 (sit nd fl) 1, X.2) := ⟨⟨a1, by show X.2.1 ≤ cntN (fset X.1 (sit nd fl) 1) 1984; omega⟩, b', fun k k0 k1 => by
    obtain ⟨q1, q2, q3⟩ := c k k0 k1
    exact ⟨q1, c' _ q2, q3⟩, d⟩
  unfold mk
  by_cases k1 : cSK S nd = 1
  · rw [if_pos k1]
    refine ⟨⟨⟨by show 0 ≤ X.2.1 + 1; omega, by show X.2.1 + 1 ≤ cntN (fset X.1 (sit nd fl) 1) 1984; omega⟩, b', fun k t0 t1 => ?_, fun e e0 e1 => ?_⟩, by show X.2.1 ≤ X.2.1 + 1; omega⟩
    · have t1 : k < X.2.1 + 1 := t1
      show (0 ≤ fset _ _ _ k ∧ fset _ _ _ k < 1984) ∧ fset _ _ _ (fset _ _ _ k) = 1 ∧ cSK S (fset _ _ _ k / 64) = 1 ∧ (fset _ _ _ k = -11 ∨ (0 ≤ fset _ _ _ k ∧ fset _ _ _ k < k)) ∧ fset _ _ _ k = (if fset _ _ _ k = -11 then 0 else fset _ _ _ (fset _ _ _ k) + 1) ∧ 0 ≤ fset _ _ _ k ∧ fset _ _ _ k ≤ k
      by_cases e : k = X.2.1
      · rw [fs_at e, fs_at (f := X.2.2.2.1) e, fs_at (f := X.2.2.2.2.2.1) e]
        refine ⟨s0, fs_at rfl, by unfold sit; rw [show (64 * nd + fl) / 64 = nd by omega]; exact k1, by omega, ?_⟩
        rcases hp with z | z
        · rw [if_pos z, if_pos z]; exact ⟨rfl, by omega, by omega⟩
        · rw [if_neg (by omega), if_neg (by omega), fs_off (by omega)]
          obtain ⟨-, -, -, -, -, y1, y2⟩ := c pa z.1 z.2
          exact ⟨rfl, by omega, by omega⟩
      · obtain ⟨q1, q2, q3, q4, q5, q6, q7⟩ := c k t0 (by omega)
        rw [fs_off e, fs_off (f := X.2.2.2.1) e, fs_off (f := X.2.2.2.2.2.1) e]
        refine ⟨q1, c' _ q2, q3, q4, ?_, q6, q7⟩
        rcases q4 with z | z
        · rw [if_pos z]; rw [if_pos z] at q5; exact q5
        · rw [if_neg (by omega), fs_off (by omega)]; rw [if_neg (by omega)] at q5; exact q5
    · obtain ⟨d1, d2⟩ := d e e0 e1
      exact ⟨d1, fun z => (d2 z).elim Or.inl (fun y => Or.inr ⟨y.1, Int.lt_trans y.2 (Int.lt_succ X.2.1)⟩)⟩
  · rw [if_neg k1]
    by_cases k2 : cSK S nd = 2
    · rw [if_pos k2]
      by_cases k3 : X.2.2.2.2.2.2.1 (3 + cSN S nd) = 0
      · rw [if_pos k3]
        refine ⟨⟨line.1, line.2.1, line.2.2.1, fun e e0 e1 => ?_⟩, Int.le_refl _⟩
        obtain ⟨d1, d2⟩ := d e e0 e1
        show (0 ≤ fset _ _ _ e ∧ fset _ _ _ e ≤ 1) ∧ (fset _ _ _ e = 1 → fset _ _ _ e = -11 ∨ (0 ≤ fset _ _ _ e ∧ fset _ _ _ e < X.2.1))
        by_cases q : e = 3 + cSN S nd
        · rw [fs_at q, fs_at (f := X.2.2.2.2.2.2.2.1) q]; exact ⟨by omega, fun _ => hp⟩
        · rw [fs_off q, fs_off (f := X.2.2.2.2.2.2.2.1) q]; exact ⟨d1, d2⟩
      · rw [if_neg k3]; exact ⟨line, Int.le_refl _⟩
    · rw [if_neg k2]; exact ⟨line, Int.le_refl _⟩
