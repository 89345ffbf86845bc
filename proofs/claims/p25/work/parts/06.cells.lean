/-! ===== the abstract machine's rows: fields, arrays, new cells, returns ===== -/
def FL (own : String) (idx ci k : Nat) : Prop := ∃ (C : String) (T : u_T) (N : Nat), vwCl[ci]? = some (C, T, N) ∧ k < N ∧ (∀ w ∈ u_ws C T N, w ∈ tG) ∧ Jvm.Cond.fieldLink own idx (T k).1 (T k).2.1 (T k).2.2.1 ∈ tG
/-- what a store needs to know of a field, beside its link: type, final or not, whose it is -/
def FP (own : String) (ci k : Nat) (ty : FieldType) (fin : Bool) : Prop := ∃ (C : String) (T : u_T) (N : Nat) (ty0 : Nat → FieldType), vwCl[ci]? = some (C, T, N) ∧ (∀ j, j < N → parseFieldDescriptor (T j).2.2.1 = some (ty0 j)) ∧ (∀ a, a < N → ∀ b, b < N → a ≠ b → (T a).2.1 ≠ (T b).2.1) ∧ parseFieldDescriptor (T k).2.2.1 = some ty ∧ (T k).2.2.2 = fin ∧ (fin = true → (T k).1 = own)
def tyOK (ty : FieldType) (v : AV) : Prop := match ty, v with
  | .int, .inl _ => True
  | .long, .inr (.inr (.inl _)) => True
  | .object _, .inr (.inl _) => True
  | .array _, .inr (.inl _) => True
  | _, _ => False
theorem tyOK.fits {ty : FieldType} {v : AV} (G : GD) (h : tyOK ty v) : narrow ty (cv G v) = cv G v ∧ fits ty (cv G v) = true := by
  cases ty <;> rcases v with z | r | x | b <;> first | exact absurd h (fun q => q) | exact ⟨rfl, rfl⟩ | (cases r <;> exact ⟨rfl, rfl⟩)
theorem P1 {D : va_G} {q : Nat × va_E} {H : Heap} (h : va_at D vwCl q H) : va_P D vwCl [q] H := fun k x hx => by
  match k, hx with
  | 0, hx => cases hx; exact h
  | k + 1, hx => simp at hx
theorem GK.arr {G : GD} {s : State} (hK : GK G s) (ty : Nat) : ArrOfT s (gC G ty) (tyF ty) ∧ va_RA s (gC G ty) (tyF ty) := by
  match ty with
  | 0 => exact hK.1.2 0 _ rfl
  | 1 => exact hK.1.2 1 _ rfl
  | ty + 2 => exact hK.1.2 2 _ rfl
theorem GK.arq {G : GD} {s : State} (hK : GK G s) : ArrOfT s (gQ G) (.object RX1) ∧ va_RA s (gQ G) (.object RX1) := hK.1.2 3 _ rfl
theorem map_get (G : GD) {fs : List AV} {k : Nat} {v : AV} (h : fs[k]? = some v) : (fs.map (cv G))[k]? = some (cv G v) := by rw [List.getElem?_map, h]; rfl
theorem cell_set (cA : ClassId) (N : Nat) (f : Int → Int) {i v : Int} {x : Value} (h0 : 0 ≤ i) (h1 : i < N) (hi : -2147483648 ≤ i ∧ i ≤ 2147483647) (hx : x = .int (Int32.ofInt v)) :
    (vp_cell cA (N, .inl (fun j : Nat => Int32.ofInt (f j)))).setSlot (Int32.ofInt i).toNatClampNeg x = vp_cell cA (N, .inl (fun j : Nat => Int32.ofInt (fset f i v j))) := by
  subst hx
  rw [vp_cell_i, vp_cell_i, arrV_store, i32_cl hi]
  congr 1
  funext q
  by_cases hq : q = i.toNat
  · have e : (q : Int) = i := by omega
    simp only [updV, fset, if_pos hq, if_pos e]
  · have e : ¬ (q : Int) = i := by omega
    simp [updV, fset, hq, e]
theorem cell_setq (cA : ClassId) (N : Nat) (g : Int → Option Nat) {i : Int} {r : Option Nat} (h0 : 0 ≤ i) (h1 : i < N) (hi : -2147483648 ≤ i ∧ i ≤ 2147483647) :
    (vp_cell cA (N, .inr (.inr (.inr (.inr (fun j : Nat => g j)))))).setSlot (Int32.ofInt i).toNatClampNeg (va_rf r) = vp_cell cA (N, .inr (.inr (.inr (.inr (fun j : Nat => gset g i r j))))) := by
  rw [vp_cell_q, vp_cell_q, arrV_store, i32_cl hi]
  congr 1
  funext q
  by_cases hq : q = i.toNat
  · have e : (q : Int) = i := by omega
    simp only [updV, gset, if_pos hq, if_pos e]
  · have e : ¬ (q : Int) = i := by omega
    simp [updV, gset, hq, e]
theorem Fr.put {h : AH} {a : Nat} {c : AC} : Fr h (hput h a c) a 1 := ⟨rfl, fun q hq => by
  have e : ¬ q = a := fun e => hq ⟨by omega, by omega⟩
  simp [hput, e]⟩
theorem hput_at {h : AH} {a : Nat} {c : AC} : (hput h a c).2 a = some c := by simp [hput]
section CELLS
variable {M : MT} {fr : Nat} {kb : Nat × Nat} {pc n : Nat} {L : List (Option AV)} {S : List AV} {h : AH} {Rp : RP}
def Dgf (M : MT) (pc ci k n : Nat) : Prop := ∃ idx : Nat, decode (mB M) pc = .ok (.getfield idx, 3) ∧ FL (mY M).cls idx ci k ∧ pc + 3 = n
def Dpf (M : MT) (pc ci k : Nat) (ty : FieldType) (fin : Bool) (n : Nat) : Prop := ∃ idx : Nat, decode (mB M) pc = .ok (.putfield idx, 3) ∧ FL (mY M).cls idx ci k ∧ FP (mY M).cls ci k ty fin ∧ pc + 3 = n
theorem A.getf {a ci k : Nat} {fs : List AV} {v : AV} (hd : Dgf M pc ci k n) (kk : AW M fr kb n L (v :: S) h Rp) (hc : h.2 a = some (kO ci fs) := by assumption) (hv : fs[k]? = some v := by rfl) : AW M fr kb pc L (vR a :: S) h Rp := by
  intro p l e R s m args below meth c Q G X H locs cells slots ls hH hS hL hV hcl hsl
  obtain ⟨idx, hd, ⟨C, T, N, h1, h2, h3, h4⟩, rfl⟩ := hd
  obtain ⟨g1, g2, g3⟩ := hH.2.1 a _ hc
  exact va_get (D := G.1) (ci := ci) (v := cv G v) (C := C) (T := T) (N := N) X.1.1 X.1.2.1 X.1.2.2.2.2 h3 X.1.2.2.2.1 X.2.1.1.1 (P1 g1) 0 rfl h1 k h2 (X.1.2.2.2.2 _ h4) (fun _ q => q) (map_get G hv) hd (kk p l e R s m args below meth c Q G X H locs cells slots ls hH hS hL (vok_c (g2 v (List.mem_of_getElem? hv)) (vok_t hV)) hcl hsl)
theorem vok_set {fs : List AV} {k : Nat} {v : AV} (h : ∀ w ∈ fs, vok w) (hv : vok v) : ∀ w ∈ fs.set k v, vok w := fun w hw => by
  rcases List.mem_or_eq_of_mem_set hw with q | q
  · exact h w q
  · rw [q]; exact hv
theorem A.putf {a ci k : Nat} {fs : List AV} {v : AV} {ty : FieldType} (hd : Dpf M pc ci k ty false n) (kk : ∀ h' : AH, h'.2 a = some (kO ci (fs.set k v)) → Fr h h' a 1 → AW M fr kb n L S h' Rp) (hc : h.2 a = some (kO ci fs) := by assumption) (hk : k < fs.length := by decide) (ht : tyOK ty v := by trivial) : AW M fr kb pc L (v :: vR a :: S) h Rp := by
  intro p l e R s m args below meth c Q G X H locs cells slots ls hH hS hL hV hcl hsl
  obtain ⟨idx, hd, ⟨C, T, N, h1, h2, h3, h4⟩, ⟨C', T', N', ty0, f1, f2, f3, f4, f5, -⟩, rfl⟩ := hd
  cases h1.symm.trans f1
  obtain ⟨g1, g2, g3⟩ := hH.2.1 a _ hc
  have hts := X.1.2.2.2.2
  have hap := va_apart (own := (mY M).cls) hts h3 ty0 f2 f3 X.2.1.1.1 h1
  obtain ⟨r, q0, cell, q1, q2, q3, q4⟩ := id g1
  have hr : r = (C, T, N) := Option.some.inj (q0.symm.trans h1)
  subst hr
  obtain ⟨hSl, hfc, kC, hkC, hkind⟩ := X.2.1.1.1.1 ci _ h1
  obtain ⟨cf, kf, fi, f, hi, hsl'⟩ := hSl k h2
  have hlay := hts _ (h3 _ (u_in_lay h2))
  unfold u_lay at hlay
  rw [if_neg (by rw [f5]; decide)] at hlay
  have hst := (u_facts hfc hkC (u_lays hts h3 h2) hi).1
  have h6 := u_store hfc hkC hkind hlay hi f4 (ht.fits G).1 (ht.fits G).2
  refine W.putK X.1.1 X.1.2.1 (f := f) ⟨X.1.2.2.2.1, hts _ h4, ⟨_, _, _, hi⟩, hst⟩ (by rw [q2]; exact h6) q1 q3 (by rw [hsl']; exact k2_hasslot (q4 k h2)) rfl rfl hd fun H' e1 e2 e3 => ?_
  rw [hsl'] at e1 ⊢
  have hat : va_at G.1 vwCl (a, enc G (kO ci (fs.set k v))) H' := by
    refine ⟨_, h1, t_OB.to (V := updV (vp_V (fs.map (cv G))) k (cv G v)) ⟨_, e1, q2, q3, t_set q4 hap h2 _⟩ (fun j _ => ?_)⟩
    rw [vp_updV_set (by simpa using hk)]
    show vp_V ((fs.map (cv G)).set k (cv G v)) j = vp_V ((fs.set k v).map (cv G)) j
    rw [List.map_set]
  exact kk (hput h a (kO ci (fs.set k v))) hput_at Fr.put p l e R s m args below meth c Q G X H' _ cells slots ls (hH.store hc e2 e3 hat (vok_set g2 (vok_h hV))) (hS.put e2 e3 g3) hL (vok_t (vok_t hV)) hcl hsl
theorem A.putF {a ci k : Nat} {fs : List AV} {v : AV} {ty : FieldType} (hd : Dpf M pc ci k ty true n) (kk : ∀ h' : AH, h'.2 a = some (kO ci (fs.set k v)) → Fr h h' a 1 → AW M fr kb n L S h' Rp) (hI : mI M = true := by rfl) (hc : h.2 a = some (kO ci fs) := by assumption) (hk : k < fs.length := by decide) (ht : tyOK ty v := by trivial) : AW M fr kb pc L (v :: vR a :: S) h Rp := by
  intro p l e R s m args below meth c Q G X H locs cells slots ls hH hS hL hV hcl hsl
  obtain ⟨idx, hd, ⟨C, T, N, h1, h2, h3, h4⟩, ⟨C', T', N', ty0, f1, f2, f3, f4, f5, f6⟩, rfl⟩ := hd
  cases h1.symm.trans f1
  obtain ⟨g1, g2, g3⟩ := hH.2.1 a _ hc
  have hts := X.1.2.2.2.2
  have hap := va_apart (own := (mY M).cls) hts h3 ty0 f2 f3 X.2.1.1.1 h1
  obtain ⟨r, q0, cell, q1, q2, q3, q4⟩ := id g1
  have hr : r = (C, T, N) := Option.some.inj (q0.symm.trans h1)
  subst hr
  obtain ⟨hSl, hfc, kC, hkC, hkind⟩ := X.2.1.1.1.1 ci _ h1
  obtain ⟨cf, kf, fi, f, hi, hsl'⟩ := hSl k h2
  have hlay := hts _ (h3 _ (u_in_lay h2))
  unfold u_lay at hlay
  rw [if_pos f5] at hlay
  have hst := (u_facts hfc hkC (u_lays hts h3 h2) hi).1
  have hcf : m.cls = cf := by
    obtain ⟨_, _, c', _, _, _, -, -, hf', -, -, -, hown2, -⟩ := Cond.laysFinal_spec hlay
    have e1 : c' = cf := by have := hi.symm.trans hf'; simp at this; exact this.1.symm
    rw [f6 rfl] at hown2
    rw [← e1]; exact Option.some.inj (X.1.2.2.2.1.symm.trans hown2)
  have h6 := u_fits hfc hkC hkind (Or.inr hlay) hi f4 (ht.fits G).1 (ht.fits G).2
  refine W.putFinK X.1.1 X.1.2.1 X.1.2.2.2.1 (hts _ h4) hi hst hcf (X.2.1.2.2.1 hI) (by rw [q2]; exact h6) q1 q3 (by rw [hsl']; exact k2_hasslot (q4 k h2)) rfl rfl hd fun H' e1 e2 e3 => ?_
  rw [hsl'] at e1 ⊢
  have hat : va_at G.1 vwCl (a, enc G (kO ci (fs.set k v))) H' := by
    refine ⟨_, h1, t_OB.to (V := updV (vp_V (fs.map (cv G))) k (cv G v)) ⟨_, e1, q2, q3, t_set q4 hap h2 _⟩ (fun j _ => ?_)⟩
    rw [vp_updV_set (by simpa using hk)]
    show vp_V ((fs.map (cv G)).set k (cv G v)) j = vp_V ((fs.set k v).map (cv G)) j
    rw [List.map_set]
  exact kk (hput h a (kO ci (fs.set k v))) hput_at Fr.put p l e R s m args below meth c Q G X H' _ cells slots ls (hH.store hc e2 e3 hat (vok_set g2 (vok_h hV))) (hS.put e2 e3 g3) hL (vok_t (vok_t hV)) hcl hsl
/-! arrays -/
theorem i32_idx {i : Int} (h0 : 0 ≤ i) (hi : -2147483648 ≤ i ∧ i ≤ 2147483647) : (((Int32.ofInt i).toNatClampNeg : Nat) : Int) = i := by
  rw [i32_cl hi]; omega
theorem vin_vok {ty : Nat} {z : Int} (h : vin ty z) : vok (vI z) := by
  match ty, h with
  | 0, h => exact h
  | 1, h => exact ⟨by have := h.1; omega, by have := h.2; omega⟩
  | ty + 2, h => exact ⟨by have := h.1; omega, by have := h.2; omega⟩
theorem cok_at {ty N : Nat} {f : Int → Int} {i : Int} (h : cok (kA ty N f)) (h0 : 0 ≤ i) (h1 : i < N) : vok (vI (f i)) := by
  have := h.2 i.toNat (by omega)
  rw [show ((i.toNat : Nat) : Int) = i by omega] at this
  exact vin_vok this
theorem A.iald {a N : Nat} {f : Int → Int} {i : Int} (hd : Dc M pc .iaload 1 n) (kk : AW M fr kb n L (vI (f i) :: S) h Rp) (hc : h.2 a = some (kA 0 N f) := by assumption) (h0 : 0 ≤ i := by omega) (h1 : i < N := by omega) : AW M fr kb pc L (vI i :: vR a :: S) h Rp := by
  intro p l e R s m args below meth c Q G X H locs cells slots ls hH hS hL hV hcl hsl
  obtain ⟨hd, rfl⟩ := hd
  obtain ⟨g1, g2, g3⟩ := hH.2.1 a _ hc
  have k1 := kk p l e R s m args below meth c Q G X H locs cells slots ls hH hS hL (vok_c (cok_at g2 h0 h1) (vok_t (vok_t hV))) hcl hsl
  refine va_iald X.1.1 X.1.2.1 X.2.1.1.1 (P1 g1) 0 0 rfl rfl (i32_in h0 h1 g2.1) hd ?_
  rw [i32_idx h0 (vok_h hV)]
  exact k1
theorem A.bald {a N ty : Nat} {f : Int → Int} {i : Int} (hd : Dc M pc .baload 1 n) (kk : AW M fr kb n L (vI (f i) :: S) h Rp) (hc : h.2 a = some (kA ty N f) := by assumption) (h0 : 0 ≤ i := by omega) (h1 : i < N := by omega) (hty : ty = 1 ∨ ty = 2 := by decide) : AW M fr kb pc L (vI i :: vR a :: S) h Rp := by
  intro p l e R s m args below meth c Q G X H locs cells slots ls hH hS hL hV hcl hsl
  obtain ⟨hd, rfl⟩ := hd
  obtain ⟨g1, g2, g3⟩ := hH.2.1 a _ hc
  have k1 := kk p l e R s m args below meth c Q G X H locs cells slots ls hH hS hL (vok_c (cok_at g2 h0 h1) (vok_t (vok_t hV))) hcl hsl
  rcases hty with rfl | rfl
  · refine va_bald X.1.1 X.1.2.1 X.2.1.1.1 (P1 g1) 0 1 rfl rfl (i32_in h0 h1 g2.1) hd ?_
    rw [i32_idx h0 (vok_h hV)]
    exact k1
  · refine va_zald X.1.1 X.1.2.1 X.2.1.1.1 (P1 g1) 0 2 rfl rfl (i32_in h0 h1 g2.1) hd ?_
    rw [i32_idx h0 (vok_h hV)]
    exact k1
theorem A.qald {a N : Nat} {g : Int → Option Nat} {i : Int} {b : Nat} (hd : Dc M pc .aaload 1 n) (hg : g i = some b) (kk : AW M fr kb n L (vR b :: S) h Rp) (hc : h.2 a = some (kQ N g) := by assumption) (h0 : 0 ≤ i := by omega) (h1 : i < N := by omega) : AW M fr kb pc L (vI i :: vR a :: S) h Rp := by
  intro p l e R s m args below meth c Q G X H locs cells slots ls hH hS hL hV hcl hsl
  obtain ⟨hd, rfl⟩ := hd
  obtain ⟨g1, g2, g3⟩ := hH.2.1 a _ hc
  have k1 := kk p l e R s m args below meth c Q G X H locs cells slots ls hH hS hL (vok_c (v := vR b) trivial (vok_t (vok_t hV))) hcl hsl
  refine va_aldq X.1.1 X.1.2.1 X.2.1.1.1 (P1 g1) 0 3 rfl rfl (i32_in h0 h1 g2) hd ?_
  rw [i32_idx h0 (vok_h hV), hg]
  exact k1
theorem A.alen {a N : Nat} {ty : Nat} {f : Int → Int} (hd : Dc M pc .arraylength 1 n) (kk : AW M fr kb n L (vI N :: S) h Rp) (hc : h.2 a = some (kA ty N f) := by assumption) : AW M fr kb pc L (vR a :: S) h Rp := by
  intro p l e R s m args below meth c Q G X H locs cells slots ls hH hS hL hV hcl hsl
  obtain ⟨hd, rfl⟩ := hd
  obtain ⟨g1, g2, g3⟩ := hH.2.1 a _ hc
  have hN := g2.1
  have k1 := kk p l e R s m args below meth c Q G X H locs cells slots ls hH hS hL (vok_ci (by omega) (vok_t hV)) hcl hsl
  have hv : Int32.ofNat N = Int32.ofInt (N : Int) := Int32.ofInt_eq_ofNat.symm
  match ty, g1 with
  | 0, g1 => exact va_alen X.1.1 X.1.2.1 X.2.1.1.1 (P1 g1) 0 0 rfl rfl hv hd k1
  | 1, g1 => exact va_alen X.1.1 X.1.2.1 X.2.1.1.1 (P1 g1) 0 1 rfl rfl hv hd k1
  | ty + 2, g1 => exact va_alen X.1.1 X.1.2.1 X.2.1.1.1 (P1 g1) 0 2 rfl rfl hv hd k1
theorem fset_in {ty N : Nat} {f : Int → Int} {i v : Int} (h : ∀ j : Nat, j < N → vin ty (f j)) (hv : vin ty v) : ∀ j : Nat, j < N → vin ty (fset f i v j) := fun j hj => by
  unfold fset
  by_cases e : (j : Int) = i
  · rw [if_pos e]; exact hv
  · rw [if_neg e]; exact h j hj
theorem A.iast {a N : Nat} {f : Int → Int} {i v : Int} (hd : Dc M pc .iastore 1 n) (kk : ∀ h' : AH, h'.2 a = some (kA 0 N (fset f i v)) → Fr h h' a 1 → AW M fr kb n L S h' Rp) (hc : h.2 a = some (kA 0 N f) := by assumption) (h0 : 0 ≤ i := by omega) (h1 : i < N := by omega) : AW M fr kb pc L (vI v :: vI i :: vR a :: S) h Rp := by
  intro p l e R s m args below meth c Q G X H locs cells slots ls hH hS hL hV hcl hsl
  obtain ⟨hd, rfl⟩ := hd
  obtain ⟨g1, g2, g3⟩ := hH.2.1 a _ hc
  have hv := vok_h hV
  have hi := vok_h (vok_t hV)
  refine W.iast X.1.1 X.1.2.1 g1 ((X.2.1.1.arr 0).1 N _) (fun q => by cases q) (by show ¬ (_ ∨ (arrV _ _ _).slots.size ≤ _); rw [arrV_size]; exact i32_in h0 h1 g2.1) rfl rfl hd fun H1 e1 z oq => ?_
  exact kk _ hput_at Fr.put p l e R s m args below meth c Q G X H1 _ cells slots ls (hH.store hc z oq (by show H1[a]? = _; rw [e1, cell_set _ _ _ h0 h1 hi rfl]) ⟨g2.1, fset_in g2.2 hv⟩) (hS.put z oq g3) hL (vok_t (vok_t (vok_t hV))) hcl hsl
theorem nar_byte {v : Int} (h : -128 ≤ v ∧ v ≤ 127) : narrow .byte (.int (Int32.ofInt v)) = .int (Int32.ofInt v) := by
  show Value.int (Int32.ofInt v).toInt8.toInt32 = _
  congr 1
  rw [← Int32.toInt_inj, Int8.toInt_toInt32, Int32.toInt_toInt8, of_i32 (by omega)]
  exact Int.bmod_eq_of_le (by omega) (by omega)
theorem nar_bool {v : Int} (h : 0 ≤ v ∧ v ≤ 1) : narrow .boolean (.int (Int32.ofInt v)) = .int (Int32.ofInt v) := by
  rcases (by omega : v = 0 ∨ v = 1) with rfl | rfl <;> rfl
theorem A.bast {a N ty : Nat} {f : Int → Int} {i v : Int} (hd : Dc M pc .bastore 1 n) (kk : ∀ h' : AH, h'.2 a = some (kA ty N (fset f i v)) → Fr h h' a 1 → AW M fr kb n L S h' Rp) (hc : h.2 a = some (kA ty N f) := by assumption) (h0 : 0 ≤ i := by omega) (h1 : i < N := by omega) (hv : (ty = 1 ∧ -128 ≤ v ∧ v ≤ 127) ∨ (ty = 2 ∧ 0 ≤ v ∧ v ≤ 1) := by omega) : AW M fr kb pc L (vI v :: vI i :: vR a :: S) h Rp := by
  intro p l e R s m args below meth c Q G X H locs cells slots ls hH hS hL hV hcl hsl
  obtain ⟨hd, rfl⟩ := hd
  obtain ⟨g1, g2, g3⟩ := hH.2.1 a _ hc
  have hi := vok_h (vok_t hV)
  rcases hv with ⟨rfl, hv⟩ | ⟨rfl, hv⟩
  · refine W.bast X.1.1 X.1.2.1 g1 ((X.2.1.1.arr 1).1 N _) (fun q => by cases q) (by show ¬ (_ ∨ (arrV _ _ _).slots.size ≤ _); rw [arrV_size]; exact i32_in h0 h1 g2.1) rfl rfl hd fun H1 e1 z oq => ?_
    exact kk _ hput_at Fr.put p l e R s m args below meth c Q G X H1 _ cells slots ls (hH.store hc z oq (by show H1[a]? = _; rw [e1, cell_set _ _ _ h0 h1 hi (nar_byte hv)]) ⟨g2.1, fset_in g2.2 hv⟩) (hS.put z oq g3) hL (vok_t (vok_t (vok_t hV))) hcl hsl
  · refine W.zast X.1.1 X.1.2.1 g1 ((X.2.1.1.arr 2).1 N _) (fun q => by cases q) (by show ¬ (_ ∨ (arrV _ _ _).slots.size ≤ _); rw [arrV_size]; exact i32_in h0 h1 g2.1) rfl rfl hd fun H1 e1 z oq => ?_
    exact kk _ hput_at Fr.put p l e R s m args below meth c Q G X H1 _ cells slots ls (hH.store hc z oq (by show H1[a]? = _; rw [e1, cell_set _ _ _ h0 h1 hi (nar_bool hv)]) ⟨g2.1, fset_in g2.2 hv⟩) (hS.put z oq g3) hL (vok_t (vok_t (vok_t hV))) hcl hsl
/-- a Moment is put into an array of Moments -/
theorem A.qast {a b N : Nat} {g : Int → Option Nat} {i : Int} {fs : List AV} (hd : Dc M pc .aastore 1 n) (hb : h.2 b = some (kO 1 fs)) (kk : ∀ h' : AH, h'.2 a = some (kQ N (gset g i (some b))) → Fr h h' a 1 → AW M fr kb n L S h' Rp) (hc : h.2 a = some (kQ N g) := by assumption) (h0 : 0 ≤ i := by omega) (h1 : i < N := by omega) : AW M fr kb pc L (vR b :: vI i :: vR a :: S) h Rp := by
  intro p l e R s m args below meth c Q G X H locs cells slots ls hH hS hL hV hcl hsl
  obtain ⟨hd, rfl⟩ := hd
  obtain ⟨g1, g2, g3⟩ := hH.2.1 a _ hc
  obtain ⟨b1, b2, b3⟩ := hH.2.1 b _ hb
  have hi := vok_h (vok_t hV)
  have hK := X.2.1.1
  obtain ⟨r', hr', cellV, v1, v2, v3, -⟩ := b1
  have hcls := (hK.1.1 1 (RX1, TX1, 4) rfl).2
  obtain ⟨kA, comp, k1, k2, k3, -⟩ := hK.arq.2
  have hcomp : comp = G.1.1 1 := Option.some.inj (k3.symm.trans hcls.1)
  subst hcomp
  obtain ⟨kC, hkC, -⟩ := hcls.2
  have hin := i32_in h0 h1 g2
  refine W.aast X.1.1 X.1.2.1 g1 (fun q h => by cases h) (fun h => by cases h) k1 k2 rfl hkC ⟨fun q => hin (Or.inl q), by show _ < (arrV _ _ _).slots.size; rw [arrV_size]; exact Nat.not_le.mp fun q => hin (Or.inr q)⟩ v1 (fun q h => by rw [v3] at h; cases h) (by rw [v2]; exact hkC) (by rw [v2]; exact va_assign hcls) rfl rfl hd fun H1 e1 z oq => ?_
  exact kk _ hput_at Fr.put p l e R s m args below meth c Q G X H1 _ cells slots ls (hH.store hc z oq (by show H1[a]? = _; rw [e1]; exact congrArg some (cell_setq _ _ _ (r := some b) h0 h1 hi)) g2) (hS.put z oq g3) hL (vok_t (vok_t (vok_t hV))) hcl hsl
/-! the script -/
theorem A.xlen (hd : Dc M pc .arraylength 1 n) (kk : AW M fr kb n L (vI (h.1.2.1 : Int) :: S) h Rp) : AW M fr kb pc L (vX :: S) h Rp := by
  intro p l e R s m args below meth c Q G X H locs cells slots ls hH hS hL hV hcl hsl
  obtain ⟨hd, rfl⟩ := hd
  have hX := hH.2.2.1
  have k1 := kk p l e R s m args below meth c Q G X H locs cells slots ls hH hS hL (vok_ci (by have := hX.2.2.1; omega) (vok_t hV)) hcl hsl
  obtain ⟨scr, x1, x2, x3, x4, x5⟩ := hX.1
  exact W.alen (n := Int32.ofInt (h.1.2.1 : Int)) X.1.1 X.1.2.1 x1 x2 (by rw [x4]; exact Int32.ofInt_eq_ofNat.symm) rfl rfl hd k1
theorem A.xld {i : Int} (hd : Dc M pc .iaload 1 n) (kk : AW M fr kb n L (vI (h.1.2.2 i) :: S) h Rp) (h0 : 0 ≤ i := by omega) (h1 : i < h.1.2.1 := by omega) : AW M fr kb pc L (vI i :: vX :: S) h Rp := by
  intro p l e R s m args below meth c Q G X H locs cells slots ls hH hS hL hV hcl hsl
  obtain ⟨hd, rfl⟩ := hd
  have hX := hH.2.2.1
  have hv : vok (vI (h.1.2.2 i)) := by
    have := hX.2.2.2 i.toNat (by omega)
    rw [show ((i.toNat : Nat) : Int) = i by omega] at this
    exact this
  have k1 := kk p l e R s m args below meth c Q G X H locs cells slots ls hH hS hL (vok_c hv (vok_t (vok_t hV))) hcl hsl
  obtain ⟨scr, x1, x2, x3, x4, x5⟩ := hX.1
  have hi := vok_h hV
  refine W.iald (v := .int (Int32.ofInt (h.1.2.2 i))) X.1.1 X.1.2.1 x1 x2 x3 (by rw [x4]; exact i32_in h0 h1 hX.2.2.1) ?_ rfl rfl hd k1
  rw [i32_cl hi, x5 i.toNat (by omega)]
  show some (Value.int (Int32.ofInt (h.1.2.2 ((i.toNat : Nat) : Int)))) = _
  rw [show ((i.toNat : Nat) : Int) = i by omega]
/-! returns -/
theorem AW.end {v : Option AV} (k : Rp v h) (st : ∀ v', v = some v' → vok v' → True) (hS : S = v.toList) (hr : RetAt M v pc) : AW M fr kb pc L S h Rp := by
  intro p l e R s m args below meth c Q G X H locs cells slots ls hH hS' hL hV hcl hsl
  subst hS
  have h1 := X.2.2 v h H locs cells slots pc ls k (fun x e => hV x (by rw [e]; exact List.mem_cons_self)) hH hS' (by omega) (by omega) hr
  cases v with
  | none => exact h1
  | some x => exact h1
theorem A.iret {z : Int} (hd : mR M = some .int ∧ decode (mB M) pc = .ok (.ireturn, 1)) (k : Rp (some (vI z)) h) : AW M fr kb pc L [vI z] h Rp := AW.end k (fun _ _ _ => trivial) rfl (Or.inl hd)
theorem A.zret {z : Int} (hd : mR M = some .boolean ∧ decode (mB M) pc = .ok (.ireturn, 1)) (k : Rp (some (vI z)) h) (hz : 0 ≤ z ∧ z ≤ 1 := by first | decide | exact bi_rng _ | omega) : AW M fr kb pc L [vI z] h Rp := AW.end k (fun _ _ _ => trivial) rfl (Or.inr ⟨hd.1, hd.2, hz⟩)
theorem A.vret (hd : mR M = none ∧ decode (mB M) pc = .ok (.return_, 1)) (k : Rp none h) : AW M fr kb pc L [] h Rp := AW.end k (fun _ _ _ => trivial) rfl hd
theorem A.lret {x : Int64} (hd : mR M = some .long ∧ decode (mB M) pc = .ok (.lreturn, 1)) (k : Rp (some (vL x)) h) : AW M fr kb pc L [vL x] h Rp := AW.end k (fun _ _ _ => trivial) rfl hd
theorem A.aret {a : Nat} (hd : (∃ n, mR M = some (.object n)) ∧ decode (mB M) pc = .ok (.areturn, 1)) (k : Rp (some (vR a)) h) : AW M fr kb pc L [vR a] h Rp := AW.end k (fun _ _ _ => trivial) rfl hd
end CELLS
