/-! ===== a frame of the abstract machine, and a method's contract ===== -/
/-- a method: name, code, locals, answer, whether it makes an object, the cells and slots that it makes -/
abbrev MT : Type := MethodName × ByteArray × Nat × Option FieldType × Bool × Nat × Nat
def mY (M : MT) : MethodName := M.1
def mB (M : MT) : ByteArray := M.2.1
def mL (M : MT) : Nat := M.2.2.1
def mR (M : MT) : Option FieldType := M.2.2.2.1
def mI (M : MT) : Bool := M.2.2.2.2.1
def mC (M : MT) : Nat := M.2.2.2.2.2.1
def mS (M : MT) : Nat := M.2.2.2.2.2.2
abbrev RP : Type := Option AV → AH → Prop
def RetAt (M : MT) (v : Option AV) (pc : Nat) : Prop := match v with
  | none => mR M = none ∧ decode (mB M) pc = .ok (.return_, 1)
  | some (.inl z) => (mR M = some .int ∧ decode (mB M) pc = .ok (.ireturn, 1)) ∨ (mR M = some .boolean ∧ decode (mB M) pc = .ok (.ireturn, 1) ∧ 0 ≤ z ∧ z ≤ 1)
  | some (.inr (.inl _)) => (∃ n, mR M = some (.object n)) ∧ decode (mB M) pc = .ok (.areturn, 1)
  | some (.inr (.inr (.inl _))) => mR M = some .long ∧ decode (mB M) pc = .ok (.lreturn, 1)
  | some (.inr (.inr (.inr _))) => False
def rst (G : GD) (v : Option AV) : List Value := match v with
  | none => []
  | some x => [cv G x]
def Cx (M : MT) (fr : Nat) (p : Program) (l : Launch) (e : Env) (R : Room) (s : State) (m : MethodId) (args : Array Value) (below : List Frame) (meth : Method) (c : Code) (Q : State → Prop) (G : GD) (Rp : RP) : Prop :=
  (p.tables.exec = Jvm.exec ∧ c.code = mB M ∧ c.maxLocals = mL M ∧ s.vm.findClass (mY M).cls = some m.cls ∧ (∀ w ∈ tG, w.before args s = true)) ∧
  (GK G s ∧ meth.locks = false ∧ (mI M = true → meth.name = "<init>") ∧ R.frames = fr ∧ 36 * fr ≤ R.locals ∧ gB G ≤ s.heap.size) ∧
  ∀ (v : Option AV) (h' : AH) (H : Heap) (locs : List Loc) (cells slots pc : Nat) (ls : Array Slot), Rp v h' → (∀ x, v = some x → vok x) → HR G h' s H → va_S (gA G) s.heap H locs → cells ≤ R.cells → slots ≤ R.slots → RetAt M v pc →
    W p l e R s m args below meth c H locs cells slots Q (F0 m pc ls (rst G v))
/-- from here, with these locals, this stack and this heap, the method comes to an end of which Rp holds -/
def AW (M : MT) (fr : Nat) (kb : Nat × Nat) (pc : Nat) (L : List (Option AV)) (S : List AV) (h : AH) (Rp : RP) : Prop :=
  ∀ (p : Program) (l : Launch) (e : Env) (R : Room) (s : State) (m : MethodId) (args : Array Value) (below : List Frame) (meth : Method) (c : Code) (Q : State → Prop) (G : GD), Cx M fr p l e R s m args below meth c Q G Rp →
  ∀ (H : Heap) (locs : List Loc) (cells slots : Nat) (ls : Array Slot), HR G h s H → va_S (gA G) s.heap H locs → LR G L ls (mL M) → (∀ v ∈ S, vok v) → cells + kb.1 ≤ R.cells → slots + kb.2 ≤ R.slots →
  W p l e R s m args below meth c H locs cells slots Q (F0 m pc ls (S.map (cv G)))
/-- a call of M, d frames deep at most, at this heap with these arguments, comes to an end of which Rp holds -/
def AM (M : MT) (d : Nat) (h : AH) (as : List AV) (Rp : RP) : Prop := (∀ v ∈ as, vok v) → ∀ (l : Launch) (G : GD),
  Met l (mY M) (.code (mY M) (mB M) (mL M) (mR M) :: tG) { frames := d, cells := mC M, slots := mS M, locals := 36 * d } (va_Pc (as.map (cv G)) (fun U => HR G h U U.heap ∧ GK G U))
    (fun _ st o t => (∃ (v : Option AV) (h' : AH), o = .returned (v.map (cv G)) ∧ Rp v h' ∧ (∀ x, v = some x → vok x) ∧ HR G h' t t.heap) ∧ va_F (gA G) st t) (mC M) (mS M) (gA G)
/-- a method of the tables: its code is there -/
def MOK (M : MT) : Prop := plainName (mY M).cls = true ∧ Cond.code (mY M) (mB M) (mL M) (mR M) ∈ tG ∧ Cond.initialized (mY M).cls ∈ tG ∧ ((mY M).cls ≠ "java/lang/invoke/MethodHandle" ∧ (mY M).cls ≠ "java/lang/invoke/VarHandle")
def alocs : Nat → List AV → List (Nat × AV)
  | _, [] => []
  | i, v :: vs => (i, v) :: alocs (if isL v = true then i + 2 else i + 1) vs
def entL (n : Nat) (as : List AV) : List (Option AV) := (List.range n).map (fun i => (alocs 0 as).lookup i)
theorem alocs_cv (G : GD) : ∀ (as : List AV) (i : Nat), lv_args i (as.map (cv G)) = (alocs i as).map (fun q => (q.1, cv G q.2)) := by
  intro as
  induction as with
  | nil => intro i; rfl
  | cons v vs ih =>
    intro i
    show (i, cv G v) :: lv_args (if (cv G v).category = 2 then i + 2 else i + 1) (vs.map (cv G)) = (i, cv G v) :: (alocs (if isL v = true then i + 2 else i + 1) vs).map _
    have e : (if (cv G v).category = 2 then i + 2 else i + 1) = (if isL v = true then i + 2 else i + 1) := by
      by_cases q : isL v = true
      · rw [if_pos q, if_pos ((isL_cat G v).mpr q)]
      · rw [if_neg q, if_neg (fun z => q ((isL_cat G v).mp z))]
    rw [e, ih]
theorem lookup_in {as : List (Nat × AV)} {i : Nat} {v : AV} (h : as.lookup i = some v) : (i, v) ∈ as := by
  induction as with
  | nil => simp at h
  | cons q as ih =>
    obtain ⟨j, w⟩ := q
    by_cases e : i = j
    · subst e
      rw [List.lookup_cons_self] at h
      cases h
      exact List.mem_cons_self
    · have : (i == j) = false := by simpa using e
      rw [List.lookup_cons, this] at h
      exact List.mem_cons_of_mem _ (ih h)
theorem alocs_ok : ∀ (as : List AV) (i : Nat), (∀ v ∈ as, vok v) → ∀ q ∈ alocs i as, vok q.2 := by
  intro as
  induction as with
  | nil => intro i _ q hq; cases hq
  | cons v vs ih =>
    intro i h q hq
    rcases List.mem_cons.mp hq with rfl | hq
    · exact h v List.mem_cons_self
    · exact ih _ (fun w hw => h w (List.mem_cons_of_mem _ hw)) q hq
theorem LR.entry {G : GD} {as : List AV} {n : Nat} {L : List (Option AV)} (hn : (lg_sl (as.map (cv G))).length ≤ n) (hok : ∀ v ∈ as, vok v) (hL : entL n as = L) : LR G L ((lg_sl (as.map (cv G)) ++ List.replicate (n - (lg_sl (as.map (cv G))).length) Slot.unset).toArray) n := by
  have h0 := lv_entry (as.map (cv G)) hn
  subst hL
  refine ⟨⟨h0.1, h0.2.1, fun q hq => ?_⟩, by simp [entL], fun i v hi => ?_⟩
  · obtain ⟨j, x⟩ := q
    obtain ⟨w, -, h2, rfl⟩ := (aLs_in _ 0 j x).mp hq
    rw [Nat.sub_zero] at h2
    simp only [entL, List.getElem?_map, Option.map_eq_some_iff] at h2
    obtain ⟨k, hk, h3⟩ := h2
    obtain ⟨hk1, hk2⟩ := List.getElem?_eq_some_iff.mp hk
    have hkj : k = j := by simpa using hk2.symm
    subst hkj
    refine h0.2.2 _ ?_
    rw [alocs_cv]
    exact List.mem_map.mpr ⟨(k, w), lookup_in h3, rfl⟩
  · simp only [entL, List.getElem?_map, Option.map_eq_some_iff] at hi
    obtain ⟨k, -, h3⟩ := hi
    exact alocs_ok as 0 hok _ (lookup_in h3)
theorem tG_in {M : MT} (hM : MOK M) : GoodIn tG (.code (mY M) (mB M) (mL M) (mR M) :: tG) := fun w h => by
  rcases List.mem_cons.mp h with rfl | h
  · exact ⟨hM.2.1, tG_good hM.2.1⟩
  · exact ⟨h, tG_good h⟩
/-- the contract out of the walk of the body -/
theorem AM.of {M : MT} {d : Nat} {h : AH} {as : List AV} {Rp : RP} {L : List (Option AV)} (hM : MOK M) (hI : mI M = true → (mY M).name = "<init>") (hn : ∀ G : GD, (lg_sl (as.map (cv G))).length ≤ mL M) (hL : entL (mL M) as = L) (k : AW M d (mC M, mS M) 0 L [] h Rp) : AM M d h as Rp := by
  intro hok l G
  refine Met.ofW (cc := mB M) (maxL := mL M) (ret := mR M) hM.1 rfl ?_
  intro p e s m args below meth c s₁ B hml hv
  obtain ⟨rfl, hH, hK⟩ := hv
  have hts := atoms_spec (ws := Cond.code (mY M) (mB M) (mL M) (mR M) :: tG) B.pre
  have hown : s.vm.findClass (mY M).cls = some m.cls := findClass_of_methodNamed B.named
  have hlocks := B.notSynchronized
  have hname : meth.name = (mY M).name := (name_of_methodNamed B.named B.method).1
  have hr := B.returns
  have hx := B.exec
  have hb := B.bytes
  rw [lg_entry_eq]
  refine k p l e _ s m _ below meth c _ G ⟨⟨hx, hb, hml, hown, fun w hw => hts w (List.mem_cons_of_mem _ hw)⟩, ⟨hK, hlocks, fun q => by rw [hname]; exact hI q, rfl, Nat.le_refl _, hH.1.2⟩, ?_⟩ s.heap [] 0 0 _ hH va_S.rf (LR.entry (hn G) hok hL) (fun _ h => by cases h) (by rw [Nat.zero_add]; exact Nat.le_refl _) (by rw [Nat.zero_add]; exact Nat.le_refl _)
  intro v h' H locs cells slots pc ls hRp hvok hH' hS hc hs hret
  refine W.widen hc hs ?_
  have hq : ∀ t : State, t.heap = H → s.WarmedH t.vm → ∀ (w : Option AV), w = v → ((∃ (v : Option AV) (h' : AH), Outcome.returned (w.map (cv G)) = .returned (v.map (cv G)) ∧ Rp v h' ∧ (∀ x, v = some x → vok x) ∧ HR G h' t t.heap) ∧ va_F (gA G) s t) := fun t ht hW w e => ⟨⟨v, h', by rw [e], hRp, hvok, by rw [ht]; exact hH'.moved hW.alike⟩, hS.F ht⟩
  match v, hret with
  | none, hret =>
    obtain ⟨h1, h2⟩ := hret
    exact W.vret hx hb (by rw [hr]; exact h1) (fun t ht hW => hq t ht hW none rfl) hS.2.2 h2
  | some (.inl z), hret =>
    rcases hret with ⟨h1, h2⟩ | ⟨h1, h2, h3, h4⟩
    · exact W.iret hx hb (by rw [hr]; exact h1) (fun t ht hW => hq t ht hW (some (.inl z)) rfl) hS.2.2 h2
    · refine W.zret (ty := .boolean) hx hb (by rw [hr]; exact h1) ?_ (fun t ht hW => hq t ht hW (some (.inl z)) rfl) hS.2.2 h2
      rcases (by omega : z = 0 ∨ z = 1) with rfl | rfl <;> rfl
  | some (.inr (.inl r)), hret =>
    obtain ⟨⟨n, h1⟩, h2⟩ := hret
    exact W.aret (rt := .object n) hx hb (by rw [hr]; exact h1) (Or.inl ⟨n, rfl⟩) (by cases r with | none => exact Or.inl rfl | some a => exact Or.inr ⟨a, rfl⟩) (fun t ht hW => hq t ht hW (some (.inr (.inl r))) rfl) hS.2.2 h2
  | some (.inr (.inr (.inl x))), hret =>
    obtain ⟨h1, h2⟩ := hret
    exact W.lret hx hb (by rw [hr]; exact h1) (fun t ht hW => hq t ht hW (some (.inr (.inr (.inl x)))) rfl) hS.2.2 h2
  | some (.inr (.inr (.inr b))), hret => exact absurd hret (fun q => q)
