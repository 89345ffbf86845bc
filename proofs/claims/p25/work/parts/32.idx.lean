/-! ===== the letters: where a byte stands among them  ===== -/
def kIdx (c : Int) : Int := if c = 115 then 0 else if c = 112 then 1 else if c = 104 then 2 else if c = 102 then 3 else if c = 106 then 4 else if c = 116 then 5 else if c = 99 then 6 else if c = 101 then 7 else -1
theorem kIdx_rng (c : Int) : -1 ≤ kIdx c ∧ kIdx c ≤ 7 := by
  unfold kIdx
  (repeat' split) <;> omega
theorem kIdx_lt {c : Int} (h : kIdx c ≠ -1) : 0 ≤ c := by
  unfold kIdx at h
  refine Classical.byContradiction fun z => h ?_
  rw [if_neg (by omega), if_neg (by omega), if_neg (by omega), if_neg (by omega), if_neg (by omega), if_neg (by omega), if_neg (by omega), if_neg (by omega)]
def Dsi (M : MT) (pc n : Nat) : Prop := decode (mB M) pc = .ok (.invokevirtual 52, 3) ∧ (mY M).cls = RX4 ∧ pc + 3 = n
theorem d4_takeNode_7 : Dsi m4_takeNode 7 10 := ⟨by decide +kernel, rfl, rfl⟩
/-! ===== String.indexOf(int): the JDK's own methods, which write nothing ===== -/
def kB (i : Int) : Int := if i = 0 then 115 else if i = 1 then 112 else if i = 2 then 104 else if i = 3 then 102 else if i = 4 then 106 else if i = 5 then 116 else if i = 6 then 99 else 101
def ixN (c : Int) : Nat → Int → Int
  | 0, _ => -1
  | n + 1, i => if c = kB i then i else ixN c n (i + 1)
theorem kIdx_ix (c : Int) : ixN c 8 0 = kIdx c := rfl
theorem kB_is : ∀ k : Fin 8, (klB.getD k.val 0) = Int32.ofInt (kB (k.val : Int)) := by decide
theorem kB_rng (i : Int) : 0 ≤ kB i ∧ kB i ≤ 127 := by
  unfold kB
  (repeat' split) <;> omega
/-- an answer that the instruction at pc gives back -/
def JE (M : MT) (pc : Nat) (res : Value) : Prop := decode (mB M) pc = .ok (.ireturn, 1) ∧ ∃ (v : Int32) (ty : FieldType), res = .int v ∧ mR M = some ty ∧ narrow ty (.int v) = .int v
def JX (G : GD) (h : AH) (M : MT) (d : Nat) (res : Value) (p : Program) (l : Launch) (e : Env) (R : Room) (s : State) (m : MethodId) (args : Array Value) (below : List Frame) (meth : Method) (c : Code) (Q : State → Prop) : Prop :=
  (p.tables.exec = Jvm.exec ∧ c.code = mB M ∧ c.maxLocals = mL M ∧ s.vm.findClass (mY M).cls = some m.cls ∧ (∀ w ∈ tG, w.before args s = true)) ∧ (GK G s ∧ HR G h s s.heap ∧ R.frames = d ∧ 36 * d ≤ R.locals) ∧
  ∀ (H : Heap) (locs : List Loc) (pc : Nat) (ls : Array Slot), HR G h s H → va_S (gA G) s.heap H locs → JE M pc res → W p l e R s m args below meth c H locs 0 0 Q (F0 m pc ls [res])
def qJ (G : GD) (h : AH) (res : Value) : Array Value → State → Outcome → State → Prop := fun _ st o t => (o = .returned (some res) ∧ HR G h t t.heap) ∧ va_F (gA G) st t
def JM (G : GD) (h : AH) (M : MT) (d : Nat) (as : List Value) (res : Value) : Prop := ∀ l : Launch,
  Met l (mY M) (.code (mY M) (mB M) (mL M) (mR M) :: tG) { frames := d, cells := 0, slots := 0, locals := 36 * d } (va_Pc as (fun U => HR G h U U.heap ∧ GK G U)) (qJ G h res) 0 0 (gA G)
theorem JM.of {G : GD} {h : AH} {M : MT} {d : Nat} {as : List Value} {res : Value} (hM : MOK M) (hn : (lg_sl as).length ≤ mL M)
    (k : ∀ (p : Program) (l : Launch) (e : Env) (R : Room) (s : State) (m : MethodId) (args : Array Value) (below : List Frame) (meth : Method) (c : Code) (Q : State → Prop), JX G h M d res p l e R s m args below meth c Q → ∀ ls : Array Slot, lv_has ls (mL M) (lv_args 0 as) → W p l e R s m args below meth c s.heap [] 0 0 Q (F0 m 0 ls [])) : JM G h M d as res := by
  intro l
  refine Met.ofW (cc := mB M) (maxL := mL M) (ret := mR M) hM.1 rfl ?_
  intro p e s m args below meth c s₁ B hml hv
  obtain ⟨rfl, hH, hK⟩ := hv
  have hts := atoms_spec (ws := Cond.code (mY M) (mB M) (mL M) (mR M) :: tG) B.pre
  have hown : s.vm.findClass (mY M).cls = some m.cls := findClass_of_methodNamed B.named
  have hlocks := B.notSynchronized
  have hr := B.returns
  have hx := B.exec
  have hb := B.bytes
  rw [lg_entry_eq]
  refine k p l e _ s m _ below meth c _ ⟨⟨hx, hb, hml, hown, fun w hw => hts w (List.mem_cons_of_mem _ hw)⟩, ⟨hK, hH, rfl, Nat.le_refl _⟩, ?_⟩ _ (lv_entry as hn)
  intro H locs pc ls hH' hS hE
  obtain ⟨hd, v, ty, rfl, h1, h2⟩ := hE
  exact W.zret hx hb (by rw [hr]; exact h1) h2 (fun t ht hW => ⟨⟨rfl, by rw [ht]; exact hH'.moved hW.alike⟩, hS.F ht⟩) hS.2.2 hd
theorem J.back {G : GD} {h : AH} {p : Program} {l : Launch} {e : Env} {R : Room} {s : State} {m : MethodId} {args : Array Value} {below : List Frame} {meth : Method} {c : Code} {Q : State → Prop} {H : Heap} {locs : List Loc} {pc : Nat} {ls : Array Slot} {st0 rest : List Value} {v : Value} {a9 : Array Value} (hS : va_S (gA G) s.heap H locs)
    (hr : va_Run p l e R s m args below meth c H locs 0 0 0 0 (F0 m pc ls st0) rest (qJ G h v a9) (gA G))
    (k : ∀ (H1 : Heap) (locs1 : List Loc), HR G h s H1 → va_S (gA G) s.heap H1 locs1 → W p l e R s m args below meth c H1 locs1 0 0 Q (F0 m (pc + 3) ls (v :: rest))) : W p l e R s m args below meth c H locs 0 0 Q (F0 m pc ls st0) := by
  intro T hT X0
  obtain ⟨v', st₀, t, T', Lc, e0, X', hLc, e1, e2, ⟨⟨hv, hHt⟩, hz, hk⟩, st⟩ := hr T hT X0
  have hv' : v' = some v := Outcome.returned.inj hv
  subst hv'
  rw [e0] at hz hk
  have hal : t.vm.Alike s.vm := by rw [← e2]; exact X'.warmed.alike.symm
  have hH1 : HR G h s T'.heap := by rw [e1]; exact hHt.moved hal
  have hS1 : va_S (gA G) s.heap T'.heap (locs ++ Lc) := ⟨Nat.le_trans hS.1 (by rw [e1]; exact hz), fun q g1 g2 => by rw [e1, hk q (Nat.lt_of_lt_of_le g1 hS.1) g2]; exact hS.2.1 q g1 g2, fun q hq => by
      rcases List.mem_append.mp hq with z | z
      · exact hS.2.2 q z
      · exact hLc q z⟩
  obtain ⟨t2, a1, b1⟩ := k T'.heap _ hH1 hS1 T' rfl X'
  exact ⟨t2, st t2 a1, b1⟩
theorem jc_blind {G : GD} {h : AH} {as : List Value} : FrameBlind (va_Pc as (fun U => HR G h U U.heap ∧ GK G U)) := fun a U g mk q => ⟨q.1, HR.moved (u := U) (U := U.calling g mk a) (Vm.Alike.refl U.vm) q.2.1, GK.same (s := U) (U := U.calling g mk a) rfl q.2.2⟩
theorem jc_here {G : GD} {h : AH} {as : List Value} {s : State} {H : Heap} (hH : HR G h s H) (hK : GK G s) (U : State) (hU : U.heap = H) (hW : s.WarmedH U.vm) : va_Pc as (fun U => HR G h U U.heap ∧ GK G U) as.toArray U := ⟨rfl, by rw [hU]; exact hH.moved hW.alike, hK.warm hW⟩
def LkS (own : String) (idx : Nat) (M' : MT) (na : Nat) : Prop := Lk own idx M' na ∧ Jvm.Cond.static (mY M') ∈ tG
def LkV (own : String) (idx : Nat) (M' : MT) (na : Nat) : Prop := Lk own idx M' na ∧ Jvm.Cond.instanceMethod (mY M') ∈ tG ∧ Jvm.Cond.selects (mY M').cls (mY M') (mY M') ∈ tG ∧ (mY M').cls = "java/lang/String"
theorem jgood {own : String} {idx na : Nat} {M' : MT} (hL : LkV own idx M' na) : GoodIn tG (wsV own idx (mY M').cls (mY M') (.code (mY M') (mB M') (mL M') (mR M') :: tG)) := fun w hw => by
  obtain ⟨⟨hOK, hlk, -, -⟩, hin, hsel, -⟩ := hL
  simp only [wsV, List.mem_append, List.mem_cons, List.not_mem_nil, or_false] at hw
  rcases hw with (rfl | rfl | rfl | rfl) | rfl | hw
  · exact ⟨hlk, tG_good hlk⟩
  · exact ⟨hin, tG_good hin⟩
  · exact ⟨hsel, tG_good hsel⟩
  · exact ⟨hOK.2.2.1, tG_good hOK.2.2.1⟩
  · exact ⟨hOK.2.1, tG_good hOK.2.1⟩
  · exact ⟨hw, tG_good hw⟩
section JCALLS
variable {G : GD} {h : AH} {M M' : MT} {fr d : Nat} {res : Value} {p : Program} {l : Launch} {e : Env} {R : Room} {s : State} {m : MethodId} {args : Array Value} {below : List Frame} {meth : Method} {c : Code} {Q : State → Prop}
theorem J.static (X : JX G h M fr res p l e R s m args below meth c Q) {idx na pc : Nat} {H : Heap} {locs : List Loc} {ls : Array Slot} {as rest st0 : List Value} {v : Value} (hlk : LkS (mY M).cls idx M' na) (hd : decode (mB M) pc = .ok (.invokestatic idx, 3)) (hM : JM G h M' d as v) (hfr : d + 1 ≤ fr) (hna : as.length = na) (hst : st0 = as.reverse ++ rest) (hcat : (rest.map fun v => v.category).sum ≤ 8) (hsz : ls.size = mL M) (hH : HR G h s H) (hS : va_S (gA G) s.heap H locs)
    (k : ∀ (H1 : Heap) (locs1 : List Loc), HR G h s H1 → va_S (gA G) s.heap H1 locs1 → W p l e R s m args below meth c H1 locs1 0 0 Q (F0 m (pc + 3) ls (v :: rest))) : W p l e R s m args below meth c H locs 0 0 Q (F0 m pc ls st0) := by
  subst hst
  obtain ⟨⟨hOK, hl, hpa, hml⟩, hsta⟩ := hlk
  obtain ⟨⟨x1, x2, x3, x4, hts⟩, ⟨hK, -, hf, hlo⟩, -⟩ := X
  exact J.back hS (va_runS (S := ⟨x1, x2, x3, x4, hts⟩) (hM l)
    ⟨callB_of na hts (tG_in hOK) rfl rfl rfl (hts _ hOK.2.2.1) (hts _ hl) ⟨hOK.2.2.2.1, hOK.2.2.2.2, hpa⟩ ⟨by rw [hf]; exact hfr, by show 8 + (mL M' + 11) + 36 * d ≤ R.locals; omega⟩, hts _ hsta⟩
    ⟨jc_blind, jc_here hH hK⟩
    (g := F0 m pc ls (as.reverse ++ rest)) (As := as) (rest := rest) rfl hna hsz rfl (by show 2 * 0 + _ ≤ 8; omega) hd ⟨Nat.zero_le _, Nat.zero_le _⟩) k
theorem J.virt (X : JX G h M fr res p l e R s m args below meth c Q) {idx na pc : Nat} {H : Heap} {locs : List Loc} {ls : Array Slot} {as rest st0 : List Value} {v : Value} (hlk : LkV (mY M).cls idx M' na) (hd : decode (mB M) pc = .ok (.invokevirtual idx, 3)) (hM : JM G h M' d (.ref (gS G) :: as) v) (hfr : d + 1 ≤ fr) (hna : as.length = na) (hst : st0 = as.reverse ++ .ref (gS G) :: rest) (hcat : (rest.map fun v => v.category).sum ≤ 8) (hsz : ls.size = mL M) (hH : HR G h s H) (hS : va_S (gA G) s.heap H locs)
    (k : ∀ (H1 : Heap) (locs1 : List Loc), HR G h s H1 → va_S (gA G) s.heap H1 locs1 → W p l e R s m args below meth c H1 locs1 0 0 Q (F0 m (pc + 3) ls (v :: rest))) : W p l e R s m args below meth c H locs 0 0 Q (F0 m pc ls st0) := by
  subst hst
  have hgood := jgood hlk
  obtain ⟨⟨hOK, hl, hpa, hml⟩, hin, hsel, hC⟩ := hlk
  obtain ⟨⟨x1, x2, x3, x4, hts⟩, ⟨hK, hH0, hf, hlo⟩, -⟩ := X
  obtain ⟨cellB, r1, r2, r3⟩ := vk_recv (i := 0) hH0.2.2.2.1 (by decide) hS
  exact J.back hS (va_runV (S := ⟨x1, x2, x3, x4, hts⟩) (hM l)
    (cwV (C := (mY M').cls) na hts hgood rfl rfl rfl ⟨rfl, hOK.2.2.2.1, hOK.2.2.2.2, hpa⟩ ⟨by rw [hf]; exact hfr, by show 8 + (mL M' + 11) + 36 * d ≤ R.locals; omega⟩)
    ⟨jc_blind, ⟨cellB, r1, r2, by rw [hC]; exact r3⟩, jc_here hH hK⟩
    (g := F0 m pc ls (as.reverse ++ .ref (gS G) :: rest)) (As := as) (rest := rest) rfl hna hsz rfl (by show 2 * 0 + _ ≤ 8; omega) hd ⟨Nat.zero_le _, Nat.zero_le _⟩) k
end JCALLS
def mS_idx1 : MT := (⟨"java/lang/String", "indexOf", "(I)I"⟩, prog_11_method_79_code, 2, some .int, false, 0, 0)
theorem okS_idx1 : MOK mS_idx1 := ⟨by decide +kernel, tG_of (List.mem_of_getElem? (i := 474) (by decide +kernel)) (by decide +kernel), tG_of (List.mem_of_getElem? (i := 33) (by decide +kernel)) (by decide +kernel), by decide +kernel, by decide +kernel⟩
def mS_idx2 : MT := (⟨"java/lang/String", "indexOf", "(II)I"⟩, prog_11_method_80_code, 3, some .int, false, 0, 0)
theorem okS_idx2 : MOK mS_idx2 := ⟨by decide +kernel, tG_of (List.mem_of_getElem? (i := 478) (by decide +kernel)) (by decide +kernel), tG_of (List.mem_of_getElem? (i := 33) (by decide +kernel)) (by decide +kernel), by decide +kernel, by decide +kernel⟩
def mS_isl : MT := (⟨"java/lang/String", "isLatin1", "()Z"⟩, prog_11_method_154_code, 1, some .boolean, false, 0, 0)
theorem okS_isl : MOK mS_isl := ⟨by decide +kernel, tG_of (List.mem_of_getElem? (i := 482) (by decide +kernel)) (by decide +kernel), tG_of (List.mem_of_getElem? (i := 33) (by decide +kernel)) (by decide +kernel), by decide +kernel, by decide +kernel⟩
def mS_len : MT := (⟨"java/lang/String", "length", "()I"⟩, prog_11_method_54_code, 1, some .int, false, 0, 0)
theorem okS_len : MOK mS_len := ⟨by decide +kernel, tG_of (List.mem_of_getElem? (i := 488) (by decide +kernel)) (by decide +kernel), tG_of (List.mem_of_getElem? (i := 33) (by decide +kernel)) (by decide +kernel), by decide +kernel, by decide +kernel⟩
def mS_cod : MT := (⟨"java/lang/String", "coder", "()B"⟩, prog_11_method_152_code, 1, some .byte, false, 0, 0)
theorem okS_cod : MOK mS_cod := ⟨by decide +kernel, tG_of (List.mem_of_getElem? (i := 492) (by decide +kernel)) (by decide +kernel), tG_of (List.mem_of_getElem? (i := 33) (by decide +kernel)) (by decide +kernel), by decide +kernel, by decide +kernel⟩
def mS_l1 : MT := (⟨"java/lang/StringLatin1", "indexOf", "([BIII)I"⟩, prog_12_method_22_code, 4, some .int, false, 0, 0)
theorem okS_l1 : MOK mS_l1 := ⟨by decide +kernel, tG_of (List.mem_of_getElem? (i := 495) (by decide +kernel)) (by decide +kernel), tG_of (List.mem_of_getElem? (i := 34) (by decide +kernel)) (by decide +kernel), by decide +kernel, by decide +kernel⟩
def mS_can : MT := (⟨"java/lang/StringLatin1", "canEncode", "(I)Z"⟩, prog_12_method_4_code, 1, some .boolean, false, 0, 0)
theorem okS_can : MOK mS_can := ⟨by decide +kernel, tG_of (List.mem_of_getElem? (i := 498) (by decide +kernel)) (by decide +kernel), tG_of (List.mem_of_getElem? (i := 34) (by decide +kernel)) (by decide +kernel), by decide +kernel, by decide +kernel⟩
def mS_ioc : MT := (⟨"java/lang/StringLatin1", "indexOfChar", "([BIII)I"⟩, prog_12_method_23_code, 6, some .int, false, 0, 0)
theorem okS_ioc : MOK mS_ioc := ⟨by decide +kernel, tG_of (List.mem_of_getElem? (i := 507) (by decide +kernel)) (by decide +kernel), tG_of (List.mem_of_getElem? (i := 34) (by decide +kernel)) (by decide +kernel), by decide +kernel, by decide +kernel⟩
theorem lkS_v1 : LkV "java/lang/String" 633 mS_idx2 2 := ⟨⟨okS_idx2, tG_of (List.mem_of_getElem? (i := 475) (by decide +kernel)) (by decide +kernel), by decide +kernel, by decide⟩, tG_of (List.mem_of_getElem? (i := 476) (by decide +kernel)) (by decide +kernel), tG_of (List.mem_of_getElem? (i := 477) (by decide +kernel)) (by decide +kernel), rfl⟩
theorem lkS_v2 : LkV "java/lang/String" 492 mS_isl 0 := ⟨⟨okS_isl, tG_of (List.mem_of_getElem? (i := 479) (by decide +kernel)) (by decide +kernel), by decide +kernel, by decide⟩, tG_of (List.mem_of_getElem? (i := 480) (by decide +kernel)) (by decide +kernel), tG_of (List.mem_of_getElem? (i := 481) (by decide +kernel)) (by decide +kernel), rfl⟩
theorem lkS_v3 : LkV "java/lang/String" 505 mS_len 0 := ⟨⟨okS_len, tG_of (List.mem_of_getElem? (i := 485) (by decide +kernel)) (by decide +kernel), by decide +kernel, by decide⟩, tG_of (List.mem_of_getElem? (i := 486) (by decide +kernel)) (by decide +kernel), tG_of (List.mem_of_getElem? (i := 487) (by decide +kernel)) (by decide +kernel), rfl⟩
theorem lkS_v4 : LkV "java/lang/String" 335 mS_cod 0 := ⟨⟨okS_cod, tG_of (List.mem_of_getElem? (i := 489) (by decide +kernel)) (by decide +kernel), by decide +kernel, by decide⟩, tG_of (List.mem_of_getElem? (i := 490) (by decide +kernel)) (by decide +kernel), tG_of (List.mem_of_getElem? (i := 491) (by decide +kernel)) (by decide +kernel), rfl⟩
theorem lkS_v0 : LkV "PictureScript$Text" 52 mS_idx1 1 := ⟨⟨okS_idx1, tG_of (List.mem_of_getElem? (i := 471) (by decide +kernel)) (by decide +kernel), by decide +kernel, by decide⟩, tG_of (List.mem_of_getElem? (i := 472) (by decide +kernel)) (by decide +kernel), tG_of (List.mem_of_getElem? (i := 473) (by decide +kernel)) (by decide +kernel), rfl⟩
theorem lkS_s1 : LkS "java/lang/String" 637 mS_l1 4 := ⟨⟨okS_l1, tG_of (List.mem_of_getElem? (i := 493) (by decide +kernel)) (by decide +kernel), by decide +kernel, by decide⟩, tG_of (List.mem_of_getElem? (i := 494) (by decide +kernel)) (by decide +kernel)⟩
theorem lkS_s2 : LkS "java/lang/StringLatin1" 88 mS_can 1 := ⟨⟨okS_can, tG_of (List.mem_of_getElem? (i := 496) (by decide +kernel)) (by decide +kernel), by decide +kernel, by decide⟩, tG_of (List.mem_of_getElem? (i := 497) (by decide +kernel)) (by decide +kernel)⟩
theorem lkS_s3 : LkS "java/lang/StringLatin1" 95 mS_ioc 4 := ⟨⟨okS_ioc, tG_of (List.mem_of_getElem? (i := 505) (by decide +kernel)) (by decide +kernel), by decide +kernel, by decide⟩, tG_of (List.mem_of_getElem? (i := 506) (by decide +kernel)) (by decide +kernel)⟩
set_option maxRecDepth 100000 in
set_option maxHeartbeats 4000000 in
theorem jS_cod {G : GD} {h : AH}  : JM G h mS_cod 0 [.ref (gS G)] (.int 0) := by
  refine JM.of okS_cod (Nat.le_of_ble_eq_true rfl) ?_
  intro p l e R s m args below meth c9 Q X ls hl
  have hX := X
  obtain ⟨⟨hx, hb, hml, hown, hts⟩, ⟨hK, hH, hfr, hlo⟩, hend⟩ := X
  have hS : va_S (gA G) s.heap s.heap [] := va_S.rf
  have hl : lv_has ls (mL mS_cod) [(0, .ref (gS G))] := hl
  have hH0 := hH
  refine va_gets (own := "java/lang/String") (ref := "java/lang/String") (index := 38) hx hb hH0.2.2.2.2 hS hown (hts _ (tG_of (List.mem_of_getElem? (i := 483) (by decide +kernel)) (by decide +kernel))) (fun _ q => q) (by decide +kernel) ?_
  refine lv_if_eq (off := 10) (tgt := 13) hx hb (by decide +kernel) (by decide) (fun q => absurd q (by decide)) (fun _ => ?_)
  refine lv_aload_n (k := 0) (i := 0) hx hb (by decide +kernel) rfl (lv_at hl 0 rfl) ?_
  refine vk_getf (own := "java/lang/String") (ref := "java/lang/String") (index := 15) hx hb (hH0.2.2.2.1.1 0 (by decide)).2.1 hS hown (hts _ (tG_of (List.mem_of_getElem? (i := 672) (by decide +kernel)) (by decide +kernel))) (fun _ q => q) (by decide +kernel) ?_
  refine lv_goto (off := 4) (tgt := 14) hx hb (by decide +kernel) (by decide) ?_
  exact hend _ _ _ _ hH hS ⟨by decide +kernel, 0, .byte, rfl, rfl, (by decide)⟩
set_option maxRecDepth 100000 in
set_option maxHeartbeats 4000000 in
theorem jS_isl {G : GD} {h : AH}  : JM G h mS_isl 0 [.ref (gS G)] (.int 1) := by
  refine JM.of okS_isl (Nat.le_of_ble_eq_true rfl) ?_
  intro p l e R s m args below meth c9 Q X ls hl
  have hX := X
  obtain ⟨⟨hx, hb, hml, hown, hts⟩, ⟨hK, hH, hfr, hlo⟩, hend⟩ := X
  have hS : va_S (gA G) s.heap s.heap [] := va_S.rf
  have hl : lv_has ls (mL mS_isl) [(0, .ref (gS G))] := hl
  have hH0 := hH
  refine va_gets (own := "java/lang/String") (ref := "java/lang/String") (index := 38) hx hb hH0.2.2.2.2 hS hown (hts _ (tG_of (List.mem_of_getElem? (i := 483) (by decide +kernel)) (by decide +kernel))) (fun _ q => q) (by decide +kernel) ?_
  refine lv_if_eq (off := 14) (tgt := 17) hx hb (by decide +kernel) (by decide) (fun q => absurd q (by decide)) (fun _ => ?_)
  refine lv_aload_n (k := 0) (i := 0) hx hb (by decide +kernel) rfl (lv_at hl 0 rfl) ?_
  refine vk_getf (own := "java/lang/String") (ref := "java/lang/String") (index := 15) hx hb (hH0.2.2.2.1.1 0 (by decide)).2.1 hS hown (hts _ (tG_of (List.mem_of_getElem? (i := 672) (by decide +kernel)) (by decide +kernel))) (fun _ q => q) (by decide +kernel) ?_
  refine lv_if_ne (off := 7) (tgt := 17) hx hb (by decide +kernel) (by decide) (fun q => absurd rfl q) (fun _ => ?_)
  refine lv_iconst hx hb (by decide +kernel) (n := 1) (v := 1) rfl ?_
  refine lv_goto (off := 4) (tgt := 18) hx hb (by decide +kernel) (by decide) ?_
  exact hend _ _ _ _ hH hS ⟨by decide +kernel, 1, .boolean, rfl, rfl, (by decide)⟩
set_option maxRecDepth 100000 in
set_option maxHeartbeats 4000000 in
theorem jS_len {G : GD} {h : AH}  : JM G h mS_len 1 [.ref (gS G)] (.int 8) := by
  refine JM.of okS_len (Nat.le_of_ble_eq_true rfl) ?_
  intro p l e R s m args below meth c9 Q X ls hl
  have hX := X
  obtain ⟨⟨hx, hb, hml, hown, hts⟩, ⟨hK, hH, hfr, hlo⟩, hend⟩ := X
  have hS : va_S (gA G) s.heap s.heap [] := va_S.rf
  have hl : lv_has ls (mL mS_len) [(0, .ref (gS G))] := hl
  have hH0 := hH
  refine lv_aload_n (k := 0) (i := 0) hx hb (by decide +kernel) rfl (lv_at hl 0 rfl) ?_
  refine vk_getf (own := "java/lang/String") (ref := "java/lang/String") (index := 9) hx hb (hH0.2.2.2.1.1 0 (by decide)).2.2.1 hS hown (hts _ (tG_of (List.mem_of_getElem? (i := 673) (by decide +kernel)) (by decide +kernel))) (fun _ q => q) (by decide +kernel) ?_
  refine va_tlen hx hb (hH0.2.2.2.1.1 0 (by decide)).2.2.2 hS (v := 8) rfl (by decide +kernel) ?_
  refine lv_aload_n (k := 0) (i := 0) hx hb (by decide +kernel) rfl (lv_at hl 0 rfl) ?_
  refine J.virt hX lkS_v4 (by decide +kernel) (jS_cod (G := G) (h := h)) (by omega) rfl (as := []) (rest := [.int 8]) rfl (by decide) hl.1 hH hS (fun H1 locs1 hH hS => ?_)
  refine lv_ishr hx hb (by decide +kernel) ?_
  refine W.eq (g2 := F0 m 10 ls [.int 8]) (by show F0 m 10 ls [.int ((8 : Int32) >>> ((0 : Int32) &&& 31))] = _; rw [show (8 : Int32) >>> ((0 : Int32) &&& 31) = 8 by decide]) ?_
  exact hend _ _ _ _ hH hS ⟨by decide +kernel, 8, .int, rfl, rfl, rfl⟩
set_option maxRecDepth 100000 in
set_option maxHeartbeats 4000000 in
theorem jS_can {G : GD} {h : AH} {c : Int} (hc : 0 ≤ c ∧ c ≤ 127) : JM G h mS_can 0 [.int (Int32.ofInt c)] (.int 1) := by
  refine JM.of okS_can (Nat.le_of_ble_eq_true rfl) ?_
  intro p l e R s m args below meth c9 Q X ls hl
  have hX := X
  obtain ⟨⟨hx, hb, hml, hown, hts⟩, ⟨hK, hH, hfr, hlo⟩, hend⟩ := X
  have hS : va_S (gA G) s.heap s.heap [] := va_S.rf
  have hl : lv_has ls (mL mS_can) [(0, .int (Int32.ofInt c))] := hl
  refine lv_iload_n (k := 0) (i := 0) hx hb (by decide +kernel) rfl (lv_at hl 0 rfl) ?_
  refine lv_if_lt (off := 14) (tgt := 15) hx hb (by decide +kernel) (by decide) (fun q => absurd q (by rw [i32_0, i32_lt (by omega) (by omega)]; omega)) (fun _ => ?_)
  refine lv_iload_n (k := 0) (i := 0) hx hb (by decide +kernel) rfl (lv_at hl 0 rfl) ?_
  refine lv_sipush hx hb (by decide +kernel) (n := 255) (v := Int32.ofInt 255) (by decide) ?_
  refine lv_icmp_gt (off := 7) (tgt := 15) hx hb (by decide +kernel) (by decide) (fun q => absurd q (by rw [i32_lt (by omega) (by omega)]; omega)) (fun _ => ?_)
  refine lv_iconst hx hb (by decide +kernel) (n := 1) (v := 1) rfl ?_
  refine lv_goto (off := 4) (tgt := 16) hx hb (by decide +kernel) (by decide) ?_
  exact hend _ _ _ _ hH hS ⟨by decide +kernel, 1, .boolean, rfl, rfl, (by decide)⟩
set_option maxRecDepth 100000 in
set_option maxHeartbeats 4000000 in
theorem jS_ioc {G : GD} {h : AH} {c : Int} (hc : 0 ≤ c ∧ c ≤ 127) : JM G h mS_ioc 0 [.ref (gV G), .int (Int32.ofInt c), .int 0, .int 8] (.int (Int32.ofInt (kIdx c))) := by
  refine JM.of okS_ioc (Nat.le_of_ble_eq_true rfl) ?_
  intro p l e R s m args below meth c9 Q X ls hl
  have hX := X
  obtain ⟨⟨hx, hb, hml, hown, hts⟩, ⟨hK, hH, hfr, hlo⟩, hend⟩ := X
  have hS : va_S (gA G) s.heap s.heap [] := va_S.rf
  have hl : lv_has ls (mL mS_ioc) [(0, .ref (gV G)), (1, .int (Int32.ofInt c)), (2, .int 0), (3, .int 8)] := hl
  have hH0 := hH
  have loop : ∀ (n k : Nat) (ls : Array Slot), k + n = 8 → ixN c n k = kIdx c → lv_has ls 6 [(5, .int (Int32.ofInt (k : Int))), (4, .int (Int32.ofInt c)), (0, .ref (gV G)), (1, .int (Int32.ofInt c)), (2, .int 0), (3, .int 8)] → W p l e R s m args below meth c9 s.heap [] 0 0 Q (F0 m 7 ls []) := by
    intro n
    induction n with
    | zero =>
      intro k ls hk he hl
      have hk8 : k = 8 := by omega
      subst hk8
      refine lv_iload (i := 5) hx hb (by decide +kernel) (lv_at hl 0 rfl) ?_
      refine lv_iload_n (k := 3) (i := 3) hx hb (by decide +kernel) rfl (lv_at hl 5 rfl) ?_
      refine lv_icmp_ge (off := 21) (tgt := 31) hx hb (by decide +kernel) (by decide) (fun _ => ?_) (fun q => absurd q (by decide))
      refine lv_iconst hx hb (by decide +kernel) (n := -1) (v := Int32.ofInt (-1)) rfl ?_
      have e1 : kIdx c = -1 := he.symm
      refine W.eq (g2 := F0 m 32 ls [.int (Int32.ofInt (kIdx c))]) (by rw [e1]) ?_
      exact hend _ _ _ _ hH hS ⟨by decide +kernel, _, .int, rfl, rfl, rfl⟩
    | succ n ih =>
      intro k ls hk he hl
      have hk8 : k < 8 := by omega
      have hkr : (-2147483648 : Int) ≤ (k : Int) ∧ (k : Int) ≤ 2147483647 := by omega
      have hcl := i32_cl hkr
      rw [Int.toNat_natCast] at hcl
      have hkb := kB_rng k
      refine lv_iload (i := 5) hx hb (by decide +kernel) (lv_at hl 0 rfl) ?_
      refine lv_iload_n (k := 3) (i := 3) hx hb (by decide +kernel) rfl (lv_at hl 5 rfl) ?_
      refine lv_icmp_ge (off := 21) (tgt := 31) hx hb (by decide +kernel) (by decide) (fun q => absurd q (by rw [show (8 : Int32) = Int32.ofInt 8 from rfl]; first | (rw [i32_le (by omega) hkr]; omega) | (rw [i32_lt hkr (by omega)]; omega))) (fun _ => ?_)
      refine lv_aload_n (k := 0) (i := 0) hx hb (by decide +kernel) rfl (lv_at hl 2 rfl) ?_
      refine lv_iload (i := 5) hx hb (by decide +kernel) (lv_at hl 0 rfl) ?_
      refine va_tb hx hb (hH0.2.2.2.1.1 0 (by decide)).2.2.2 hS (i32_in (N := 8) (by omega) (by omega) (by decide)) (v := .int (Int32.ofInt (kB k))) (by rw [hcl]; exact congrArg Value.int (kB_is ⟨k, hk8⟩)) (by decide +kernel) ?_
      refine lv_iload (i := 4) hx hb (by decide +kernel) (lv_at hl 1 rfl) ?_
      refine lv_icmp_ne (off := 6) (tgt := 25) hx hb (by decide +kernel) (by decide) (fun q => ?_) (fun q => ?_)
      · rw [i32_eq (by omega) (by omega)] at q
        refine lv_iinc (n := 1) (i := 5) (k := 0) (v := Int32.ofInt ((k + 1 : Nat) : Int)) hx hb (by decide +kernel) hl rfl (Int32.ofInt_add _ _).symm (by decide) rfl (fun ls' hl' => ?_)
        refine lv_goto (off := (-21)) (tgt := 7) hx hb (by decide +kernel) (by decide) ?_
        exact ih (k + 1) ls' (by omega) ((if_neg (fun z => q z.symm)).symm.trans he) hl'
      · rw [i32_eq (by omega) (by omega)] at q
        have e1 : kIdx c = k := he.symm.trans (if_pos q.symm)
        refine lv_iload (i := 5) hx hb (by decide +kernel) (lv_at hl 0 rfl) ?_
        refine W.eq (g2 := F0 m 24 ls [.int (Int32.ofInt (kIdx c))]) (by rw [e1]) ?_
        exact hend _ _ _ _ hH hS ⟨by decide +kernel, _, .int, rfl, rfl, rfl⟩
  refine lv_iload_n (k := 1) (i := 1) hx hb (by decide +kernel) rfl (lv_at hl 1 rfl) ?_
  refine lv_i2b (v := Int32.ofInt c) hx hb (by decide +kernel) (by
    rw [← Int32.toInt_inj]
    rw [Int8.toInt_toInt32, Int32.toInt_toInt8, of_i32 (by omega)]
    exact Int.bmod_eq_of_le (by omega) (by omega)) ?_
  refine lv_istore (i := 4) hx hb (by decide +kernel) hl (by decide) rfl (fun ls hl => ?_)
  refine lv_iload_n (k := 2) (i := 2) hx hb (by decide +kernel) rfl (lv_at hl 3 rfl) ?_
  refine lv_istore (i := 5) hx hb (by decide +kernel) hl (by decide) rfl (fun ls hl => ?_)
  exact loop 8 0 ls rfl (kIdx_ix c) hl
set_option maxRecDepth 100000 in
set_option maxHeartbeats 4000000 in
theorem jS_l1 {G : GD} {h : AH} {c : Int} (hc : 0 ≤ c ∧ c ≤ 127) : JM G h mS_l1 1 [.ref (gV G), .int (Int32.ofInt c), .int 0, .int 8] (.int (Int32.ofInt (kIdx c))) := by
  refine JM.of okS_l1 (Nat.le_of_ble_eq_true rfl) ?_
  intro p l e R s m args below meth c9 Q X ls hl
  have hX := X
  obtain ⟨⟨hx, hb, hml, hown, hts⟩, ⟨hK, hH, hfr, hlo⟩, hend⟩ := X
  have hS : va_S (gA G) s.heap s.heap [] := va_S.rf
  have hl : lv_has ls (mL mS_l1) [(0, .ref (gV G)), (1, .int (Int32.ofInt c)), (2, .int 0), (3, .int 8)] := hl
  have hH0 := hH
  refine lv_iload_n (k := 1) (i := 1) hx hb (by decide +kernel) rfl (lv_at hl 1 rfl) ?_
  refine J.static hX lkS_s2 (by decide +kernel) (jS_can (G := G) (h := h) hc) (by omega) rfl (as := [.int (Int32.ofInt c)]) (rest := []) rfl (by decide) hl.1 hH hS (fun H1 locs1 hH hS => ?_)
  refine lv_if_ne (off := 5) (tgt := 9) hx hb (by decide +kernel) (by decide) (fun _ => ?_) (fun q => absurd q (by decide))
  refine lv_iload_n (k := 2) (i := 2) hx hb (by decide +kernel) rfl (lv_at hl 2 rfl) ?_
  refine lv_iconst hx hb (by decide +kernel) (n := 0) (v := 0) rfl ?_
  refine va_mmax (own := "java/lang/StringLatin1") (index := 92) hx hb (by rw [hml]; exact hl.1.symm) hown (hts _ (tG_of (List.mem_of_getElem? (i := 499) (by decide +kernel)) (by decide +kernel))) (hts _ (tG_of (List.mem_of_getElem? (i := 500) (by decide +kernel)) (by decide +kernel))) (hts _ (tG_of (List.mem_of_getElem? (i := 35) (by decide +kernel)) (by decide +kernel))) (hts _ (tG_of (List.mem_of_getElem? (i := 501) (by decide +kernel)) (by decide +kernel))) (by omega) (by show 0 + 13 ≤ _; omega) (Nat.zero_le _) (Nat.zero_le _) (by decide +kernel) ?_
  refine W.eq (g2 := F0 m 14 ls [.int 0]) (by rfl) ?_
  refine lv_istore_n (k := 2) (i := 2) hx hb (by decide +kernel) rfl hl (by decide) rfl (fun ls hl => ?_)
  refine lv_iload_n (k := 3) (i := 3) hx hb (by decide +kernel) rfl (lv_at hl 3 rfl) ?_
  refine lv_aload_n (k := 0) (i := 0) hx hb (by decide +kernel) rfl (lv_at hl 1 rfl) ?_
  refine va_tlen hx hb (hH0.2.2.2.1.1 0 (by decide)).2.2.2 hS (v := 8) rfl (by decide +kernel) ?_
  refine va_mmin (own := "java/lang/StringLatin1") (index := 38) hx hb (by rw [hml]; exact hl.1.symm) hown (hts _ (tG_of (List.mem_of_getElem? (i := 502) (by decide +kernel)) (by decide +kernel))) (hts _ (tG_of (List.mem_of_getElem? (i := 503) (by decide +kernel)) (by decide +kernel))) (hts _ (tG_of (List.mem_of_getElem? (i := 35) (by decide +kernel)) (by decide +kernel))) (hts _ (tG_of (List.mem_of_getElem? (i := 504) (by decide +kernel)) (by decide +kernel))) (by omega) (by show 0 + 13 ≤ _; omega) (Nat.zero_le _) (Nat.zero_le _) (by decide +kernel) ?_
  refine W.eq (g2 := F0 m 21 ls [.int 8]) (by rfl) ?_
  refine lv_istore_n (k := 3) (i := 3) hx hb (by decide +kernel) rfl hl (by decide) rfl (fun ls hl => ?_)
  refine lv_iload_n (k := 2) (i := 2) hx hb (by decide +kernel) rfl (lv_at hl 1 rfl) ?_
  refine lv_iload_n (k := 3) (i := 3) hx hb (by decide +kernel) rfl (lv_at hl 0 rfl) ?_
  refine lv_icmp_lt (off := 5) (tgt := 29) hx hb (by decide +kernel) (by decide) (fun _ => ?_) (fun q => absurd (by decide) q)
  refine lv_aload_n (k := 0) (i := 0) hx hb (by decide +kernel) rfl (lv_at hl 2 rfl) ?_
  refine lv_iload_n (k := 1) (i := 1) hx hb (by decide +kernel) rfl (lv_at hl 3 rfl) ?_
  refine lv_iload_n (k := 2) (i := 2) hx hb (by decide +kernel) rfl (lv_at hl 1 rfl) ?_
  refine lv_iload_n (k := 3) (i := 3) hx hb (by decide +kernel) rfl (lv_at hl 0 rfl) ?_
  refine J.static hX lkS_s3 (by decide +kernel) (jS_ioc (G := G) (h := h) hc) (by omega) rfl (as := [.ref (gV G), .int (Int32.ofInt c), .int 0, .int 8]) (rest := []) rfl (by decide) hl.1 hH hS (fun H1 locs1 hH hS => ?_)
  exact hend _ _ _ _ hH hS ⟨by decide +kernel, _, .int, rfl, rfl, rfl⟩
set_option maxRecDepth 100000 in
set_option maxHeartbeats 4000000 in
theorem jS_idx2 {G : GD} {h : AH} {c : Int} (hc : 0 ≤ c ∧ c ≤ 127) : JM G h mS_idx2 2 [.ref (gS G), .int (Int32.ofInt c), .int 0] (.int (Int32.ofInt (kIdx c))) := by
  refine JM.of okS_idx2 (Nat.le_of_ble_eq_true rfl) ?_
  intro p l e R s m args below meth c9 Q X ls hl
  have hX := X
  obtain ⟨⟨hx, hb, hml, hown, hts⟩, ⟨hK, hH, hfr, hlo⟩, hend⟩ := X
  have hS : va_S (gA G) s.heap s.heap [] := va_S.rf
  have hl : lv_has ls (mL mS_idx2) [(0, .ref (gS G)), (1, .int (Int32.ofInt c)), (2, .int 0)] := hl
  have hH0 := hH
  refine lv_aload_n (k := 0) (i := 0) hx hb (by decide +kernel) rfl (lv_at hl 0 rfl) ?_
  refine J.virt hX lkS_v2 (by decide +kernel) (jS_isl (G := G) (h := h)) (by omega) rfl (as := []) (rest := []) rfl (by decide) hl.1 hH hS (fun H1 locs1 hH hS => ?_)
  refine lv_if_eq (off := 19) (tgt := 23) hx hb (by decide +kernel) (by decide) (fun q => absurd q (by decide)) (fun _ => ?_)
  refine lv_aload_n (k := 0) (i := 0) hx hb (by decide +kernel) rfl (lv_at hl 0 rfl) ?_
  refine vk_getf (own := "java/lang/String") (ref := "java/lang/String") (index := 9) hx hb (hH0.2.2.2.1.1 0 (by decide)).2.2.1 hS hown (hts _ (tG_of (List.mem_of_getElem? (i := 673) (by decide +kernel)) (by decide +kernel))) (fun _ q => q) (by decide +kernel) ?_
  refine lv_iload_n (k := 1) (i := 1) hx hb (by decide +kernel) rfl (lv_at hl 1 rfl) ?_
  refine lv_iload_n (k := 2) (i := 2) hx hb (by decide +kernel) rfl (lv_at hl 2 rfl) ?_
  refine lv_aload_n (k := 0) (i := 0) hx hb (by decide +kernel) rfl (lv_at hl 0 rfl) ?_
  refine J.virt hX lkS_v3 (by decide +kernel) (jS_len (G := G) (h := h)) (by omega) rfl (as := []) (rest := [.int 0, .int (Int32.ofInt c), .ref (gV G)]) rfl (by simp [Value.category]) hl.1 hH hS (fun H1 locs1 hH hS => ?_)
  refine J.static hX lkS_s1 (by decide +kernel) (jS_l1 (G := G) (h := h) hc) (by omega) rfl (as := [.ref (gV G), .int (Int32.ofInt c), .int 0, .int 8]) (rest := []) rfl (by decide) hl.1 hH hS (fun H1 locs1 hH hS => ?_)
  refine lv_goto (off := 16) (tgt := 36) hx hb (by decide +kernel) (by decide) ?_
  exact hend _ _ _ _ hH hS ⟨by decide +kernel, _, .int, rfl, rfl, rfl⟩
set_option maxRecDepth 100000 in
set_option maxHeartbeats 4000000 in
theorem jS_idx1 {G : GD} {h : AH} {c : Int} (hc : 0 ≤ c ∧ c ≤ 127) : JM G h mS_idx1 3 [.ref (gS G), .int (Int32.ofInt c)] (.int (Int32.ofInt (kIdx c))) := by
  refine JM.of okS_idx1 (Nat.le_of_ble_eq_true rfl) ?_
  intro p l e R s m args below meth c9 Q X ls hl
  have hX := X
  obtain ⟨⟨hx, hb, hml, hown, hts⟩, ⟨hK, hH, hfr, hlo⟩, hend⟩ := X
  have hS : va_S (gA G) s.heap s.heap [] := va_S.rf
  have hl : lv_has ls (mL mS_idx1) [(0, .ref (gS G)), (1, .int (Int32.ofInt c))] := hl
  refine lv_aload_n (k := 0) (i := 0) hx hb (by decide +kernel) rfl (lv_at hl 0 rfl) ?_
  refine lv_iload_n (k := 1) (i := 1) hx hb (by decide +kernel) rfl (lv_at hl 1 rfl) ?_
  refine lv_iconst hx hb (by decide +kernel) (n := 0) (v := 0) rfl ?_
  refine J.virt hX lkS_v1 (by decide +kernel) (jS_idx2 (G := G) (h := h) hc) (by omega) rfl (as := [.int (Int32.ofInt c), .int 0]) (rest := []) rfl (by decide) hl.1 hH hS (fun H1 locs1 hH hS => ?_)
  exact hend _ _ _ _ hH hS ⟨by decide +kernel, _, .int, rfl, rfl, rfl⟩
theorem A.idx {M : MT} {fr : Nat} {kb : Nat × Nat} {pc n : Nat} {L : List (Option AV)} {S : List AV} {h : AH} {Rp : RP} {c : Int} (hd : Dsi M pc n) (hc : 0 ≤ c ∧ c ≤ 127) (hf : 4 ≤ fr) (hS4 : S.length ≤ 3) (k : AW M fr kb n L (vI (kIdx c) :: S) h Rp) : AW M fr kb pc L (vI c :: vS :: S) h Rp := by
  intro p l e R s m args below meth c9 Q G X H locs cells slots ls hH hS hL hV hcl hsl
  obtain ⟨hd, hown, rfl⟩ := hd
  have hts := X.1.2.2.2.2
  have hcs := cat_sum G S
  have hVs : ∀ v ∈ S, vok v := vok_t (vok_t hV)
  have hlk := lkS_v0
  have hgood := jgood hlk
  obtain ⟨⟨hOK, hl, hpa, hml⟩, hin, hsel, hC⟩ := hlk
  obtain ⟨cellB, r1, r2, r3, -⟩ := (hH.2.2.2.1.1 0 (by decide)).1
  have hr := va_runV (S := ⟨X.1.1, X.1.2.1, X.1.2.2.1, by have := X.1.2.2.2.1; rw [hown] at this; exact this, hts⟩) (jS_idx1 (G := G) (h := h) hc l)
    (cwV (C := (mY mS_idx1).cls) 1 hts hgood rfl rfl rfl ⟨rfl, hOK.2.2.2.1, hOK.2.2.2.2, hpa⟩ ⟨by rw [X.2.1.2.2.2.1]; exact hf, by have := X.2.1.2.2.2.2.1; show 8 + (2 + 11) + 36 * 3 ≤ R.locals; omega⟩)
    ⟨jc_blind, ⟨cellB, r1, r2, r3⟩, jc_here hH X.2.1.1⟩
    (g := F0 m pc ls ((vI c :: vS :: S).map (cv G))) (As := [.int (Int32.ofInt c)]) (rest := S.map (cv G)) (locs := locs) (cells := cells) (slots := slots) (p := p) (e := e) (below := below) (meth := meth) rfl rfl hL.1.1 rfl (by show 2 * 0 + _ ≤ 8; omega) hd ⟨by omega, by omega⟩
  intro T hT X0
  obtain ⟨v', st₀, t, T', Lc, e0, X', hLc, e1, e2, ⟨⟨hv, hHt⟩, hz, hk⟩, st⟩ := hr T hT X0
  have hv' : v' = some (.int (Int32.ofInt (kIdx c))) := Outcome.returned.inj hv
  subst hv'
  rw [e0] at hz hk
  have hal : t.vm.Alike s.vm := by rw [← e2]; exact X'.warmed.alike.symm
  have hH1 : HR G h s T'.heap := by rw [e1]; exact hHt.moved hal
  have hS1 : va_S (gA G) s.heap T'.heap (locs ++ Lc) := ⟨Nat.le_trans hS.1 (by rw [e1]; exact hz), fun q g1 g2 => by rw [e1, hk q (Nat.lt_of_lt_of_le g1 hS.1) g2]; exact hS.2.1 q g1 g2, fun q hq => by
      rcases List.mem_append.mp hq with z | z
      · exact hS.2.2 q z
      · exact hLc q z⟩
  have hkr := kIdx_rng c
  obtain ⟨t2, a1, b1⟩ := k p l e R s m args below meth c9 Q G X T'.heap _ (cells + 0) (slots + 0) ls hH1 hS1 hL (vok_ci (by omega) hVs) (by omega) (by omega) T' rfl X'
  exact ⟨t2, st t2 a1, b1⟩
