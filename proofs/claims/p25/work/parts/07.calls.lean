/-! ===== the abstract machine's rows: calls, new cells, constants, a copy ===== -/
theorem blt_ok {k n : Nat} (h : Nat.ble (k + 1) n = true) : k < n := Nat.le_of_ble_eq_true h
def kont (M : MT) (fr : Nat) (kb : Nat × Nat) (n : Nat) (L : List (Option AV)) (S : List AV) (Rp : RP) : RP := fun v h' => match v with
  | some x => AW M fr kb n L (x :: S) h' Rp
  | none => AW M fr kb n L S h' Rp
section CALLS
variable {M M' : MT} {fr d : Nat} {kb : Nat × Nat} {pc n : Nat} {L : List (Option AV)} {S : List AV} {h : AH} {Rp : RP}
theorem kS {x : AV} (k : AW M fr kb n L (x :: S) h Rp) : kont M fr kb n L S Rp (some x) h := k
theorem kN (k : AW M fr kb n L S h Rp) : kont M fr kb n L S Rp none h := k
def qM (G : GD) (Rp' : RP) : State → Outcome → State → Prop := fun st o t => (∃ (v : Option AV) (h' : AH), o = .returned (v.map (cv G)) ∧ Rp' v h' ∧ (∀ x, v = some x → vok x) ∧ HR G h' t t.heap) ∧ va_F (gA G) st t
theorem AW.called {kb' : Nat × Nat} {mc ms : Nat} (h1 : kb'.1 + mc = kb.1) (h2 : kb'.2 + ms = kb.2) {p : Program} {l : Launch} {e : Env} {R : Room} {s : State} {m : MethodId} {args : Array Value} {below : List Frame} {meth : Method} {c : Code} {Q : State → Prop} {G : GD} (X : Cx M fr p l e R s m args below meth c Q G Rp) {H : Heap} {locs : List Loc} {cells slots : Nat} {ls : Array Slot} {st0 : List Value}
    (hS : va_S (gA G) s.heap H locs) (hL : LR G L ls (mL M)) (hV : ∀ v ∈ S, vok v) (hc : cells + kb.1 ≤ R.cells) (hs : slots + kb.2 ≤ R.slots)
    (hr : va_Run p l e R s m args below meth c H locs cells slots mc ms (F0 m pc ls st0) (S.map (cv G)) (qM G (kont M fr kb' (pc + 3) L S Rp)) (gA G)) : W p l e R s m args below meth c H locs cells slots Q (F0 m pc ls st0) := by
  intro T hT X0
  obtain ⟨v, st₀, t, T', Lc, e0, X', hLc, e1, e2, ⟨⟨v', h', hv, hp, hvk, hHt⟩, hz, hk⟩, st⟩ := hr T hT X0
  have hv' : v = v'.map (cv G) := Outcome.returned.inj hv
  subst hv'
  rw [e0] at hz hk
  have hal : t.vm.Alike s.vm := by rw [← e2]; exact X'.warmed.alike.symm
  have hH1 : HR G h' s T'.heap := by rw [e1]; exact hHt.moved hal
  have hS1 : va_S (gA G) s.heap T'.heap (locs ++ Lc) := ⟨Nat.le_trans hS.1 (by rw [e1]; exact hz), fun q g1 g2 => by rw [e1, hk q (Nat.lt_of_lt_of_le g1 hS.1) g2]; exact hS.2.1 q g1 g2, fun q hq => by
      rcases List.mem_append.mp hq with z | z
      · exact hS.2.2 q z
      · exact hLc q z⟩
  cases v' with
  | none =>
    obtain ⟨t2, a1, b1⟩ := hp p l e R s m args below meth c Q G X T'.heap _ (cells + mc) (slots + ms) ls hH1 hS1 hL hV (by omega) (by omega) T' rfl X'
    exact ⟨t2, st t2 a1, b1⟩
  | some x =>
    obtain ⟨t2, a1, b1⟩ := hp p l e R s m args below meth c Q G X T'.heap _ (cells + mc) (slots + ms) ls hH1 hS1 hL (vok_c (hvk x rfl) hV) (by omega) (by omega) T' rfl X'
    exact ⟨t2, st t2 a1, b1⟩
theorem pc_blind {G : GD} {as : List AV} : FrameBlind (va_Pc (as.map (cv G)) (fun U => HR G h U U.heap ∧ GK G U)) := fun a U g mk q => ⟨q.1, HR.moved (u := U) (U := U.calling g mk a) (Vm.Alike.refl U.vm) q.2.1, GK.same (s := U) (U := U.calling g mk a) rfl q.2.2⟩
theorem pc_here {G : GD} {as : List AV} {s : State} {H : Heap} (hH : HR G h s H) (hK : GK G s) (U : State) (hU : U.heap = H) (hW : s.WarmedH U.vm) : va_Pc (as.map (cv G)) (fun U => HR G h U U.heap ∧ GK G U) (as.map (cv G)).toArray U := ⟨rfl, by rw [hU]; exact hH.moved hW.alike, hK.warm hW⟩
theorem cat_sum (G : GD) : ∀ S : List AV, ((S.map (cv G)).map fun v => v.category).sum ≤ 2 * S.length := by
  intro S
  induction S with
  | nil => exact Nat.le_refl _
  | cons v S ih =>
    have h1 : (cv G v).category ≤ 2 := by rcases lv_cat (cv G v) with q | q <;> omega
    simp only [List.map_cons, List.sum_cons, List.length_cons]
    omega
/-- what a call of M' needs of the tables -/
def Lk (own : String) (idx : Nat) (M' : MT) (na : Nat) : Prop := MOK M' ∧ Jvm.Cond.methodLink own idx (mY M') ∈ tG ∧ (parseMethodDescriptor (mY M').desc).map (fun d => d.parameters.length) = some na ∧ mL M' ≤ 17
def Div (M : MT) (pc : Nat) (M' : MT) (na n : Nat) : Prop := ∃ idx : Nat, decode (mB M) pc = .ok (.invokevirtual idx, 3) ∧ Lk (mY M).cls idx M' na ∧ (Jvm.Cond.instanceMethod (mY M') ∈ tG ∧ Jvm.Cond.selects (mY M').cls (mY M') (mY M') ∈ tG) ∧ pc + 3 = n
def Dis' (M : MT) (pc : Nat) (M' : MT) (na n : Nat) : Prop := ∃ idx : Nat, decode (mB M) pc = .ok (.invokestatic idx, 3) ∧ Lk (mY M).cls idx M' na ∧ Jvm.Cond.static (mY M') ∈ tG ∧ pc + 3 = n
theorem A.invV {as : List AV} {a ci na : Nat} {fs : List AV} {S0 : List AV} {C : String} {T : u_T} {N : Nat} (hd : Div M pc M' na n) (hM : AM M' d h (vR a :: as) (kont M fr kb n L S Rp)) (hst : S0 = as.reverse ++ vR a :: S) (hna : as.length = na) (hc : h.2 a = some (kO ci fs)) (hcl : vwCl[ci]? = some (C, T, N)) (hC : C = (mY M').cls) (hz : mC M' = 0 ∧ mS M' = 0) (hdf : d + 1 ≤ fr) (hS4 : S.length ≤ 4) : AW M fr kb pc L S0 h Rp := by
  subst hst
  intro p l e R s m args below meth c Q G X H locs cells slots ls hH hS hL hV hcl' hsl
  obtain ⟨idx, hd, ⟨hOK, hlk, hpa, hml⟩, ⟨hin, hsel⟩, rfl⟩ := hd
  obtain ⟨g1, g2, g3⟩ := hH.2.1 a _ hc
  have hVa : ∀ v ∈ vR a :: as, vok v := fun v hv => by
    rcases List.mem_cons.mp hv with rfl | hv
    · trivial
    · exact hV v (List.mem_append_left _ (List.mem_reverse.mpr hv))
  have hVs : ∀ v ∈ S, vok v := fun v hv => hV v (List.mem_append_right _ (List.mem_cons_of_mem _ hv))
  obtain ⟨cellB, r1, r2, r3⟩ := va_recv (q0 := 0) (ci := ci) X.2.1.1.1 (P1 g1) hcl rfl
  have hgood : GoodIn tG (wsV (mY M).cls idx (mY M').cls (mY M') (.code (mY M') (mB M') (mL M') (mR M') :: tG)) := fun w hw => by
    simp only [wsV, List.mem_append, List.mem_cons, List.not_mem_nil, or_false] at hw
    rcases hw with (rfl | rfl | rfl | rfl) | rfl | hw
    · exact ⟨hlk, tG_good hlk⟩
    · exact ⟨hin, tG_good hin⟩
    · exact ⟨hsel, tG_good hsel⟩
    · exact ⟨hOK.2.2.1, tG_good hOK.2.2.1⟩
    · exact ⟨hOK.2.1, tG_good hOK.2.1⟩
    · exact ⟨hw, tG_good hw⟩
  have hcs := cat_sum G S
  have hrun := va_runV (S := ⟨X.1.1, X.1.2.1, X.1.2.2.1, X.1.2.2.2.1, X.1.2.2.2.2⟩) (hM hVa l G)
    (cwV (C := (mY M').cls) na X.1.2.2.2.2 hgood rfl rfl rfl ⟨rfl, hOK.2.2.2.1, hOK.2.2.2.2, hpa⟩ ⟨by rw [X.2.1.2.2.2.1]; exact hdf, by have := X.2.1.2.2.2.2.1; show 8 + (mL M' + 11) + 36 * d ≤ R.locals; omega⟩)
    ⟨pc_blind, ⟨cellB, r1, r2, by rw [← hC]; exact r3⟩, pc_here hH X.2.1.1⟩
    (g := F0 m pc ls ((as.reverse ++ vR a :: S).map (cv G))) (As := as.map (cv G)) (rest := S.map (cv G)) (locs := locs) (cells := cells) (slots := slots) (p := p) (e := e) (below := below) (meth := meth) rfl (by rw [List.length_map]; exact hna) hL.1.1 (by show List.map (cv G) (as.reverse ++ vR a :: S) = _; rw [List.map_append, List.map_reverse]; rfl) (by show 2 * 0 + _ ≤ 8; omega) hd ⟨by rw [hz.1]; omega, by rw [hz.2]; omega⟩
  exact AW.called (by rw [hz.1]; rfl) (by rw [hz.2]; rfl) X hS hL hVs hcl' hsl hrun
theorem A.invS {as : List AV} {na : Nat} {S0 : List AV} (hd : Dis' M pc M' na n) (hM : AM M' d h as (kont M fr kb n L S Rp)) (hst : S0 = as.reverse ++ S) (hna : as.length = na) (hz : mC M' = 0 ∧ mS M' = 0) (hdf : d + 1 ≤ fr) (hS4 : S.length ≤ 4) : AW M fr kb pc L S0 h Rp := by
  subst hst
  intro p l e R s m args below meth c Q G X H locs cells slots ls hH hS hL hV hcl' hsl
  obtain ⟨idx, hd, ⟨hOK, hlk, hpa, hml⟩, hsta, rfl⟩ := hd
  have hVa : ∀ v ∈ as, vok v := fun v hv => hV v (List.mem_append_left _ (List.mem_reverse.mpr hv))
  have hVs : ∀ v ∈ S, vok v := fun v hv => hV v (List.mem_append_right _ hv)
  have hcs := cat_sum G S
  have hts := X.1.2.2.2.2
  have hrun := va_runS (S := ⟨X.1.1, X.1.2.1, X.1.2.2.1, X.1.2.2.2.1, hts⟩) (hM hVa l G)
    ⟨callB_of na hts (tG_in hOK) rfl rfl rfl (hts _ hOK.2.2.1) (hts _ hlk) ⟨hOK.2.2.2.1, hOK.2.2.2.2, hpa⟩ ⟨by rw [X.2.1.2.2.2.1]; exact hdf, by have := X.2.1.2.2.2.2.1; show 8 + (mL M' + 11) + 36 * d ≤ R.locals; omega⟩, hts _ hsta⟩
    ⟨pc_blind, pc_here hH X.2.1.1⟩
    (g := F0 m pc ls ((as.reverse ++ S).map (cv G))) (As := as.map (cv G)) (rest := S.map (cv G)) (locs := locs) (cells := cells) (slots := slots) (p := p) (e := e) (below := below) (meth := meth) rfl (by rw [List.length_map]; exact hna) hL.1.1 (by show List.map (cv G) (as.reverse ++ S) = _; rw [List.map_append, List.map_reverse]) (by show 2 * 0 + _ ≤ 8; omega) hd ⟨by rw [hz.1]; omega, by rw [hz.2]; omega⟩
  exact AW.called (by rw [hz.1]; rfl) (by rw [hz.2]; rfl) X hS hL hVs hcl' hsl hrun
/-- a static method of a nest mate, by a link of the nest's -/
def DisN (M : MT) (pc : Nat) (M' : MT) (na n : Nat) : Prop := ∃ (idx : Nat) (host : String), decode (mB M) pc = .ok (.invokestatic idx, 3) ∧ MOK M' ∧ Jvm.Cond.methodLinkNest (mY M).cls idx (mY M') host ∈ nestW ∧ (parseMethodDescriptor (mY M').desc).map (fun d => d.parameters.length) = some na ∧ mL M' ≤ 17 ∧ Jvm.Cond.static (mY M') ∈ tG ∧ pc + 3 = n
theorem A.invSN {as : List AV} {na : Nat} {S0 : List AV} (hd : DisN M pc M' na n) (hM : AM M' d h as (kont M fr kb n L S Rp)) (hst : S0 = as.reverse ++ S) (hna : as.length = na) (hz : mC M' = 0 ∧ mS M' = 0) (hdf : d + 1 ≤ fr) (hS4 : S.length ≤ 4) : AW M fr kb pc L S0 h Rp := by
  subst hst
  intro p l e R s m args below meth c Q G X H locs cells slots ls hH hS hL hV hcl' hsl
  obtain ⟨idx, host, hd, hOK, hlk, hpa, hml, hsta, rfl⟩ := hd
  have hVa : ∀ v ∈ as, vok v := fun v hv => hV v (List.mem_append_left _ (List.mem_reverse.mpr hv))
  have hVs : ∀ v ∈ S, vok v := fun v hv => hV v (List.mem_append_right _ hv)
  have hcs := cat_sum G S
  have hts := X.1.2.2.2.2
  have hrun := va_runSN (S := ⟨X.1.1, X.1.2.1, X.1.2.2.1, X.1.2.2.2.1, hts⟩) (hM hVa l G)
    ⟨va_cnB na hts (tG_in hOK) rfl rfl rfl (X.2.1.1.2.1 _ hlk) (hts _ hOK.2.2.1) ⟨hOK.2.2.2.1, hOK.2.2.2.2, hpa⟩ ⟨by rw [X.2.1.2.2.2.1]; exact hdf, by have := X.2.1.2.2.2.2.1; show 8 + (mL M' + 11) + 36 * d ≤ R.locals; omega⟩, hts _ hsta, trivial⟩
    ⟨pc_blind, pc_here hH X.2.1.1⟩
    (g := F0 m pc ls ((as.reverse ++ S).map (cv G))) (As := as.map (cv G)) (rest := S.map (cv G)) (locs := locs) (cells := cells) (slots := slots) (p := p) (e := e) (below := below) (meth := meth) rfl (by rw [List.length_map]; exact hna) hL.1.1 (by show List.map (cv G) (as.reverse ++ S) = _; rw [List.map_append, List.map_reverse]) (by show 2 * 0 + _ ≤ 8; omega) hd ⟨by rw [hz.1]; omega, by rw [hz.2]; omega⟩
  exact AW.called (by rw [hz.1]; rfl) (by rw [hz.2]; rfl) X hS hL hVs hcl' hsl hrun
/-- a constructor without arguments: by an ordinary link, or by one of the nest's -/
def Dii (M : MT) (pc : Nat) (M' : MT) (n : Nat) : Prop := ∃ idx : Nat, decode (mB M) pc = .ok (.invokespecial idx, 3) ∧ MOK M' ∧ (Jvm.Cond.methodLink (mY M).cls idx (mY M') ∈ tG ∨ ∃ host : String, Jvm.Cond.methodLinkNest (mY M).cls idx (mY M') host ∈ nestW) ∧ (parseMethodDescriptor (mY M').desc).map (fun d => d.parameters.length) = some 0 ∧ mL M' ≤ 17 ∧ (mY M').name = "<init>" ∧ Jvm.Cond.instanceMethod (mY M') ∈ tG ∧ mR M' = none ∧ pc + 3 = n
theorem A.invI {kb' : Nat × Nat} {a : Nat} (hd : Dii M pc M' n) (hM : AM M' d h [vR a] (kont M fr kb' n L S Rp)) (hz : kb'.1 + mC M' = kb.1 ∧ kb'.2 + mS M' = kb.2) (hdf : d + 1 ≤ fr) (hS4 : S.length ≤ 4) : AW M fr kb pc L (vR a :: S) h Rp := by
  intro p l e R s m args below meth c Q G X H locs cells slots ls hH hS hL hV hcl' hsl
  obtain ⟨idx, hd, hOK, hlk, hpa, hml, hnm, hins, hret, rfl⟩ := hd
  have hcs := cat_sum G S
  have hts := X.1.2.2.2.2
  have hM' := hM (fun v hv => by rw [List.mem_singleton.mp hv]; trivial) l G
  have hGI := tG_in hOK
  rw [hret] at hM' hGI
  have hrun : va_Run p l e R s m args below meth c H locs cells slots (mC M') (mS M') (F0 m pc ls ((vR a :: S).map (cv G))) (S.map (cv G)) (qM G (kont M fr kb' (pc + 3) L S Rp)) (gA G) := by
    rcases hlk with hlk | ⟨host, hlk⟩
    · exact va_runI (As := []) (n := 0) (S := ⟨X.1.1, X.1.2.1, X.1.2.2.1, X.1.2.2.2.1, hts⟩) hM'
        (cwI 0 hts hGI rfl rfl rfl (hts _ hOK.2.2.1) (hts _ hlk) (hts _ hins) hnm ⟨hOK.2.2.2.1, hOK.2.2.2.2, hpa⟩ ⟨by rw [X.2.1.2.2.2.1]; exact hdf, by have := X.2.1.2.2.2.2.1; show 8 + (mL M' + 11) + 36 * d ≤ R.locals; omega⟩)
        ⟨pc_blind, pc_here (as := [vR a]) hH X.2.1.1⟩
        (g := F0 m pc ls ((vR a :: S).map (cv G))) (rest := S.map (cv G)) rfl rfl hL.1.1 rfl (by show 2 * 0 + _ ≤ 8; omega) hd ⟨by omega, by omega⟩
    · exact va_runIN (As := []) (n := 0) (S := ⟨X.1.1, X.1.2.1, X.1.2.2.1, X.1.2.2.2.1, hts⟩) hM'
        ⟨va_cnB 0 hts hGI rfl rfl rfl (X.2.1.1.2.1 _ hlk) (hts _ hOK.2.2.1) ⟨hOK.2.2.2.1, hOK.2.2.2.2, hpa⟩ ⟨by rw [X.2.1.2.2.2.1]; exact hdf, by have := X.2.1.2.2.2.2.1; show 8 + (mL M' + 11) + 36 * d ≤ R.locals; omega⟩, hnm, hts _ hins⟩
        ⟨pc_blind, pc_here (as := [vR a]) hH X.2.1.1⟩
        (g := F0 m pc ls ((vR a :: S).map (cv G))) (rest := S.map (cv G)) rfl rfl hL.1.1 rfl (by show 2 * 0 + _ ≤ 8; omega) hd ⟨by omega, by omega⟩
  exact AW.called hz.1 hz.2 X hS hL (vok_t hV) hcl' hsl hrun
/-- Object's constructor -/
def Doi (M : MT) (pc n : Nat) : Prop := ∃ idx : Nat, decode (mB M) pc = .ok (.invokespecial idx, 3) ∧ Jvm.Cond.methodLink (mY M).cls idx objectInit ∈ tG ∧ Jvm.Cond.instanceMethod objectInit ∈ tG ∧ Jvm.Cond.code objectInit ⟨#[0xb1]⟩ 1 none ∈ tG ∧ pc + 3 = n
theorem A.oinit {a : Nat} (hd : Doi M pc n) (k : AW M fr kb n L S h Rp) (hf : 1 ≤ fr) (hS4 : S.length ≤ 4) : AW M fr kb pc L (vR a :: S) h Rp := by
  intro p l e R s m args below meth c Q G X H locs cells slots ls hH hS hL hV hcl hsl
  obtain ⟨idx, hd, h1, h2, h3, rfl⟩ := hd
  have hts := X.1.2.2.2.2
  have hcs := cat_sum G S
  have hlo := X.2.1.2.2.2.2.1
  have hfr := X.2.1.2.2.2.1
  refine W.objInit X.1.1 X.1.2.1 X.1.2.2.2.1 (hts _ h1) (hts _ h2) (hts _ h3) rfl (by rw [X.1.2.2.1]; exact hL.1.1) (rest := S.map (cv G)) rfl hd (by rw [hfr]; exact hf) (by show 2 * 0 + _ + 12 ≤ _; omega) ?_
  exact k p l e R s m args below meth c Q G X H locs cells slots ls hH hS hL (vok_t hV) hcl hsl
/-! new cells -/
def dfv (ty : FieldType) : AV := match ty with
  | .int => vI 0
  | .long => vL 0
  | _ => vN
def Dnew (M : MT) (pc ci N : Nat) (fs : List AV) (n : Nat) : Prop := ∃ (idx : Nat) (C : String) (T : u_T) (ty : Nat → FieldType), decode (mB M) pc = .ok (.new idx, 3) ∧ vwCl[ci]? = some (C, T, N) ∧ (∀ w ∈ u_ws C T N, w ∈ tG) ∧ (∀ k, k < N → parseFieldDescriptor (T k).2.2.1 = some (ty k)) ∧ Jvm.Cond.classLink (mY M).cls idx C ∈ tG ∧ Jvm.Cond.instantiable C N ∈ tG ∧ Jvm.Cond.initialized C ∈ tG ∧ (∀ j, j < N → fs[j]? = some (dfv (ty j)) ∧ ∀ G : GD, cv G (dfv (ty j)) = defaultValue (ty j)) ∧ (∀ v ∈ fs, vok v) ∧ pc + 3 = n
theorem A.new {ci N c s' : Nat} {fs : List AV} (hd : Dnew M pc ci N fs n) (kk : ∀ h' : AH, h'.1 = (h.1.1 + 1, h.1.2) → h'.2 h.1.1 = some (kO ci fs) → (∀ q, q ≠ h.1.1 → h'.2 q = h.2 q) → AW M fr (c, s') n L (vR h.1.1 :: S) h' Rp) : AW M fr (c + 1, s' + N) pc L S h Rp := by
  intro p l e R s m args below meth c0 Q G X H locs cells slots ls hH hS hL hV hcl hsl
  obtain ⟨idx, C, T, ty, hd, h1, h2, h3, h4, h5, h6, h7, h8, rfl⟩ := hd
  have hts := X.1.2.2.2.2
  have hKn := X.2.1.1.1.1 ci _ h1
  simp only at hcl hsl
  refine W.newcK X.1.1 X.1.2.1 X.1.2.2.2.1 (hts _ h4) (hts _ h5) (hts _ h6) rfl hd (by omega) (by omega) hKn.2.1 rfl fun H1 kC hkC e1 z1 o1 => ?_
  have hat : va_at G.1 vwCl (H.size, enc G (kO ci fs)) H1 := by
    refine ⟨_, h1, (u_born ty hts h2 hKn hkC e1 h3).to fun j hj => ?_⟩
    show defaultValue (ty j) = (fs.map (cv G)).getD j .null
    rw [List.getD_eq_getElem?_getD, List.getElem?_map, (h7 j hj).1]
    exact ((h7 j hj).2 G).symm
  have hb : gB G ≤ H.size := hH.1.2
  have hsz : H.size = h.1.1 := hH.1.1
  have k1 := kk ((h.1.1 + 1, h.1.2), fun q => if q = h.1.1 then some (kO ci fs) else h.2 q) rfl (by simp) (fun q hq => by simp [hq]) p l e R s m args below meth c0 Q G X H1 locs (cells + 1) (slots + N) ls (hH.push z1 o1 hat h8) ⟨Nat.le_trans hS.1 (by omega), fun x g1 g2 => (o1 x (Nat.lt_of_lt_of_le g1 hS.1)).trans (hS.2.1 x g1 g2), hS.2.2⟩ hL (vok_c (v := vR h.1.1) trivial hV) (by simp only; omega) (by simp only; omega)
  rw [← hsz] at k1
  exact k1
def Dna (M : MT) (pc ty n : Nat) : Prop := ∃ atype : ArrayType, decode (mB M) pc = .ok (.newarray atype, 2) ∧ newarray.typeOf atype = tyF ty ∧ Jvm.Cond.arrayClass (tyF ty) ∈ tG ∧ defaultValue (tyF ty) = .int (Int32.ofInt 0) ∧ componentBytes (tyF ty) ≤ 4 ∧ vin ty 0 ∧ pc + 2 = n
theorem A.newa {ty N c s' : Nat} {z : Int} (hd : Dna M pc ty n) (kk : ∀ h' : AH, h'.1 = (h.1.1 + 1, h.1.2) → h'.2 h.1.1 = some (kA ty N (fun _ => 0)) → (∀ q, q ≠ h.1.1 → h'.2 q = h.2 q) → AW M fr (c, s') n L (vR h.1.1 :: S) h' Rp) (hz : z = N := by rfl) (hN : N ≤ 100000 := by decide) : AW M fr (c + 1, s' + N) pc L (vI z :: S) h Rp := by
  subst hz
  intro p l e R s m args below meth c0 Q G X H locs cells slots ls hH hS hL hV hcl hsl
  obtain ⟨aty, hd, h1, h2, h3, h4, h5, rfl⟩ := hd
  have hts := X.1.2.2.2.2
  simp only at hcl hsl
  have hr : (-2147483648 : Int) ≤ (N : Int) ∧ (N : Int) ≤ 2147483647 := by omega
  refine va_newaK X.1.1 X.1.2.1 (by rw [h1]; exact hts _ h2) rfl hd rfl (N := N) (by rw [i32_0, i32_lt hr (by omega)]; omega) (by rw [i32_cl hr]; omega) (by rw [h1]; calc N * componentBytes (tyF ty) ≤ N * 4 := Nat.mul_le_mul_left _ h4
      _ ≤ 536870912 := by omega) (by omega) (by omega) rfl fun H1 cA e1 z1 o1 hAr hNm => ?_
  rw [h1] at e1 hNm
  have hcA : cA = gC G ty := by
    have hRA := (X.2.1.1.arr ty).2
    have : s.vm.findClass ("[" ++ (tyF ty).toString) = some (gC G ty) := by
      match ty, hRA with
      | 0, hRA => exact hRA
      | 1, hRA => exact hRA
      | ty + 2, hRA => exact hRA
    exact Option.some.inj (hNm.symm.trans this)
  subst hcA
  have hat : va_at G.1 vwCl (H.size, enc G (kA ty N (fun _ => 0))) H1 := by
    show H1[H.size]? = some (vp_cell _ _)
    rw [e1, h3]
    rfl
  have hsz : H.size = h.1.1 := hH.1.1
  have k1 := kk ((h.1.1 + 1, h.1.2), fun q => if q = h.1.1 then some (kA ty N (fun _ => 0)) else h.2 q) rfl (by simp) (fun q hq => by simp [hq]) p l e R s m args below meth c0 Q G X H1 locs (cells + 1) (slots + N) ls (hH.push z1 o1 hat ⟨by omega, fun _ _ => h5⟩) ⟨Nat.le_trans hS.1 (by omega), fun x g1 g2 => (o1 x (Nat.lt_of_lt_of_le g1 hS.1)).trans (hS.2.1 x g1 g2), hS.2.2⟩ hL (vok_c (v := vR h.1.1) trivial (vok_t hV)) (by simp only; omega) (by simp only; omega)
  rw [← hsz] at k1
  exact k1
def Dnq (M : MT) (pc n : Nat) : Prop := ∃ idx : Nat, decode (mB M) pc = .ok (.anewarray idx, 3) ∧ Jvm.Cond.classLink (mY M).cls idx RX1 ∈ tG ∧ pc + 3 = n
theorem A.newq {N c s' : Nat} {z : Int} (hd : Dnq M pc n) (kk : ∀ h' : AH, h'.1 = (h.1.1 + 1, h.1.2) → h'.2 h.1.1 = some (kQ N (fun _ => none)) → (∀ q, q ≠ h.1.1 → h'.2 q = h.2 q) → AW M fr (c, s') n L (vR h.1.1 :: S) h' Rp) (hz : z = N := by rfl) (hN : N ≤ 100000 := by decide) : AW M fr (c + 1, s' + N) pc L (vI z :: S) h Rp := by
  subst hz
  intro p l e R s m args below meth c0 Q G X H locs cells slots ls hH hS hL hV hcl hsl
  obtain ⟨idx, hd, h1, rfl⟩ := hd
  have hts := X.1.2.2.2.2
  simp only at hcl hsl
  have hr : (-2147483648 : Int) ≤ (N : Int) ∧ (N : Int) ≤ 2147483647 := by omega
  have hcl3 : (Int32.ofInt (N : Int)).toNatClampNeg = N := by rw [i32_cl hr]; omega
  refine W.anew X.1.1 X.1.2.1 X.1.2.2.2.1 (hts _ h1) (va_AO.use X.2.1.1.2.2.2) rfl hd rfl (by rw [i32_0, i32_lt hr (by omega)]; omega) (by rw [hcl3]; omega) (by omega) (by rw [hcl3]; omega) fun cA kA comp f1 f2 f3 f4 => ?_
  rw [hcl3]
  generalize hH1 : H.push ({ cls := cA, slots := Array.replicate N .null, vm := .none } : Cell) = H1
  have z1 : H1.size = H.size + 1 := by rw [← hH1, Array.size_push]
  have e1 : H1[H.size]? = some (arrV cA N (fun _ => .null)) := by rw [← hH1, Array.getElem?_push_size, ← arrV_new]
  have o1 : ∀ q : Nat, q < H.size → H1[q]? = H[q]? := fun q hq => by rw [← hH1, Array.getElem?_push, if_neg (Nat.ne_of_lt hq)]
  have hcA : cA = gQ G := by
    obtain ⟨kA', comp', g1, g2, g3, g4⟩ := X.2.1.1.arq.2
    exact Option.some.inj (f1.symm.trans g4)
  subst hcA
  have hat : va_at G.1 vwCl (H.size, enc G (kQ N (fun _ => none))) H1 := by
    show H1[H.size]? = some (vp_cell _ _)
    rw [e1]
    rfl
  have hsz : H.size = h.1.1 := hH.1.1
  have k1 := kk ((h.1.1 + 1, h.1.2), fun q => if q = h.1.1 then some (kQ N (fun _ => none)) else h.2 q) rfl (by simp) (fun q hq => by simp [hq]) p l e R s m args below meth c0 Q G X H1 locs (cells + 1) (slots + N) ls (hH.push z1 o1 hat (show N ≤ 2147483647 by omega)) ⟨Nat.le_trans hS.1 (by omega), fun x g1 g2 => (o1 x (Nat.lt_of_lt_of_le g1 hS.1)).trans (hS.2.1 x g1 g2), hS.2.2⟩ hL (vok_c (v := vR h.1.1) trivial (vok_t hV)) (by simp only; omega) (by simp only; omega)
  rw [← hsz] at k1
  exact k1
/-! constants -/
def Dl2 (M : MT) (pc : Nat) (x : Int64) (n : Nat) : Prop := ∃ idx : Nat, decode (mB M) pc = .ok (.ldc2_w idx, 3) ∧ Jvm.Cond.constantLong (mY M).cls idx x ∈ tG ∧ pc + 3 = n
theorem A.ldc2 {x : Int64} (hd : Dl2 M pc x n) (k : AW M fr kb n L (vL x :: S) h Rp) : AW M fr kb pc L S h Rp :=
  AW.go (fun hV _ => vok_cl hV) (fun p l e R s m args below meth c Q G H locs cells slots ls hx hb hown hts _ _ hL kk => by
    obtain ⟨idx, hd, h1, rfl⟩ := hd
    exact lv_ldc2 hx hb hown (hts _ h1) hd (kk ls hL)) k
theorem A.lcmp_ne {x y : Int64} {t n2 : Nat} (hd : Dc M pc .lcmp 1 n) (hd2 : Dif M n .ne t n2) (kt : x ≠ y → AW M fr kb t L S h Rp) (kf : x = y → AW M fr kb n2 L S h Rp) : AW M fr kb pc L (vL y :: vL x :: S) h Rp := by
  intro p l e R s m args below meth c Q G X H locs cells slots ls hH hS hL hV hcl hsl
  obtain ⟨hd, rfl⟩ := hd
  obtain ⟨off, hd2, ht, rfl⟩ := hd2
  have k1 := fun q => kt q p l e R s m args below meth c Q G X H locs cells slots ls hH hS hL (vok_t (vok_t hV)) hcl hsl
  have k2 := fun q => kf q p l e R s m args below meth c Q G X H locs cells slots ls hH hS hL (vok_t (vok_t hV)) hcl hsl
  refine W.lcmp X.1.1 X.1.2.1 hd ?_
  have h0 : lg_cmp x y = 0 ↔ x = y := by
    constructor
    · intro q
      by_cases h1 : y < x
      · simp [lg_cmp, h1] at q
      · by_cases h2 : x = y
        · exact h2
        · simp [lg_cmp, h1, h2] at q
    · intro q
      subst q
      have h1 : ¬ x < x := by rw [Int64.lt_iff_toInt_lt]; omega
      simp [lg_cmp]
  exact lv_if_ne X.1.1 X.1.2.1 hd2 ht (fun q => k1 fun e => q (h0.mpr e)) (fun q => k2 (h0.mp q))
/-! a copy of an array of ints into another of the same length -/
theorem arrV_congr (c : ClassId) {N : Nat} {f g : Nat → Value} (h : ∀ j, j < N → f j = g j) : arrV c N f = arrV c N g := by
  show ({ cls := c, slots := Array.ofFn (n := N) fun j => f j.val, vm := .none } : Cell) = { cls := c, slots := Array.ofFn (n := N) fun j => g j.val, vm := .none }
  congr 1
  congr 1
  funext j
  exact h j.val j.isLt
def Dac (M : MT) (pc n : Nat) : Prop := ∃ idx : Nat, decode (mB M) pc = .ok (.invokestatic idx, 3) ∧ Jvm.Cond.methodLink (mY M).cls idx arraycopyName ∈ tG ∧ Jvm.Cond.native arraycopyName ∈ tG ∧ Jvm.Cond.static arraycopyName ∈ tG ∧ Jvm.Cond.initialized "java/lang/System" ∈ tG ∧ pc + 3 = n
theorem A.acopy {a a0 N : Nat} {f g : Int → Int} {N' : Int} (hd : Dac M pc n) (hc0 : h.2 a0 = some (kA 0 N f)) (hc : h.2 a = some (kA 0 N g)) (kk : ∀ h' : AH, h'.2 a = some (kA 0 N f) → Fr h h' a 1 → AW M fr kb n L S h' Rp) (hN : N' = N) (hfr : 1 ≤ fr) (hS4 : S.length ≤ 4) : AW M fr kb pc L (vI N' :: vI 0 :: vR a :: vI 0 :: vR a0 :: S) h Rp := by
  subst hN
  intro p l e R s m args below meth c Q G X H locs cells slots ls hH hS hL hV hcl hsl
  obtain ⟨idx, hd, d1, d2, d3, d4, rfl⟩ := hd
  have hts := X.1.2.2.2.2
  have hcs := cat_sum G S
  obtain ⟨g1, g2, g3⟩ := hH.2.1 a _ hc
  obtain ⟨b1, b2, b3⟩ := hH.2.1 a0 _ hc0
  have hN1 := g2.1
  have hr : (-2147483648 : Int) ≤ (N : Int) ∧ (N : Int) ≤ 2147483647 := by omega
  have hcN : (Int32.ofInt (N : Int)).toNatClampNeg = N := by rw [i32_cl hr]; omega
  have hc00 : (Int32.ofInt (0 : Int)).toNatClampNeg = 0 := rfl
  obtain ⟨-, k0, hk0, cm0, hkk0⟩ := (X.2.1.1.arr 0).1 N (fun j => .int (Int32.ofInt (f j)))
  intro T hT X0
  obtain ⟨vm', X', step⟩ := X0.arraycopy X.1.1 X.1.2.2.2.1 (hts _ d1) (hts _ d2) (hts _ d3) (hts _ d4) (src := a0) (dst := a) (cs := vp_cell (gC G 0) (N, .inl (fun j : Nat => Int32.ofInt (f j)))) (cd := vp_cell (gC G 0) (N, .inl (fun j : Nat => Int32.ofInt (g j)))) (srcPos := Int32.ofInt 0) (destPos := Int32.ofInt 0) (n := Int32.ofInt (N : Int)) (by rw [hT]; exact b1) (by rw [hT]; exact g1)
    (fun _ h => by cases h) (fun _ h => by cases h) (fun h => by cases h) (fun h => by cases h) hk0 hk0 hkk0 hkk0 (by simp [tyF, refKind]) (by decide) (by decide) (by rw [i32_0, i32_lt hr (by omega)]; omega)
    (by rw [of_i32 hr]; show ¬ _ > ((arrV (gC G 0) N _).slots.size : Int); rw [arrV_size]; show ¬ (0 : Int) + (N : Int) > (N : Int); omega)
    (by rw [of_i32 hr]; show ¬ _ > ((arrV (gC G 0) N _).slots.size : Int); rw [arrV_size]; show ¬ (0 : Int) + (N : Int) > (N : Int); omega)
    (fun vm₁ _ i hi => by
      rw [hcN] at hi
      have e : (vp_cell (gC G 0) (N, .inl (fun j : Nat => Int32.ofInt (f j)))).slots.getD ((Int32.ofInt 0).toNatClampNeg + i) .null = .int (Int32.ofInt (f i)) := by
        show (arrV (gC G 0) N _).slots.getD _ _ = _
        rw [hc00, Nat.zero_add, Array.getD_eq_getD_getElem?, arrV_read _ _ hi]
        rfl
      rw [e]
      exact ⟨rfl, trivial⟩)
    (g := F0 m pc ls ((vI (N : Int) :: vI 0 :: vR a :: vI 0 :: vR a0 :: S).map (cv G))) rfl (by rw [X.1.2.2.1]; exact hL.1.1) (rest := S.map (cv G)) rfl (by rw [X.1.2.1]; exact hd) (by rw [X.2.1.2.2.2.1]; exact hfr) (by
      have h1 := X.2.1.2.2.2.2.1
      show 2 * 0 + _ + (nativeFrameWords "java/lang/System" "arraycopy" 5 + 11) ≤ _
      have h2 : nativeFrameWords "java/lang/System" "arraycopy" 5 = 7 := by decide
      rw [h2]
      omega)
  have e1 : copied (vp_cell (gC G 0) (N, .inl (fun j : Nat => Int32.ofInt (f j)))) (vp_cell (gC G 0) (N, .inl (fun j : Nat => Int32.ofInt (g j)))) (Int32.ofInt 0) (Int32.ofInt 0) (Int32.ofInt (N : Int)) = vp_cell (gC G 0) (N, .inl (fun j : Nat => Int32.ofInt (f j))) := by
    have := va_copied (fun z => Value.int z) (gC G 0) (gC G 0) (n0 := N) (n1 := N) (sp := 0) (dp := 0) (n := N) (fun j : Nat => Int32.ofInt (f j)) (fun j : Nat => Int32.ofInt (g j)) (by omega)
    show (vp_cell _ _).storeRun (Int32.ofInt 0).toNatClampNeg ((vp_cell _ _).stretch (Int32.ofInt 0).toNatClampNeg (Int32.ofInt (N : Int)).toNatClampNeg) = _
    rw [hcN, hc00, vp_cell_i, vp_cell_i, this]
    refine arrV_congr _ fun j hj => ?_
    simp [va_cpy, hj]
  rw [e1] at X' step
  have hl : a < H.size := (Array.getElem?_eq_some_iff.mp g1).1
  have hheap : ((T.setVm vm').setCell a (vp_cell (gC G 0) (N, .inl (fun j : Nat => Int32.ofInt (f j))))).heap = H.setIfInBounds a (vp_cell (gC G 0) (N, .inl (fun j : Nat => Int32.ofInt (f j)))) := by rw [← hT]; rfl
  have oq : ∀ q : Nat, q ≠ a → (H.setIfInBounds a (vp_cell (gC G 0) (N, .inl (fun j : Nat => Int32.ofInt (f j)))))[q]? = H[q]? := fun q hq => by simp [Array.getElem?_setIfInBounds, Ne.symm hq]
  obtain ⟨t, a1, w1⟩ := kk _ hput_at Fr.put p l e R s m args below meth c Q G X _ _ cells slots ls (hH.store hc (H1 := H.setIfInBounds a (vp_cell (gC G 0) (N, .inl (fun j : Nat => Int32.ofInt (f j))))) (by simp) oq (show (H.setIfInBounds a _)[a]? = some _ by simp [Array.getElem?_setIfInBounds, hl]) b2)
    ⟨by simp; exact hS.1, fun q q1 q2 => by
      rw [oq q (fun e => q2 (by rw [e]; exact g3))]
      exact hS.2.1 q q1 q2, fun q hq => by
      rcases List.mem_append.mp hq with z | z
      · exact hS.2.2 q z
      · obtain ⟨w, -, hw⟩ := List.mem_map.mp z
        rw [← hw]
        exact g3⟩ hL (vok_t (vok_t (vok_t (vok_t (vok_t hV))))) hcl hsl _ hheap X'
  exact ⟨t, step t a1, w1⟩
/-! a long into the locals -/
theorem lset2_len : ∀ (L : List (Option AV)) (i : Nat) (v : AV), (lset2 L i v).length = L.length := by
  intro L
  induction L with
  | nil => intro i v; match i with
    | 0 => rfl
    | 1 => rfl
    | i + 2 => rfl
  | cons x l ih =>
    intro i v
    match i with
    | 0 => cases l <;> rfl
    | 1 => simp [lset2, ih]
    | i + 2 => simp [lset2, ih]
theorem lset2_get : ∀ (L : List (Option AV)) (i j : Nat) (v w : AV), i + 1 < L.length → (lset2 L i v)[j]? = some (some w) → (j = i ∧ w = v) ∨ (j ≠ i ∧ j ≠ i + 1 ∧ L[j]? = some (some w) ∧ ¬ (j + 1 = i ∧ isL w = true)) := by
  intro L
  induction L with
  | nil => intro i j v w hi; simp at hi
  | cons x l ih =>
    intro i j v w hi h
    match i, l, ih, hi, h with
    | 0, [], _, hi, _ => simp at hi
    | 0, y :: l, _, _, h =>
      match j, h with
      | 0, h => left; simp [lset2] at h; exact ⟨rfl, h.symm⟩
      | 1, h => simp [lset2] at h
      | j + 2, h => right; refine ⟨by omega, by omega, by simpa [lset2] using h, by omega⟩
    | 1, l, ih, hi, h =>
      match j, h with
      | 0, h =>
        right
        have h2 : nlong x = some w := by simpa [lset2] using h
        obtain ⟨h3, h4⟩ := nlong_some h2
        exact ⟨by omega, by omega, by simp [h3], fun q => by rw [h4] at q; exact absurd q.2 (by decide)⟩
      | j + 1, h =>
        have h2 : (lset2 l 0 v)[j]? = some (some w) := by simpa [lset2] using h
        rcases ih 0 j v w (by simp at hi; omega) h2 with ⟨q1, q2⟩ | ⟨q1, q2, q3, q4⟩
        · left; exact ⟨by omega, q2⟩
        · right; exact ⟨by omega, by omega, by simpa using q3, by omega⟩
    | i + 2, l, ih, hi, h =>
      match j, h with
      | 0, h => right; exact ⟨by omega, by omega, by simpa [lset2] using h, by omega⟩
      | j + 1, h =>
        have h2 : (lset2 l (i + 1) v)[j]? = some (some w) := by simpa [lset2] using h
        rcases ih (i + 1) j v w (by simp at hi; omega) h2 with ⟨q1, q2⟩ | ⟨q1, q2, q3, q4⟩
        · left; exact ⟨by omega, q2⟩
        · right; exact ⟨by omega, by omega, by simpa using q3, fun q => q4 ⟨by omega, q.2⟩⟩
theorem LR.set2 {G : GD} {L : List (Option AV)} {ls ls' : Array Slot} {n i : Nat} {v : AV} (h : LR G L ls n) (hv : vok v) (hi : i + 1 < L.length)
    (h' : lv_has ls' n ((i, cv G v) :: (aLs G 0 L).filter (fun q => !(q.1 == i) && (!(q.1 == i + 1) && !(q.1 + 1 == i && q.2.category == 2))))) : LR G (lset2 L i v) ls' n := by
  refine ⟨⟨h'.1, h'.2.1, fun q hq => ?_⟩, by rw [lset2_len]; exact h.2.1, fun j w hj => ?_⟩
  · obtain ⟨j, x⟩ := q
    obtain ⟨w, -, h2, rfl⟩ := (aLs_in _ 0 j x).mp hq
    rw [Nat.sub_zero] at h2
    rcases lset2_get L i j v w hi h2 with ⟨rfl, rfl⟩ | ⟨q1, q2, q3, q4⟩
    · exact h'.2.2 _ List.mem_cons_self
    · refine h'.2.2 _ (List.mem_cons_of_mem _ (List.mem_filter.mpr ⟨(aLs_in L 0 j _).mpr ⟨w, Nat.zero_le _, by simpa using q3, rfl⟩, ?_⟩))
      simp only [Bool.and_eq_true, Bool.not_eq_true', beq_eq_false_iff_ne, ne_eq, Bool.and_eq_false_iff]
      refine ⟨q1, q2, ?_⟩
      by_cases e : j + 1 = i
      · right
        intro z
        exact q4 ⟨e, (isL_cat G w).mp z⟩
      · left; exact e
  · rcases lset2_get L i j v w hi hj with ⟨rfl, rfl⟩ | ⟨q1, q2, q3, q4⟩
    · exact hv
    · exact h.2.2 j w q3
theorem A.lstore {i : Nat} {x : Int64} {L' : List (Option AV)} (hd : Dls M pc i n) (hi : i + 1 < L.length) (hl : lset2 L i (vL x) = L') (k : AW M fr kb n L' S h Rp) : AW M fr kb pc L (vL x :: S) h Rp := by
  subst hl
  exact AW.go (fun hV _ => vok_t hV) (fun p l e R s m args below meth c Q G H locs cells slots ls hx hb _ _ _ hV hL kk => by
    have hi' : i + 1 < mL M := by rw [← hL.2.1]; exact hi
    rcases hd with ⟨q, hd, hq, rfl⟩ | ⟨hd, rfl⟩
    · exact lv_lstore_n hx hb hd hq hL.1 hi' rfl (fun ls' h' => kk ls' (hL.set2 (v := vL x) trivial hi h'))
    · exact lv_lstore hx hb hd hL.1 hi' rfl (fun ls' h' => kk ls' (hL.set2 (v := vL x) trivial hi h'))) k
/-! the constant of the letters -/
def Dst (M : MT) (pc n : Nat) : Prop := decode (mB M) pc = .ok (.ldc 46, 2) ∧ (mY M).cls = RX4 ∧ pc + 2 = n
theorem A.ldcS (hd : Dst M pc n) (k : AW M fr kb n L (vS :: S) h Rp) : AW M fr kb pc L S h Rp :=
  AW.go (fun hV _ => vok_c (v := vS) trivial hV) (fun p l e R s m args below meth c Q G H locs cells slots ls hx hb hown _ hK _ hL kk => by
    obtain ⟨hd, hcl, rfl⟩ := hd
    rw [hcl] at hown
    exact va_ldcS hx hb hown hK.2.2.1 hd (kk ls hL)) k
end CALLS
