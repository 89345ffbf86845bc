/-! ===== the law ===== -/
theorem pAt.fr {h h' : AH} {x b w : Nat} {S : SC} {P : PL} {T : TX} (hp : pAt h x S P T) (f : Fr h h' b w) (hbw : x + 98 ≤ b) : pAt h' x S P T := by
  obtain ⟨sr, dr, a, n, Sd, re, wc, Cc, Lc, Lo, Wa, Es, m, hsd, x0, hX, hS, hD, hI, hJ, hPl, k0, k1, k2, k3, k4, k5, hm, hC⟩ := hp
  exact ⟨_, _, _, _, _, _, _, _, _, _, _, _, _, hsd, f.get x0 (by omega), hX.fr f (by omega), hS.fr f (by omega), hD.fr f (by omega), hI, hJ, hPl.fr f (by omega), f.get k0 (by omega), f.get k1 (by omega), f.get k2 (by omega), f.get k3 (by omega), f.get k4 (by omega), f.get k5 (by omega), hm.fr f (by omega), hC⟩
theorem pAt.gr {h h' : AH} {x b w : Nat} {S : SC} {P : PL} {T : TX} (hp : pAt h x S P T) (f : Gr h h' b w) (hbw : x + 98 ≤ b) : pAt h' x S P T := by
  obtain ⟨sr, dr, a, n, Sd, re, wc, Cc, Lc, Lo, Wa, Es, m, hsd, x0, hX, hS, hD, hI, hJ, hPl, k0, k1, k2, k3, k4, k5, hm, hC⟩ := hp
  exact ⟨_, _, _, _, _, _, _, _, _, _, _, _, _, hsd, f.get x0 (by omega), hX.gr f (by omega), hS.gr f (by omega), hD.gr f (by omega), hI, hJ, hPl.gr f (by omega), f.get k0 (by omega), f.get k1 (by omega), f.get k2 (by omega), f.get k3 (by omega), f.get k4 (by omega), f.get k5 (by omega), hm.gr f (by omega), hC⟩
theorem pAt.ob {h : AH} {x : Nat} {S : SC} {P : PL} {T : TX} (hp : pAt h x S P T) : ∃ fs, h.2 x = some (kO 5 fs) := by
  obtain ⟨sr, dr, a, n, Sd, re, wc, Cc, Lc, Lo, Wa, Es, m, hsd, x0, hX, hS, hD, hI, hJ, hPl, k0, k1, k2, k3, k4, k5, hm, hC⟩ := hp
  exact ⟨_, x0⟩
theorem Gr.sc {h h1 : AH} {a k : Nat} (g : Gr h h1 a k) : h1.1.2 = h.1.2 := by rw [g.1]
theorem Fr.sc {h h1 : AH} {a k : Nat} (g : Fr h h1 a k) : h1.1.2 = h.1.2 := by rw [g.1]
