/-! ===== the reference: the chart is drawn ===== -/
theorem scr_any {fl : Int} (V F : FN) (h0 : 0 ≤ fl) (h1 : fl ≤ 63) : scrR (0, fl, V, fun k => if V k = -11 then -11 else F k) fl V F := ⟨rfl, ⟨h0, h1⟩, fun k _ _ => ⟨rfl, rfl⟩⟩
theorem cR_0 {Re Ch Fm By Ie Ef Eb : FN} (h : ∀ s : Int, 0 ≤ s → s < 1984 → Re s = 0) (g : ∀ e : Int, 0 ≤ e → e < 13 → Ie e = 0) : cR (z0, 0, z0, z0, z0, z0, z0, z0, z0) 0 Re Ch Fm By Ie Ef Eb :=
  ⟨rfl, h, fun k k0 k1 => by
    have k1 : k < 0 := k1
    omega, fun e e0 e1 => ⟨g e e0 e1, fun z => by
    have z : (0 : Int) = 1 := z
    omega⟩⟩
