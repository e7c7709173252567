/-- a TEST at place a: is it one, where reading stops, its token -/
def ttP (T : Nat → Int32) (N a : Nat) : Prop := 0 ≤ plc (sg T N a) ∧ (60 ≤ sg T N (a + 1) ∧ sg T N (a + 1) ≤ 62) ∧ dgt (sg T N (a + 2))
def ttA (T : Nat → Int32) (N a : Nat) : Nat := if plc (sg T N a) < 0 then a else if 60 ≤ sg T N (a + 1) ∧ sg T N (a + 1) ≤ 62 then a + 2 + nbK T N (a + 2) else a + 1
def ttV (T : Nat → Int32) (N a : Nat) : Int32 := 1000 * plc (sg T N a) + 100 * (sg T N (a + 1) - 60) + nbS T N (a + 2) (nbK T N (a + 2))
theorem RD.fr {M : MZ} {P D : HP} {bs a : Nat} {dg : Int32} {Wl tk : List Int32} {Sg0 Sg1 W : Nat → Int32} {h : HP} (hr : RD M P D bs a dg Wl tk Sg1 W h) (he : ∀ j, j < bs → Sg1 j = Sg0 j) : RD M P D bs a dg Wl tk Sg0 W h := by
  obtain ⟨Sg, h1, h2, h3⟩ := hr
  exact ⟨Sg, h1, fun j hj => (h2 j hj).trans (he j hj), h3⟩
