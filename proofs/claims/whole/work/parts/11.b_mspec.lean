/-! what the model's methods answer: first words -/
abbrev isS (M : MZ) (p : Int32) : Prop := 0 ≤ p ∧ p ≤ M.1 0 - 1
abbrev isF (f : Int32) : Prop := 0 ≤ f ∧ f ≤ 9
/-- an answer that is told exactly, and the heap -/
abbrev XI (x : Int32) (h : HP) : PO := PI fun y h' => y = x ∧ h' = h
abbrev XL (x : Int64) (h : HP) : PO := PL fun y h' => y = x ∧ h' = h
abbrev XV (h : HP) : PO := PV fun h' => h' = h
/-- the model's numbers stay in their bounds -/
def MI (M : MZ) : Prop := (0 ≤ M.1 0 ∧ M.1 0 ≤ 4) ∧ (0 ≤ M.1 1 ∧ M.1 1 ≤ 4) ∧ (0 ≤ M.1 2 ∧ M.1 2 ≤ 4)
theorem in4_of {M : MZ} {p : Int32} (hM : (0 ≤ M.1 0 ∧ M.1 0 ≤ 4)) (hp : isS M p) : vp_in p 4 := by
  rw [vp_in_iff]
  have h1 : (M.1 0 - 1).toInt = (M.1 0).toInt - 1 := fb_subI (by have := hM.1; have := hM.2; simp only [Int32.le_iff_toInt_le] at *; simp at *; omega) (by have := hM.1; have := hM.2; simp only [Int32.le_iff_toInt_le] at *; simp at *; omega)
  have h2 := hp.1
  have h3 := hp.2
  have h4 := hM.2
  rw [Int32.le_iff_toInt_le] at h2 h3 h4
  rw [h1] at h3
  simp at h2 h4
  omega
