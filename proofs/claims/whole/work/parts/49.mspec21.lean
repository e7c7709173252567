/-- what reading a text for court F leaves as it was -/
def GF (M M2 : MZ) (F : Nat) (Sg Sg0 : Nat → Int32) : Prop := M2.1 = M.1 ∧ M2.2.2 = M.2.2 ∧ (∀ j, j < 7 ∨ 11 < j → M2.2.1 j = M.2.1 j) ∧ (∀ i, i ≠ F → M2.2.1 7 i = M.2.1 7 i) ∧ (∀ j i, 8 ≤ j → j ≤ 11 → i < 10 * F → M2.2.1 j i = M.2.1 j i) ∧ (∀ j, j < 100 * F → Sg j = Sg0 j)
theorem GF.m4 {M M2 M3 : MZ} {F c bs : Nat} {Sg Sg0 Sg3 : Nat → Int32} (h : GF M M2 F Sg Sg0) (h3 : M4 M2 M3 c) (hc : 10 * F ≤ c) (hS : ∀ j, j < bs → Sg3 j = Sg j) (hb : 100 * F ≤ bs) : GF M M3 F Sg3 Sg0 := by
  obtain ⟨a1, a2, a3, a4, a5, a6⟩ := h
  obtain ⟨b1, b2, b3, b4⟩ := h3
  refine ⟨b1.trans a1, b2.trans a2, fun j hj => (b3 j (by omega)).trans (a3 j hj), fun i hi => ?_, fun j i h8 h11 hi => (b4 j i (by omega)).trans (a5 j i h8 h11 hi), fun j hj => (hS j (by omega)).trans (a6 j hj)⟩
  rw [b3 7 (by decide)]
  exact a4 i hi
theorem GF.p7 {M M2 : MZ} {F : Nat} {Sg Sg0 : Nat → Int32} (h : GF M M2 F Sg Sg0) (v : Int32) : GF M (msa M2 7 F v) F Sg Sg0 := by
  obtain ⟨a1, a2, a3, a4, a5, a6⟩ := h
  refine ⟨a1, a2, fun j hj => (if_neg (by omega)).trans (a3 j hj), fun i hi => ?_, fun j i h8 h11 hi => ?_, a6⟩
  · show upd (M2.2.1 7) F v i = _
    exact (if_neg hi).trans (a4 i hi)
  · show va_up M2.2.1 7 _ j i = _
    simp only [va_up]
    rw [if_neg (by omega)]
    exact a5 j i h8 h11 hi
/-- what goesText leaves -/
def GO (M : MZ) (P D : HP) (F : Nat) (Sg0 : Nat → Int32) (R : Bool × Nat × CLs) (y : Int32) (h : HP) : Prop := y = b2i (R.1 = true) ∧ ∃ M2 dg sn wt op Sg W bs, GF M M2 F Sg Sg0 ∧ (R.1 = true → M2.2.1 7 F = nI R.2.2.length ∧ R.2.2.length ≤ 10 ∧ bs ≤ 600 ∧ CS M2 Sg (10 * F) bs R.2.2) ∧ h = mh P (pst M2 (nI R.2.1) dg sn wt op Sg W) D
