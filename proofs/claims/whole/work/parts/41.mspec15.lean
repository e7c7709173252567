/-- the head of a clause: its word, does it stand, where reading stops -/
def hdW (T : Nat → Int32) (N a : Nat) : Int32 := if sg T N a = 105 then 0 else if sg T N a = 119 then 1 else 2
def hdR (T : Nat → Int32) (N : Nat) (LT : Nat → Int32) (a : Nat) : Bool × Nat := if sg T N a = 105 then twR T N LT 2 0 a else if sg T N a = 119 then twR T N LT 3 2 a else twR T N LT 3 5 a
theorem twR_le (T : Nat → Int32) (N : Nat) (LT : Nat → Int32) : ∀ (m j a : Nat), a ≤ N → (∀ i, i < j + m → ¬ LT i = -1) → (twR T N LT m j a).2 ≤ N
  | 0, j, a, ha, _ => by
    unfold twR
    by_cases e : sg T N a = 32
    · rw [if_pos e]; exact sg_lt (fun z => by rw [z] at e; exact absurd e (by decide))
    · rw [if_neg e]; exact ha
  | m + 1, j, a, ha, h => by
    unfold twR
    by_cases e : sg T N a = LT j
    · rw [if_pos e]
      exact twR_le T N LT m (j + 1) (a + 1) (sg_lt (fun z => h j (by omega) (by rw [← e, z]))) (fun i hi => h i (by omega))
    · rw [if_neg e]; exact ha
