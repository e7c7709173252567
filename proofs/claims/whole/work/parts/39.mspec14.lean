/-- a word: m letters from LT j on, and a space -/
def twR (T : Nat → Int32) (N : Nat) (LT : Nat → Int32) : Nat → Nat → Nat → Bool × Nat
  | 0, _, a => if sg T N a = 32 then (true, a + 1) else (false, a)
  | m + 1, j, a => if sg T N a = LT j then twR T N LT m (j + 1) (a + 1) else (false, a)
