theorem lg_le {x y : Int64} : lg_cmp x y ≤ 0 ↔ ¬ y < x := by
  unfold lg_cmp
  split
  · rename_i h
    exact ⟨fun z => absurd z (by decide), fun z => absurd h z⟩
  · split
    · rename_i h; subst h
      exact ⟨fun _ => Int64.lt_irrefl, fun _ => by decide⟩
    · rename_i h1 h2
      exact ⟨fun _ => h1, fun _ => by decide⟩
theorem lN_div {a b : Nat} (ha : a < 2 ^ 31) (hb : b < 2 ^ 31) : lN a / lN b = lN (a / b) := by
  apply Int64.toInt_inj.1
  have h := Nat.div_le_self a b
  have e : Int.tdiv (a : Int) (b : Int) = ((a / b : Nat) : Int) := by rw [Int.tdiv_eq_ediv_of_nonneg (by omega)]; exact (Int.natCast_ediv a b).symm
  generalize a / b = r at *
  rw [Int64.toInt_div, lN_toInt ha, lN_toInt hb, lN_toInt (by omega), e]
  exact Int.bmod_eq_of_le (by omega) (by omega)
theorem lN_rem {a b : Nat} (ha : a < 2 ^ 31) (hb : b < 2 ^ 31) : lN a - lN a / lN b * lN b = lN (a % b) := by
  have h := Nat.div_add_mod a b
  have h2 : a / b * b ≤ a := Nat.div_mul_le_self a b
  rw [lN_div ha hb, lN_mul, lN_sub h2]
  congr 1
  rw [Nat.mul_comm] at h
  omega
/-- the rests end in time -/
def EB (u v r : Nat) : Prop := v = 0 ∨ ∃ k, u * v < 2 ^ k ∧ k + (if u < v then 1 else 0) < r
theorem EB.step {u v r : Nat} (h : EB u v (r + 1)) (hv : ¬ v = 0) (hu : 0 < u) : EB v (u % v) r := by
  rcases h with h | ⟨k, h1, h2⟩
  · exact absurd h hv
  · by_cases e0 : u % v = 0
    · exact Or.inl e0
    · refine Or.inr ?_
      have hlt : u % v < v := Nat.mod_lt _ (by omega)
      by_cases e : u < v
      · rw [if_pos e] at h2
        rw [Nat.mod_eq_of_lt e, if_neg (by omega)]
        exact ⟨k, by rw [Nat.mul_comm]; exact h1, by omega⟩
      · rw [if_neg e] at h2
        rw [if_neg (by omega)]
        have h3 : v + u % v ≤ u := by
          have h4 := Nat.div_add_mod u v
          have h5 : 1 ≤ u / v := (Nat.one_le_div_iff (by omega)).mpr (by omega)
          have h6 : v * 1 ≤ v * (u / v) := Nat.mul_le_mul_left v h5
          omega
        have h7 : v * (2 * (u % v)) ≤ v * u := Nat.mul_le_mul_left v (by omega)
        have h8 : 0 < v * (u % v) := Nat.mul_pos (by omega) (by omega)
        rw [Nat.mul_comm v u] at h7
        rw [Nat.mul_left_comm] at h7
        cases k with
        | zero => simp at h1; omega
        | succ k =>
          rw [Nat.pow_succ] at h1
          exact ⟨k, by omega, by omega⟩
theorem EB.end {u v : Nat} (h : EB u v 0) : v = 0 := by
  rcases h with h | ⟨k, _, h2⟩
  · exact h
  · exact absurd h2 (Nat.not_lt_zero _)
theorem gcd_s (u v : Nat) : Nat.gcd v (u % v) = Nat.gcd u v := by rw [Nat.gcd_comm v, ← Nat.gcd_rec, Nat.gcd_comm]
