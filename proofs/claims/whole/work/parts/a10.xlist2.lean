theorem BF.nil (f : Nat → Value) : BF [] f := fun i hi => absurd hi (Nat.not_lt_zero i)
theorem BF.cpy {tr : List Int32} {f g : Nat → Value} (h : BF tr f) (hl : tr.length ≤ 10) : BF tr (va_cpy f g 0 0 10) := fun i hi => by
  have e : va_cpy f g 0 0 10 i = f i := by
    unfold va_cpy
    rw [if_pos (by omega)]
    congr 1
    omega
  rw [e]
  exact h i hi
theorem BF.box {tr : List Int32} {f : Nat → Value} (h : BF tr f) (hb : ∀ b, b ∈ tr → 0 ≤ b ∧ b ≤ 127) : ∀ k : Nat, k < tr.length → ∃ b : UInt32, b.toNat < 256 ∧ f k = .float b := fun k hk => by
  refine ⟨_, ?_, h k hk⟩
  refine bx_lt (hb _ ?_)
  rw [List.getD_eq_getElem?_getD, List.getElem?_eq_getElem hk]
  exact List.getElem_mem hk
theorem all_push {tr : List Int32} {b : Int32} (h : ∀ x, x ∈ tr → 0 ≤ x ∧ x ≤ 127) (hb : 0 ≤ b ∧ b ≤ 127) : ∀ x, x ∈ tr ++ [b] → 0 ≤ x ∧ x ≤ 127 := fun x hx => by
  rcases List.mem_append.mp hx with z | z
  · exact h x z
  · rw [List.mem_singleton.mp z]; exact hb
theorem BO.put {X2 : XZ} {D2 : HP} {n cap : Nat} {f : Nat → Value} {tr : List Int32} {b : Int32} (hn : 136 ≤ n) (he : X2.2.2.2.1 3 = .ref n) (hc : D2[n - 136]? = some (.inl (8, cap, .inr (.inr f)))) (hcap : cap = 10 ∨ cap = 15) (hl : tr.length < cap) (hl2 : tr.length ≤ 14) (ht : ∀ x, x ∈ tr → 0 ≤ x ∧ x ≤ 127) (hb : 0 ≤ b ∧ b ≤ 127) (hf : BF tr f) : BO (x1 X2 53 (nI (tr.length + 1))) (D2.set (n - 136) (.inl (8, cap, .inr (.inr (va_up f tr.length (.float (bx b))))))) (tr ++ [b]) := by
  refine ⟨?_, by rw [List.length_append, List.length_singleton]; omega, all_push ht hb, cap, _, Or.inr ⟨hcap, n, hn, he, d_at hc⟩, by rw [List.length_append, List.length_singleton]; omega, hf.push⟩
  rw [List.length_append, List.length_singleton]
  exact x1at _ _ _
