theorem BO.cases {X : XZ} {D : HP} {tr : List Int32} (h : BO X D tr) : (tr = [] ∧ X.2.2.2.1 3 = .float 301) ∨ ∃ n cap f, 136 ≤ n ∧ X.2.2.2.1 3 = .ref n ∧ D[n - 136]? = some (.inl (8, cap, .inr (.inr f))) ∧ (cap = 10 ∨ cap = 15) ∧ tr.length ≤ cap ∧ BF tr f := by
  obtain ⟨h1, h2, h3, cap, f, hA, hl, hf⟩ := h
  rcases hA with ⟨rfl, he⟩ | ⟨hcap, n, hn, he, hc⟩
  · exact Or.inl ⟨List.eq_nil_of_length_eq_zero (by omega), he⟩
  · exact Or.inr ⟨n, cap, f, hn, he, hc, hcap, hl, hf⟩
theorem BO.cases3 {X : XZ} {D : HP} {tr : List Int32} (h : BO X D tr) (h14 : tr.length ≤ 14) : (tr = [] ∧ X.2.2.2.1 3 = .float 301) ∨ (∃ n cap f, 136 ≤ n ∧ X.2.2.2.1 3 = .ref n ∧ D[n - 136]? = some (.inl (8, cap, .inr (.inr f))) ∧ (cap = 10 ∨ cap = 15) ∧ tr.length < cap ∧ BF tr f) ∨ ∃ n f, 136 ≤ n ∧ X.2.2.2.1 3 = .ref n ∧ D[n - 136]? = some (.inl (8, 10, .inr (.inr f))) ∧ tr.length = 10 ∧ BF tr f := by
  rcases h.cases with h | ⟨n, cap, f, h1, h2, h3, h4, h5, h6⟩
  · exact Or.inl h
  · by_cases e : tr.length < cap
    · exact Or.inr (Or.inl ⟨n, cap, f, h1, h2, h3, h4, e, h6⟩)
    · have e2 : tr.length = cap := by omega
      rcases h4 with rfl | rfl
      · exact Or.inr (Or.inr ⟨n, f, h1, h2, h3, e2, h6⟩)
      · omega
theorem BO.nil {X : XZ} {D : HP} {n cap : Nat} {f : Nat → Value} (h1 : X.1 53 = 0) (hn : 136 ≤ n) (he : X.2.2.2.1 3 = .ref n) (hc : D[n - 136]? = some (.inl (8, cap, .inr (.inr f)))) (hcap : cap = 10 ∨ cap = 15) : BO X D [] := ⟨h1, by decide, fun _ h => absurd h List.not_mem_nil, cap, f, Or.inr ⟨hcap, n, hn, he, hc⟩, Nat.zero_le _, BF.nil f⟩
theorem BO.nil0 {X : XZ} {D : HP} (h1 : X.1 53 = 0) (he : X.2.2.2.1 3 = .float 301) : BO X D [] := ⟨h1, by decide, fun _ h => absurd h List.not_mem_nil, 0, fun _ => .null, Or.inl ⟨rfl, he⟩, Nat.zero_le _, BF.nil _⟩
