theorem xw_0 (X : XZ) (j i : Nat) (v : Value) : (xw X j i v).1 = X.1 := rfl
/-- the class with one server more -/
def xborn (X : XZ) (j n : Nat) (hd sf : Int32) : XZ := x1 (xa (xa (xw X 0 j (.ref n)) 0 j hd) 1 j sf) 2 (nI (j + 1))
theorem xborn_fx (X : XZ) (j n : Nat) (hd sf : Int32) : FX X (xborn X j n hd sf) 0 := by
  refine ⟨fun k hk => x1_ne (by omega), fun k hk => ?_, rfl, fun _ _ => rfl, fun k hk => ?_⟩
  · show (xa (xa (xw X 0 j (.ref n)) 0 j hd) 1 j sf).2.1 k = _
    rw [xa_ne (by omega), xa_ne (by omega)]
    rfl
  · show va_up X.2.2.2.2 0 _ k = _
    exact if_neg hk
theorem xborn_sv (X : XZ) (j n : Nat) (hd sf : Int32) (i : Nat) : (xborn X j n hd sf).2.2.2.2 0 i = if i = j then .ref n else X.2.2.2.2 0 i := by
  show va_up X.2.2.2.2 0 (va_up (X.2.2.2.2 0) j (.ref n)) 0 i = _
  simp only [va_up, if_pos]
def mserv (M : MZ) (k v hd sf : Int32) : MZ := ms1 (mra (mborn M k v hd sf) 5 (fil (M.2.1 5) (4 * pz (M.1 0)) 4 (fun _ => 0))) 0 (M.1 0 + 1)
theorem SR.born {X : XZ} {D : HP} {M : MZ} {j : Nat} {k v hd sf : Int32} (h : SR X D 0 M) (hj : j < 4) (h0 : M.1 0 = nI j) (hk : 0 ≤ k ∧ k ≤ 6) (hz4 : M.2.1 4 j = 0) (hz5 : ∀ r, r < 4 → M.2.1 5 (4 * j + r) = 0) : SR (xborn X j (136 + D.length) hd sf) (D ++ [.inr (kci k, [.int k, .int (nI j), .int v])]) 0 (mserv M k v hd sf) := by
  obtain ⟨⟨a1, a2, a3, a4, a5, a6⟩, ⟨b1, b2, b3, b4, b5, b6, b7, b8⟩, ⟨s1, s2⟩, hC⟩ := h
  have ej : pz (M.1 0) = j := by rw [h0]; exact pz5 j (by omega)
  have e0 : (mserv M k v hd sf).1 0 = nI (j + 1) := by
    show upd M.1 0 (M.1 0 + 1) 0 = _
    rw [h0, nI_1]; exact if_pos rfl
  have ek : (mserv M k v hd sf).2.1 0 = upd (M.2.1 0) j k := by rw [← ej]; rfl
  have ev : (mserv M k v hd sf).2.1 1 = upd (M.2.1 1) j v := by rw [← ej]; rfl
  have e2 : (mserv M k v hd sf).2.1 2 = upd (M.2.1 2) j hd := by rw [← ej]; rfl
  have e3 : (mserv M k v hd sf).2.1 3 = upd (M.2.1 3) j sf := by rw [← ej]; rfl
  have e4 : (mserv M k v hd sf).2.1 4 = upd (M.2.1 4) j 0 := by rw [← ej]; rfl
  have e5 : (mserv M k v hd sf).2.1 5 = fil (M.2.1 5) (4 * j) 4 (fun _ => 0) := by rw [← ej]; rfl
  have xr : ∀ r, r ≠ 0 → r ≠ 1 → (xborn X j (136 + D.length) hd sf).2.1 r = X.2.1 r := fun r h1 h2 => by
    show (xa (xa (xw X 0 j _) 0 j hd) 1 j sf).2.1 r = _
    rw [xa_ne h2, xa_ne h1]; rfl
  refine ⟨⟨?_, a2, a3, a4, a5, a6⟩, ⟨?_, ?_, ?_, ?_, ?_, ?_, ?_, ?_⟩, ⟨fun i hi hl => ?_, fun i hi hl => ?_⟩, hC⟩
  · rw [e0]; exact x1_at _ _ _
  · rw [e2]
    show ∀ i, i < 4 → (xa (xa (xw X 0 j _) 0 j hd) 1 j sf).2.1 0 i = _
    rw [xa_ne (by decide), xa_at]
    exact upd_rel b1
  · rw [e3]
    show ∀ i, i < 4 → (xa (xa (xw X 0 j _) 0 j hd) 1 j sf).2.1 1 i = _
    rw [xa_at, xa_ne (by decide)]
    exact upd_rel b2
  · intro i hi
    rw [e4, xr _ (by decide) (by decide)]
    by_cases e : i = j
    · subst e; rw [b3 i hi, hz4]; exact (if_pos rfl).symm
    · rw [b3 i hi]; exact (if_neg e).symm
  · intro i hi
    rw [e5, xr _ (by decide) (by decide), b4 i hi]
    unfold fil
    by_cases e : 4 * j ≤ i ∧ i < 4 * j + 4
    · rw [if_pos e]
      have := hz5 (i - 4 * j) (by omega)
      rwa [show 4 * j + (i - 4 * j) = i by omega] at this
    · rw [if_neg e]
  · intro i hi; rw [xr _ (by decide) (by decide)]; exact b5 i hi
  · intro i hi; rw [xr _ (by decide) (by decide)]; exact b6 i hi
  · intro i hi; rw [xr _ (by decide) (by decide)]; exact b7 i hi
  · intro i hi; rw [xr _ (by decide) (by decide)]; exact b8 i hi
  · rw [xborn_sv, ek, ev]
    rw [e0] at hl
    by_cases e : i = j
    · subst e
      refine ⟨136 + D.length, if_pos rfl, ?_⟩
      simp only [upd, if_pos]
      exact ⟨by omega, d_new D _, hk⟩
    · rw [if_neg e]
      have hlt : nI i < M.1 0 := by
        rw [h0]
        refine nI_lt (Nat.lt_of_le_of_ne (Nat.not_lt.mp fun z => ?_) e) (by omega)
        exact absurd hl (Int32.not_lt.mpr (nI_le (a := j + 1) z (by omega)))
      obtain ⟨n, h1, h2⟩ := s1 i hi hlt
      refine ⟨n, h1, ?_⟩
      simp only [upd, if_neg e]
      exact h2.push _
  · rw [xborn_sv]
    rw [e0] at hl
    have hij : j + 1 ≤ i := Nat.not_lt.mp fun z => hl (nI_lt z (by omega))
    rw [if_neg (by omega)]
    rcases s2 i hi (by rw [h0]; exact Int32.not_lt.mpr (nI_le (by omega) (by omega))) with h | ⟨n, k1, j1, v1, h1, h2⟩
    · exact Or.inl h
    · exact Or.inr ⟨n, k1, j1, v1, h1, h2.push _⟩
