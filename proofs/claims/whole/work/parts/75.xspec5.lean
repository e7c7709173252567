theorem FX.pr {X X2 : XZ} {w j : Nat} {f : Nat → Int32} (h : FX X X2 w) (hk : 9 * w ≤ j ∧ j < 9 * w + 9) : FX X (xra X2 j f) w := ⟨h.1, fun k hj => (if_neg (by omega)).trans (h.2.1 k hj), h.2.2⟩
theorem SS.any {X : XZ} {D : HP} {w : Nat} {K : MZ} (h : SS X D w K) {i : Nat} (hi : i < 4) : X.2.2.2.2 w i = .null ∨ ∃ n k j v, X.2.2.2.2 w i = .ref n ∧ SV D n k j v := by
  by_cases e : nI i < K.1 0
  · obtain ⟨n, h1, h2⟩ := h.1 i hi e
    exact Or.inr ⟨n, _, _, _, h1, h2⟩
  · exact h.2 i hi e
/-- k servers are taken over -/
def TK (X X2 : XZ) (w u k : Nat) : Prop := FX X X2 w ∧ (∀ i, i < k → X2.2.2.2.2 w i = X.2.2.2.2 u i) ∧ (∀ i, i < k → X2.2.1 (9 * w + 0) i = X.2.1 (9 * u + 0) i) ∧ (∀ i, i < k → X2.2.1 (9 * w + 1) i = X.2.1 (9 * u + 1) i) ∧ (∀ i, i < k → X2.2.1 (9 * w + 2) i = X.2.1 (9 * u + 2) i)
theorem TK.step {X X2 : XZ} {w u k : Nat} (h : TK X X2 w u k) {val : Value} {a b c : Int32} (hv : val = X.2.2.2.2 u k) (ha : a = X.2.1 (9 * u + 0) k) (hb : b = X.2.1 (9 * u + 1) k) (hc : c = X.2.1 (9 * u + 2) k) : TK X (xa (xa (xa (xw X2 w k val) (9 * w + 0) k a) (9 * w + 1) k b) (9 * w + 2) k c) w u (k + 1) := by
  obtain ⟨h1, h2, h3, h4, h5⟩ := h
  refine ⟨((h1.pw.pa (by omega)).pa (by omega)).pa (by omega), fun i hi => ?_, fun i hi => ?_, fun i hi => ?_, fun i hi => ?_⟩
  · show va_up X2.2.2.2.2 w (va_up (X2.2.2.2.2 w) k val) w i = _
    rw [show va_up X2.2.2.2.2 w (va_up (X2.2.2.2.2 w) k val) w = va_up (X2.2.2.2.2 w) k val from if_pos rfl]
    by_cases e : i = k
    · subst e; exact (if_pos rfl).trans hv
    · exact (if_neg e).trans (h2 i (by omega))
  · rw [xa_ne (by omega), xa_ne (by omega), xa_at]
    by_cases e : i = k
    · subst e; exact (if_pos rfl).trans ha
    · exact (if_neg e).trans (h3 i (by omega))
  · rw [xa_ne (by omega), xa_at]
    by_cases e : i = k
    · subst e; exact (if_pos rfl).trans hb
    · refine (if_neg e).trans ?_
      rw [xa_ne (by omega)]
      exact h4 i (by omega)
  · rw [xa_at]
    by_cases e : i = k
    · subst e; exact (if_pos rfl).trans hc
    · refine (if_neg e).trans ?_
      rw [xa_ne (by omega), xa_ne (by omega)]
      exact h5 i (by omega)
theorem xra_at (X : XZ) (j : Nat) (f : Nat → Int32) : (xra X j f).2.1 j = f := if_pos rfl
theorem xra_ne {X : XZ} {j k : Nat} {f : Nat → Int32} (h : k ≠ j) : (xra X j f).2.1 k = X.2.1 k := if_neg h
theorem x1_at (X : XZ) (j : Nat) (v : Int32) : (x1 X j v).1 j = v := if_pos rfl
theorem x1_ne {X : XZ} {j k : Nat} {v : Int32} (h : k ≠ j) : (x1 X j v).1 k = X.1 k := if_neg h
/-- all is taken over -/
def tkF (X X2 : XZ) (w u : Nat) (K : MZ) : XZ := xv (x1 (xra (xra (xra (x1 (xra (x1 (x1 (x1 (x1 (xra X2 (9 * w + 3) (X.2.1 (9 * u + 3))) (8 * w + 2) (K.1 0)) (8 * w + 3) (K.1 1)) (8 * w + 4) (K.1 2)) (8 * w + 5) (K.1 3)) (9 * w + 4) (X.2.1 (9 * u + 4))) (8 * w + 6) (K.1 12)) (9 * w + 5) (X.2.1 (9 * u + 5))) (9 * w + 6) (X.2.1 (9 * u + 6))) (9 * w + 7) (X.2.1 (9 * u + 7))) (8 * w + 7) (K.1 13)) w (X.2.2.2.1 u)
theorem TK.fin {X X2 : XZ} {D : HP} {w u : Nat} {K : MZ} (h : TK X X2 w u 4) (hR : SR X D u K) : FX X (tkF X X2 w u K) w ∧ SR (tkF X X2 w u K) D w K := by
  obtain ⟨h1, h2, h3, h4, h5⟩ := h
  obtain ⟨-, ⟨b1, b2, b3, b4, b5, b6, b7, b8⟩, hS, hC⟩ := hR
  refine ⟨((((((((((((h1.pr (by omega)).p1 (by omega)).p1 (by omega)).p1 (by omega)).p1 (by omega)).pr (by omega)).p1 (by omega)).pr (by omega)).pr (by omega)).pr (by omega)).p1 (by omega)).pv), ⟨?_, ?_, ?_, ?_, ?_, ?_⟩, ⟨?_, ?_, ?_, ?_, ?_, ?_, ?_, ?_⟩, ?_, ?_⟩
  · show upd (upd (upd (upd (upd (upd X2.1 _ _) _ _) _ _) _ _) _ _) _ _ _ = _
    simp only [upd]
    rw [if_neg (by omega), if_neg (by omega), if_neg (by omega), if_neg (by omega), if_neg (by omega), if_pos trivial]
  · show upd (upd (upd (upd (upd (upd X2.1 _ _) _ _) _ _) _ _) _ _) _ _ _ = _
    simp only [upd]
    rw [if_neg (by omega), if_neg (by omega), if_neg (by omega), if_neg (by omega), if_pos trivial]
  · show upd (upd (upd (upd (upd (upd X2.1 _ _) _ _) _ _) _ _) _ _) _ _ _ = _
    simp only [upd]
    rw [if_neg (by omega), if_neg (by omega), if_neg (by omega), if_pos trivial]
  · show upd (upd (upd (upd (upd (upd X2.1 _ _) _ _) _ _) _ _) _ _) _ _ _ = _
    simp only [upd]
    rw [if_neg (by omega), if_neg (by omega), if_pos trivial]
  · show upd (upd (upd (upd (upd (upd X2.1 _ _) _ _) _ _) _ _) _ _) _ _ _ = _
    simp only [upd]
    rw [if_neg (by omega), if_pos trivial]
  · exact if_pos rfl
  · intro i hi
    show va_up (va_up (va_up (va_up (va_up X2.2.1 _ _) _ _) _ _) _ _) _ _ _ i = _
    simp only [va_up]
    rw [if_neg (by omega), if_neg (by omega), if_neg (by omega), if_neg (by omega), if_neg (by omega), h3 i hi]
    exact b1 i hi
  · intro i hi
    show va_up (va_up (va_up (va_up (va_up X2.2.1 _ _) _ _) _ _) _ _) _ _ _ i = _
    simp only [va_up]
    rw [if_neg (by omega), if_neg (by omega), if_neg (by omega), if_neg (by omega), if_neg (by omega), h4 i hi]
    exact b2 i hi
  · intro i hi
    show va_up (va_up (va_up (va_up (va_up X2.2.1 _ _) _ _) _ _) _ _) _ _ _ i = _
    simp only [va_up]
    rw [if_neg (by omega), if_neg (by omega), if_neg (by omega), if_neg (by omega), if_neg (by omega), h5 i hi]
    exact b3 i hi
  · intro i hi
    show va_up (va_up (va_up (va_up (va_up X2.2.1 _ _) _ _) _ _) _ _) _ _ _ i = _
    simp only [va_up]
    rw [if_neg (by omega), if_neg (by omega), if_neg (by omega), if_neg (by omega), if_pos trivial]
    exact b4 i hi
  · intro i hi
    show va_up (va_up (va_up (va_up (va_up X2.2.1 _ _) _ _) _ _) _ _) _ _ _ i = _
    simp only [va_up]
    rw [if_neg (by omega), if_neg (by omega), if_neg (by omega), if_pos trivial]
    exact b5 i hi
  · intro i hi
    show va_up (va_up (va_up (va_up (va_up X2.2.1 _ _) _ _) _ _) _ _) _ _ _ i = _
    simp only [va_up]
    rw [if_neg (by omega), if_neg (by omega), if_pos trivial]
    exact b6 i hi
  · intro i hi
    show va_up (va_up (va_up (va_up (va_up X2.2.1 _ _) _ _) _ _) _ _) _ _ _ i = _
    simp only [va_up]
    rw [if_neg (by omega), if_pos trivial]
    exact b7 i hi
  · intro i hi
    show va_up (va_up (va_up (va_up (va_up X2.2.1 _ _) _ _) _ _) _ _) _ _ _ i = _
    simp only [va_up]
    rw [if_pos trivial]
    exact b8 i hi
  · refine ⟨fun i hi hl => ?_, fun i hi hl => ?_⟩
    · show ∃ n, X2.2.2.2.2 w i = _ ∧ _
      rw [h2 i hi]
      exact hS.1 i hi hl
    · show X2.2.2.2.2 w i = _ ∨ ∃ n k j v, X2.2.2.2.2 w i = _ ∧ _
      rw [h2 i hi]
      exact hS.2 i hi hl
  · unfold SC
    rw [show (tkF X X2 w u K).2.2.2.1 w = X.2.2.2.1 u from if_pos rfl]
    exact hC
