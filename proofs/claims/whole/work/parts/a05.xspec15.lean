theorem nI_ins {F k : Nat} (hF : F < 2 ^ 31) (hk : k < 2 ^ 31) : (0 ≤ nI F ∧ nI F ≤ nI k) ↔ F ≤ k := by
  constructor
  · intro h
    exact Nat.not_lt.mp fun z => absurd h.2 (Int32.not_le.mpr (nI_lt z hF))
  · intro h
    exact ⟨Int32.not_lt.mp (nI_pos hF), nI_le h hk⟩
theorem gtR_le {T : Nat → Int32} {N : Nat} {LT : Nat → Int32} (hLT : ∀ i, i < 8 → ¬ LT i = -1) : ∀ (k a : Nat), a ≤ N → (gtR T N LT k a).2.1 ≤ N
  | 0, a, ha => ha
  | k + 1, a, ha => by
    have hb := (clR_bd (T := T) ha hLT).1
    unfold gtR
    split
    · split
      · exact Nat.le_refl _
      · split
        · exact hb
        · split
          · rename_i h59
            exact gtR_le hLT k _ (sg_lt (fun w => by rw [w] at h59; exact absurd h59 (by decide)))
          · exact hb
    · exact hb
theorem hdW_3 (T : Nat → Int32) (N a : Nat) : hdW T N a = 0 ∨ hdW T N a = 1 ∨ hdW T N a = 2 := by
  unfold hdW
  split
  · exact Or.inl rfl
  · split
    · exact Or.inr (Or.inl rfl)
    · exact Or.inr (Or.inr rfl)
theorem gtR_wf {T : Nat → Int32} {N : Nat} {LT : Nat → Int32} : ∀ (k a : Nat), (gtR T N LT k a).1 = true → (gtR T N LT k a).2.2.length ≤ k ∧ ∀ r, r ∈ (gtR T N LT k a).2.2 → (r.1 = 0 ∨ r.1 = 1 ∨ r.1 = 2) ∧ wfs r.2.2 0 ∧ ∀ t, t ∈ r.2.2 → tkf t
  | 0, a, h => by unfold gtR at h; exact absurd h (by simp)
  | k + 1, a, h => by
    unfold gtR at h ⊢
    by_cases e1 : (clR T N LT a).1 = true
    · have hw := clR_wf e1
      have h1 : ((clO T N LT a).1 = 0 ∨ (clO T N LT a).1 = 1 ∨ (clO T N LT a).1 = 2) ∧ wfs (clO T N LT a).2.2 0 ∧ ∀ t, t ∈ (clO T N LT a).2.2 → tkf t := ⟨hdW_3 T N a, hw⟩
      rw [if_pos e1] at h ⊢
      by_cases e2 : (clR T N LT a).2.1 = N
      · rw [if_pos e2] at h ⊢
        refine ⟨by simp, fun r hr => ?_⟩
        rcases List.mem_cons.mp hr with rfl | hr
        · exact h1
        · exact absurd hr List.not_mem_nil
      · rw [if_neg e2] at h ⊢
        by_cases e3 : k = 0
        · rw [if_pos e3] at h
          exact absurd h (by simp)
        · rw [if_neg e3] at h ⊢
          by_cases e4 : sg T N (clR T N LT a).2.1 = 59
          · rw [if_pos e4] at h ⊢
            have ih := gtR_wf k _ h
            refine ⟨by show _ + 1 ≤ _; have := ih.1; omega, fun r hr => ?_⟩
            rcases List.mem_cons.mp hr with rfl | hr
            · exact h1
            · exact ih.2 r hr
          · rw [if_neg e4] at h
            exact absurd h (by simp)
    · rw [if_neg e1] at h
      exact absurd h (by simp)
/-- what court() leaves as it was, F being the court that is read -/
def FCT (X X2 : XZ) (c : Nat) : Prop := (∀ k, k ≠ 1 → k ≠ 26 → k ≠ 27 → k ≠ 28 + 2 * c → k ≠ 29 + 2 * c → X2.1 k = X.1 k) ∧ (∀ j, j < 40 + 4 * c ∨ 40 + 4 * c + 3 < j → X2.2.1 j = X.2.1 j) ∧ X2.2.2.1 = X.2.2.1 ∧ (∀ k, k ≠ 0 → X2.2.2.2.1 k = X.2.2.2.1 k) ∧ X2.2.2.2.2 = X.2.2.2.2
theorem FC.rd {X X2 : XZ} {c a z : Nat} {g : Nat → Int32} (h : FC X X2 c) : FCT X (rdx X2 c a z g) c := by
  refine ⟨fun k h1 h2 h3 h4 h5 => ?_, fun j hj => ?_, congrArg (fun z => z.1) h.2.2, fun k _ => congrFun (congrArg (fun z => z.2.1) h.2.2) k, congrArg (fun z => z.2.2) h.2.2⟩
  · show upd (upd X2.1 27 _) (28 + 2 * c) _ k = _
    rw [upd_ne h4, upd_ne h3]
    exact h.1 k h5
  · rw [rdx_r _ (by omega)]
    exact h.2.1 j (by omega)
theorem FCT.tr {X X2 X3 : XZ} {c : Nat} (h : FCT X X2 c) (h2 : FCT X2 X3 c) : FCT X X3 c := ⟨fun k a1 a2 a3 a4 a5 => (h2.1 k a1 a2 a3 a4 a5).trans (h.1 k a1 a2 a3 a4 a5), fun j hj => (h2.2.1 j hj).trans (h.2.1 j hj), h2.2.2.1.trans h.2.2.1, fun k hk => (h2.2.2.2.1 k hk).trans (h.2.2.2.1 k hk), h2.2.2.2.2.trans h.2.2.2.2⟩
theorem FCT.p1 {X X2 : XZ} {c k : Nat} {v : Int32} (h : FCT X X2 c) (hk : k = 26 ∨ k = 1) : FCT X (x1 X2 k v) c := h.tr ⟨fun j h1 h2 _ _ _ => upd_ne (by omega), fun _ _ => rfl, rfl, fun _ _ => rfl, rfl⟩
theorem vaup_ne {α : Type} {f : Nat → α} {k j : Nat} {v : α} (h : ¬ j = k) : va_up f k v j = f j := if_neg h
theorem FCT.pv {X X2 : XZ} {c : Nat} {v : Value} (h : FCT X X2 c) : FCT X (xv X2 0 v) c := h.tr ⟨fun _ _ _ _ _ _ => rfl, fun _ _ => rfl, rfl, fun k hk => vaup_ne hk, rfl⟩
theorem XCC.eq {X X2 : XZ} {c : Nat} (h : ∀ j, 40 ≤ j → X2.2.1 j = X.2.1 j) : ∀ {cl : CLs} {fr i : Nat}, XCC X c fr i cl → XCC X2 c fr i cl
  | [], _, _, _ => trivial
  | r :: cl, fr, i, hx => by
    obtain ⟨⟨a1, a2, a3, a4, a5⟩, a6⟩ := hx
    refine ⟨⟨?_, ?_, ?_, a4, fun j hj => ?_⟩, XCC.eq h a6⟩
    · rw [h _ (by omega)]; exact a1
    · rw [h _ (by omega)]; exact a2
    · rw [h _ (by omega)]; exact a3
    · rw [h _ (by omega)]; exact a5 j hj
theorem XC.eq {X X2 : XZ} {c : Nat} {cl : CLs} (h1 : X2.1 (29 + 2 * c) = X.1 (29 + 2 * c)) (h : ∀ j, 40 ≤ j → X2.2.1 j = X.2.1 j) (hx : XC X c cl) : XC X2 c cl := ⟨h1.trans hx.1, hx.2.eq h⟩
theorem rdx_1 (X : XZ) (c a z : Nat) (g : Nat → Int32) : (rdx X c a z g).1 1 = X.1 1 := by
  show upd (upd X.1 27 _) (28 + 2 * c) _ 1 = _
  rw [upd_ne (by omega), upd_ne (by decide)]
theorem x1at (X : XZ) (k : Nat) (v : Int32) : (x1 X k v).1 k = v := if_pos rfl
theorem x1ne {X : XZ} {k j : Nat} {v : Int32} (h : ¬ j = k) : (x1 X k v).1 j = X.1 j := if_neg h
theorem xv1 (X : XZ) (k : Nat) (v : Value) : (xv X k v).1 = X.1 := rfl
theorem xvat (X : XZ) (k : Nat) (v : Value) : (xv X k v).2.2.2.1 k = v := if_pos rfl
