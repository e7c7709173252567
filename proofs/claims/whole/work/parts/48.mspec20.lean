/-- the clauses from place a on, k of them at most -/
def clO (T : Nat → Int32) (N : Nat) (LT : Nat → Int32) (a : Nat) : Int32 × Int32 × List Int32 := (hdW T N a, clN T N LT a, (clR T N LT a).2.2.reverse)
def gtR (T : Nat → Int32) (N : Nat) (LT : Nat → Int32) : Nat → Nat → Bool × Nat × CLs
  | 0, a => (false, a, [])
  | k + 1, a =>
    if (clR T N LT a).1 = true then
      (if (clR T N LT a).2.1 = N then (true, N, [clO T N LT a])
       else if k = 0 then (false, (clR T N LT a).2.1, [])
       else if sg T N (clR T N LT a).2.1 = 59 then ((gtR T N LT k ((clR T N LT a).2.1 + 1)).1, (gtR T N LT k ((clR T N LT a).2.1 + 1)).2.1, clO T N LT a :: (gtR T N LT k ((clR T N LT a).2.1 + 1)).2.2)
       else (false, (clR T N LT a).2.1, []))
    else (false, (clR T N LT a).2.1, [])
/-- clauses told by the rows of M2 and the tokens Sg, all below bs, from item c on -/
def CS (M2 : MZ) (Sg : Nat → Int32) (c bs : Nat) : CLs → Prop
  | [] => True
  | r :: cl => (M2.2.1 8 c = r.1 ∧ M2.2.1 9 c = r.2.1 ∧ ∃ x : Nat, x + r.2.2.length ≤ bs ∧ M2.2.1 10 c = nI x ∧ M2.2.1 11 c = nI (x + r.2.2.length) ∧ (∀ j, j < r.2.2.length → Sg (x + j) = r.2.2.getD j 0) ∧ wfs r.2.2 0 ∧ ∀ t, t ∈ r.2.2 → tkf t) ∧ CS M2 Sg (c + 1) bs cl
theorem CS.keep {M2 M3 : MZ} {Sg Sg3 : Nat → Int32} {bs b3 : Nat} : ∀ {cl : CLs} {c : Nat}, CS M2 Sg c bs cl → (∀ j i, 7 < j → i < c + cl.length → M3.2.1 j i = M2.2.1 j i) → (∀ j, j < bs → Sg3 j = Sg j) → bs ≤ b3 → CS M3 Sg3 c b3 cl
  | [], c, _, _, _, _ => trivial
  | r :: cl, c, h, hM, hS, hb => by
    rw [List.length_cons] at hM
    obtain ⟨⟨h1, h2, x, h3, h4, h5, h6, h7⟩, h8⟩ := h
    refine ⟨⟨?_, ?_, x, by omega, ?_, ?_, fun j hj => ?_, h7⟩, CS.keep h8 (fun j i h9 hi => hM j i h9 (by omega)) hS hb⟩
    · rw [hM _ _ (by decide) (by omega)]; exact h1
    · rw [hM _ _ (by decide) (by omega)]; exact h2
    · rw [hM _ _ (by decide) (by omega)]; exact h4
    · rw [hM _ _ (by decide) (by omega)]; exact h5
    · rw [hS _ (by omega)]; exact h6 j hj
theorem CS.snoc {M2 : MZ} {Sg : Nat → Int32} {bs : Nat} {r : Int32 × Int32 × List Int32} : ∀ {cl : CLs} {c : Nat}, CS M2 Sg c bs cl → CS M2 Sg (c + cl.length) bs [r] → CS M2 Sg c bs (cl ++ [r])
  | [], c, _, h => h
  | q :: cl, c, h, h2 => ⟨h.1, CS.snoc h.2 (by rw [List.length_cons] at h2; rw [show c + 1 + cl.length = c + (cl.length + 1) by omega]; exact h2)⟩
theorem SGL_rev {Sg : Nat → Int32} {bs : Nat} : ∀ {tk : List Int32}, SGL Sg bs tk → ∀ j, j < tk.reverse.length → Sg (bs + j) = tk.reverse.getD j 0
  | [], _, j, hj => absurd hj (Nat.not_lt_zero _)
  | t :: r, h, j, hj => by
    rw [List.length_reverse, List.length_cons] at hj
    rw [List.reverse_cons, List.getD_eq_getElem?_getD]
    by_cases e : j < r.length
    · rw [List.getElem?_append_left (by rw [List.length_reverse]; exact e), ← List.getD_eq_getElem?_getD]
      exact SGL_rev h.2 j (by rw [List.length_reverse]; exact e)
    · have ej : j = r.length := by omega
      subst ej
      rw [List.getElem?_append_right (by rw [List.length_reverse]; exact Nat.le_refl _), List.length_reverse, Nat.sub_self]
      exact h.1
