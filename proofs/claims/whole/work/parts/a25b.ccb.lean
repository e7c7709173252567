/-- clauses of a court whose tokens all lie below bs -/
def CCB (M : MZ) (bs : Nat) : Nat → CLs → Prop
  | _, [] => True
  | c, r :: cl => (M.2.1 8 c = r.1 ∧ M.2.1 9 c = r.2.1 ∧ ∃ a : Nat, a + r.2.2.length ≤ bs ∧ M.2.1 10 c = nI a ∧ M.2.1 11 c = nI (a + r.2.2.length) ∧ (∀ j, j < r.2.2.length → M.2.1 12 (a + j) = r.2.2.getD j 0) ∧ wfs r.2.2 0) ∧ CCB M bs (c + 1) cl
theorem CCB.cc {M : MZ} {bs : Nat} (hb : bs ≤ 600) : ∀ {cl : CLs} {c : Nat}, CCB M bs c cl → CC M c cl
  | [], _, _ => trivial
  | _ :: _, _, ⟨⟨k1, k2, a, k3, k4⟩, k9⟩ => ⟨⟨k1, k2, a, Nat.le_trans k3 hb, k4⟩, CCB.cc hb k9⟩
theorem CCB.keep {M M2 : MZ} {bs : Nat} (h3 : ∀ i, i < bs → M2.2.1 12 i = M.2.1 12 i) : ∀ {cl : CLs} {c : Nat}, (∀ j i, 8 ≤ j → j ≤ 11 → i < c + cl.length → M2.2.1 j i = M.2.1 j i) → CCB M bs c cl → CCB M2 bs c cl
  | [], _, _, _ => trivial
  | r :: cl, c, h, ⟨⟨k1, k2, a, k3, k4, k5, k6, k7⟩, k9⟩ => by
    have hl : c < c + (r :: cl).length := by rw [List.length_cons]; omega
    refine ⟨⟨by rw [h 8 c (by decide) (by decide) hl]; exact k1, by rw [h 9 c (by decide) (by decide) hl]; exact k2, a, k3, by rw [h 10 c (by decide) (by decide) hl]; exact k4, by rw [h 11 c (by decide) (by decide) hl]; exact k5, fun j hj => by rw [h3 _ (by omega)]; exact k6 j hj, k7⟩, CCB.keep h3 (fun j i h8 h11 hi => h j i h8 h11 (by rw [List.length_cons]; omega)) k9⟩
theorem CCB.cg {M M2 : MZ} {bs c : Nat} {cl : CLs} (h : CCB M bs c cl) (he : ∀ j, 7 ≤ j → j ≤ 12 → M2.2.1 j = M.2.1 j) : CCB M2 bs c cl := h.keep (fun i _ => by rw [he 12 (by decide) (by decide)]) (fun j i h8 h11 _ => by rw [he j (by omega) (by omega)])
theorem CS.ccb {M4 M2 : MZ} {Sg : Nat → Int32} {bs b2 : Nat} (hb : bs ≤ b2) (h2 : ∀ j, 8 ≤ j → j ≤ 11 → M4.2.1 j = M2.2.1 j) (h3 : M4.2.1 12 = Sg) : ∀ {cl : CLs} {c : Nat}, CS M2 Sg c bs cl → CCB M4 b2 c cl
  | [], _, _ => trivial
  | r :: cl, c, h => by
    obtain ⟨⟨k1, k2, x, k3, k4, k5, k6, k7, k8⟩, k9⟩ := h
    refine ⟨⟨by rw [h2 8 (by decide) (by decide)]; exact k1, by rw [h2 9 (by decide) (by decide)]; exact k2, x, by omega, by rw [h2 10 (by decide) (by decide)]; exact k4, by rw [h2 11 (by decide) (by decide)]; exact k5, fun j hj => by rw [h3]; exact k6 j hj, k7⟩, CS.ccb hb h2 h3 k9⟩
/-- what goesText leaves, its tokens bounded by the court's own stretch -/
def GO2 (M : MZ) (P D : HP) (F : Nat) (Sg0 : Nat → Int32) (R : Bool × Nat × CLs) (y : Int32) (h : HP) : Prop := y = b2i (R.1 = true) ∧ ∃ M2 dg sn wt op Sg W bs, GF M M2 F Sg Sg0 ∧ (R.1 = true → M2.2.1 7 F = nI R.2.2.length ∧ R.2.2.length ≤ 10 ∧ bs ≤ 100 * F + 100 ∧ CS M2 Sg (10 * F) bs R.2.2) ∧ h = mh P (pst M2 (nI R.2.1) dg sn wt op Sg W) D
def CTO2 (M : MZ) (P D : HP) (F : Nat) (R : Bool × Nat × CLs) (y : Int32) (h : HP) : Prop := ∃ M4, KO M M4 F ∧ M4.1 6 = 0 ∧ h = mh P M4 D ∧ (R.1 = true → y = nI F ∧ M4.1 4 = nI (F + 1) ∧ M4.1 5 = nI F ∧ M4.2.1 7 F = nI R.2.2.length ∧ R.2.2.length ≤ 10 ∧ CCB M4 (100 * F + 100) (10 * F) R.2.2) ∧ (¬ R.1 = true → y = -10 - nI R.2.1 ∧ M4.1 4 = M.1 4 ∧ M4.1 5 = M.1 5)
