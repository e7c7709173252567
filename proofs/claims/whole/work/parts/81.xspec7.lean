theorem KI.pa {K : MZ} {j i : Nat} {v : Int32} (h : KI K) (hj : (j = 2 ∧ 0 ≤ v ∧ v ≤ 9) ∨ (j = 3 ∧ 0 ≤ v ∧ v ≤ 9) ∨ (j = 4 ∧ 0 ≤ v ∧ v ≤ 9999)) : KI (msa K j i v) := by
  obtain ⟨h1, h2, h3, h4, h5⟩ := h
  rcases hj with ⟨rfl, hv⟩ | ⟨rfl, hv⟩ | ⟨rfl, hv⟩
  all_goals
    refine ⟨h1, fun a ha => ?_, fun a ha => ?_, fun a ha => ?_, fun a ha => ?_⟩
    all_goals first | (rw [msa_ne (by decide)]; first | exact h2 a ha | exact h3 a ha | exact h4 a ha | exact h5 a ha) | (rw [msa_at]; unfold upd; by_cases e : a = i; (rw [if_pos e]; exact hv); (rw [if_neg e]; first | exact h2 a ha | exact h3 a ha | exact h4 a ha))
theorem KI.wl {K : MZ} {a b : Nat} (h : KI K) (ha : a ≤ 4) (hb : b ≤ 4) : KI (ms1 (ms1 K 1 (nI a)) 2 (nI b)) := by
  obtain ⟨h1, h2, h3, h4, h5⟩ := h
  have hn : ∀ c : Nat, c ≤ 4 → 0 ≤ nI c ∧ nI c ≤ 4 := fun c hc => ⟨nI_pos' (by omega), nI_le (b := 4) hc (by decide)⟩
  exact ⟨⟨h1.1, hn a ha, hn b hb⟩, h2, h3, h4, h5⟩
theorem mn9 {x : Int32} (h : 0 ≤ x ∧ x ≤ 9) : (if x + 1 < 9 then x + 1 else 9) = up9 x := by
  obtain ⟨j, hj, rfl⟩ := bw_of (m := 9) (n := 9) (by decide) h
  unfold up9
  rw [nI_1]
  by_cases e : j = 9
  · subst e; decide
  · rw [if_neg (show ¬ (9 : Int32) ≤ nI j from fun z => by rw [Int32.le_iff_toInt_le, nI_toInt (by omega)] at z; simp at z; omega)]
    by_cases e2 : j + 1 = 9
    · rw [e2]; decide
    · rw [if_pos (show nI (j + 1) < 9 from nI_lt (b := 9) (by omega) (by omega))]
theorem up9_in {x : Int32} (h : 0 ≤ x ∧ x ≤ 9) : 0 ≤ up9 x ∧ up9 x ≤ 9 := by
  obtain ⟨j, hj, rfl⟩ := bw_of (m := 9) (n := 9) (by decide) h
  unfold up9
  by_cases e : j = 9
  · subst e; decide
  · rw [if_neg (show ¬ (9 : Int32) ≤ nI j from fun z => by rw [Int32.le_iff_toInt_le, nI_toInt (by omega)] at z; simp at z; omega), nI_1]
    exact ⟨nI_pos' (by omega), nI_le (b := 9) (by omega) (by decide)⟩
theorem nm1_lt {k a : Nat} (hk : k < 2 ^ 30) (ha : a < 2 ^ 30) : nI k - 1 < nI a ↔ k ≤ a := by
  cases k with
  | zero =>
    refine ⟨fun _ => Nat.zero_le _, fun _ => ?_⟩
    rw [Int32.lt_iff_toInt_lt, nI_toInt (by omega)]
    rw [show (nI 0 - 1).toInt = -1 by decide]
    omega
  | succ k =>
    rw [nI_pred, nI_ltI (by omega) (by omega)]
    omega
/-- the table of GAMES from row k on; of row k what stands from l on -/
def GW (X : XZ) (T : Nat → Nat → Int32) (rw N b0 k : Nat) : Prop := ∀ a b, k ≤ a → a ≤ N → b0 ≤ b → b ≤ N → X.2.1 (rw + a) b = T a b
def GV (X : XZ) (T : Nat → Nat → Int32) (rw N b0 k l : Nat) : Prop := GW X T rw N b0 (k + 1) ∧ ∀ b, l ≤ b → b ≤ N → X.2.1 (rw + k) b = T k b
theorem GV.cg {X X2 : XZ} {T : Nat → Nat → Int32} {rw N b0 k l : Nat} (h : GV X T rw N b0 k l) (hk : k ≤ N) (e : ∀ j, rw ≤ j → j ≤ rw + N → X2.2.1 j = X.2.1 j) : GV X2 T rw N b0 k l := ⟨fun a b h1 h2 h3 h4 => by rw [e _ (by omega) (by omega)]; exact h.1 a b h1 h2 h3 h4, fun b h1 h2 => by rw [e _ (by omega) (by omega)]; exact h.2 b h1 h2⟩
theorem GV.put {X : XZ} {T : Nat → Nat → Int32} {rw N b0 k l : Nat} {v : Int32} (h : GV X T rw N b0 k (l + 1)) (hv : v = T k l) : GV (xa X (rw + k) l v) T rw N b0 k l := by
  refine ⟨fun a b h1 h2 h3 h4 => ?_, fun b h1 h2 => ?_⟩
  · rw [xa_ne (by omega)]; exact h.1 a b h1 h2 h3 h4
  · rw [xa_at]
    by_cases e : b = l
    · subst e; exact (if_pos rfl).trans hv
    · exact (if_neg e).trans (h.2 b (by omega) h2)
theorem GV.fin {X : XZ} {T : Nat → Nat → Int32} {rw N b0 k : Nat} (h : GV X T rw N b0 k b0) : GW X T rw N b0 k := by
  intro a b h1 h2 h3 h4
  by_cases e : a = k
  · subst e; exact h.2 b h3 h4
  · exact h.1 a b (by omega) h2 h3 h4
theorem GW.beg {X : XZ} {T : Nat → Nat → Int32} {rw N b0 k : Nat} (h : GW X T rw N b0 (k + 1)) : GV X T rw N b0 k (N + 1) := ⟨h, fun b h1 h2 => by omega⟩
