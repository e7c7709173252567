theorem twR_ge (T : Nat → Int32) (N : Nat) (LT : Nat → Int32) : ∀ (m j a : Nat), a ≤ (twR T N LT m j a).2
  | 0, j, a => by
    unfold twR
    split
    · exact Nat.le_succ a
    · exact Nat.le_refl a
  | m + 1, j, a => by
    unfold twR
    split
    · have := twR_ge T N LT m (j + 1) (a + 1); omega
    · exact Nat.le_refl a
theorem hdR_ge (T : Nat → Int32) (N : Nat) (LT : Nat → Int32) (a : Nat) : a ≤ (hdR T N LT a).2 := by
  unfold hdR
  split
  · exact twR_ge _ _ _ _ _ _
  · split
    · exact twR_ge _ _ _ _ _ _
    · exact twR_ge _ _ _ _ _ _
theorem hdR_le {T : Nat → Int32} {N : Nat} {LT : Nat → Int32} {a : Nat} (ha : a ≤ N) (h : ∀ i, i < 8 → ¬ LT i = -1) : (hdR T N LT a).2 ≤ N := by
  unfold hdR
  split
  · exact twR_le _ _ _ _ _ _ ha (fun i hi => h i (by omega))
  · split
    · exact twR_le _ _ _ _ _ _ ha (fun i hi => h i (by omega))
    · exact twR_le _ _ _ _ _ _ ha (fun i hi => h i (by omega))
/-- a clause from place a: does it stand, where reading stops, its tokens -/
def clR (T : Nat → Int32) (N : Nat) (LT : Nat → Int32) (a : Nat) : Bool × Nat × List Int32 :=
  if (hdR T N LT a).1 = true then
    (if dgt (sg T N (hdR T N LT a).2) then
      (if sg T N ((hdR T N LT a).2 + nbK T N (hdR T N LT a).2) = 32 then mrun T N (N + 1) true ((hdR T N LT a).2 + nbK T N (hdR T N LT a).2 + 1) [] []
       else (false, (hdR T N LT a).2 + nbK T N (hdR T N LT a).2, []))
     else (false, (hdR T N LT a).2, []))
  else (false, (hdR T N LT a).2, [])
def clN (T : Nat → Int32) (N : Nat) (LT : Nat → Int32) (a : Nat) : Int32 := nbS T N (hdR T N LT a).2 (nbK T N (hdR T N LT a).2)
/-- M2 is M but for item c of the rows 8 .. 11 -/
def M4 (M M2 : MZ) (c : Nat) : Prop := M2.1 = M.1 ∧ M2.2.2 = M.2.2 ∧ (∀ j, j < 8 ∨ 11 < j → M2.2.1 j = M.2.1 j) ∧ (∀ j i, i ≠ c → M2.2.1 j i = M.2.1 j i)
theorem M4.rf (M : MZ) (c : Nat) : M4 M M c := ⟨rfl, rfl, fun _ _ => rfl, fun _ _ _ => rfl⟩
theorem M4.put {M M2 : MZ} {c : Nat} (h : M4 M M2 c) {k : Nat} (hk : 8 ≤ k ∧ k ≤ 11) (v : Int32) : M4 M (msa M2 k c v) c := by
  refine ⟨h.1, h.2.1, fun j hj => (if_neg (by omega)).trans (h.2.2.1 j hj), fun j i hi => ?_⟩
  show va_up M2.2.1 k (upd (M2.2.1 k) c v) j i = _
  simp only [va_up]
  by_cases e : j = k
  · subst e
    rw [if_pos rfl]
    exact (if_neg hi).trans (h.2.2.2 j i hi)
  · rw [if_neg e]
    exact h.2.2.2 j i hi
def CO (M : MZ) (P D : HP) (bs : Nat) (c : Int32) (Sg0 : Nat → Int32) (N a : Nat) (R : Bool × Nat × List Int32) (y : Int32) (h : HP) : Prop := y = b2i (R.1 = true) ∧ ∃ M2 dg wt op Sg W, M4 M M2 (pz c) ∧ SGL Sg bs R.2.2 ∧ (∀ j, j < bs → Sg j = Sg0 j) ∧ (R.1 = true → M2.2.1 8 (pz c) = hdW (M.2.1 6) N a ∧ M2.2.1 9 (pz c) = clN (M.2.1 6) N (M.2.1 14) a ∧ M2.2.1 10 (pz c) = nI bs ∧ M2.2.1 11 (pz c) = nI (bs + R.2.2.length)) ∧ h = mh P (pst M2 (nI R.2.1) dg (nI (bs + R.2.2.length)) wt op Sg W) D
