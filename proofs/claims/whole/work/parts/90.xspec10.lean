/-- the tapes of both sides -/
def RP (X : XZ) (M : MZ) : Prop := ∀ t : Nat, t < 6 → X.1 (41 + 2 * t) = M.2.1 36 t ∧ X.1 (40 + 2 * t) = M.2.1 37 t ∧ (-1 ≤ M.2.1 36 t ∧ M.2.1 36 t ≤ 4) ∧ (0 ≤ M.2.1 37 t ∧ M.2.1 37 t ≤ 60) ∧ (M.2.1 36 t < 0 → M.2.1 37 t = 0) ∧ ∀ i, i < 60 → X.2.2.1 t i = M.2.2 0 (60 * t + i)
/-- X2 is X but for the tapes -/
def FT (X X2 : XZ) : Prop := (∀ k, k < 40 ∨ 52 ≤ k → X2.1 k = X.1 k) ∧ X2.2.1 = X.2.1 ∧ X2.2.2.2 = X.2.2.2
theorem FT.rf (X : XZ) : FT X X := ⟨fun _ _ => rfl, rfl, rfl⟩
theorem xl_xrl (X : XZ) (t : Nat) (f : Nat → Int64) (i : Nat) (v : Int64) : xl (xrl X t f) t i v = xrl X t (vp_updL f i v) := by
  unfold xl xrl
  dsimp only
  rw [va_up_up, show va_up X.2.2.1 t f t = f from if_pos rfl]
theorem xrl_id (X : XZ) (t : Nat) : xrl X t (X.2.2.1 t) = X := by
  unfold xrl
  rw [va_up_id]
theorem mm60 {n : Int32} (h : 0 ≤ n ∧ n ≤ 60) : (if 0 < (if n < 60 then n else 60) then (if n < 60 then n else 60) else 0) = n := by
  have e : (if n < 60 then n else 60) = n := by
    by_cases c : n < 60
    · rw [if_pos c]
    · rw [if_neg c]; exact Int32.le_antisymm (Int32.not_lt.mp c) h.2
  rw [e]
  by_cases c : 0 < n
  · rw [if_pos c]
  · rw [if_neg c]; exact Int32.le_antisymm h.1 (Int32.not_lt.mp c)
theorem has_iff {i L : Int32} (hL : 0 ≤ L ∧ L ≤ 60) : (0 ≤ i.toInt64 ∧ i.toInt64 < L.toInt64) ↔ (0 ≤ i ∧ i ≤ L - 1) := by
  have h1 : (L - 1).toInt = L.toInt - 1 := fb_subI (by have := hL.1; have := hL.2; simp only [Int32.le_iff_toInt_le] at *; simp at *; omega) (by have := hL.1; have := hL.2; simp only [Int32.le_iff_toInt_le] at *; simp at *; omega)
  rw [Int64.le_iff_toInt_le, Int64.lt_iff_toInt_lt, Int32.toInt_toInt64, Int32.toInt_toInt64, Int32.le_iff_toInt_le, Int32.le_iff_toInt_le, h1]
  rw [show (0 : Int64).toInt = 0 from rfl, show (0 : Int32).toInt = 0 from rfl]
  omega
theorem RP.put {X : XZ} {M : MZ} {t : Nat} {s n : Int32} {f : Nat → Int64} (h : RP X M) (ht : t < 6) (hs : -1 ≤ s ∧ s ≤ 4) (hn : 0 ≤ n ∧ n ≤ 60) (hz : s < 0 → n = 0) (hf : ∀ i, i < 60 → f i = 0) : RP (xrl (x1 (x1 X (41 + 2 * t) s) (40 + 2 * t) n) t f) (mrl (msa (msa M 36 t s) 37 t n) 0 (fil (M.2.2 0) (60 * t) 60 (fun _ => 0))) := by
  intro u hu
  obtain ⟨a1, a2, a3, a4, a5, a6⟩ := h u hu
  by_cases e : u = t
  · subst e
    have e36 : (msa (msa M 36 u s) 37 u n).2.1 36 u = s := by rw [msa_ne (by decide), msa_at]; exact if_pos rfl
    have e37 : (msa (msa M 36 u s) 37 u n).2.1 37 u = n := by rw [msa_at]; exact if_pos rfl
    refine ⟨?_, ?_, ?_, ?_, ?_, fun i hi => ?_⟩
    · exact ((if_neg (by omega)).trans (if_pos rfl)).trans e36.symm
    · exact (if_pos rfl).trans e37.symm
    · show -1 ≤ (msa (msa M 36 u s) 37 u n).2.1 36 u ∧ (msa (msa M 36 u s) 37 u n).2.1 36 u ≤ 4
      rw [e36]; exact hs
    · show 0 ≤ (msa (msa M 36 u s) 37 u n).2.1 37 u ∧ (msa (msa M 36 u s) 37 u n).2.1 37 u ≤ 60
      rw [e37]; exact hn
    · show (msa (msa M 36 u s) 37 u n).2.1 36 u < 0 → (msa (msa M 36 u s) 37 u n).2.1 37 u = 0
      rw [e36, e37]; exact hz
    · show va_up X.2.2.1 u f u i = va_up M.2.2 0 (fil (M.2.2 0) (60 * u) 60 (fun _ => 0)) 0 _
      rw [show va_up X.2.2.1 u f u = f from if_pos rfl, show va_up M.2.2 0 (fil (M.2.2 0) (60 * u) 60 (fun _ => 0)) 0 = fil (M.2.2 0) (60 * u) 60 (fun _ => 0) from if_pos rfl, hf i hi]
      exact (if_pos (by omega)).symm
  · have e36 : (msa (msa M 36 t s) 37 t n).2.1 36 u = M.2.1 36 u := by rw [msa_ne (by decide), msa_at]; exact if_neg e
    have e37 : (msa (msa M 36 t s) 37 t n).2.1 37 u = M.2.1 37 u := by rw [msa_at]; refine (if_neg e).trans ?_; rw [msa_ne (by decide)]
    refine ⟨?_, ?_, ?_, ?_, ?_, fun i hi => ?_⟩
    · exact (((if_neg (by omega)).trans (if_neg (by omega))).trans a1).trans e36.symm
    · exact (((if_neg (by omega)).trans (if_neg (by omega))).trans a2).trans e37.symm
    · show -1 ≤ (msa (msa M 36 t s) 37 t n).2.1 36 u ∧ (msa (msa M 36 t s) 37 t n).2.1 36 u ≤ 4
      rw [e36]; exact a3
    · show 0 ≤ (msa (msa M 36 t s) 37 t n).2.1 37 u ∧ (msa (msa M 36 t s) 37 t n).2.1 37 u ≤ 60
      rw [e37]; exact a4
    · show (msa (msa M 36 t s) 37 t n).2.1 36 u < 0 → (msa (msa M 36 t s) 37 t n).2.1 37 u = 0
      rw [e36, e37]; exact a5
    · show va_up X.2.2.1 t f u i = va_up M.2.2 0 (fil (M.2.2 0) (60 * t) 60 (fun _ => 0)) 0 _
      rw [show va_up X.2.2.1 t f u = X.2.2.1 u from if_neg e, show va_up M.2.2 0 (fil (M.2.2 0) (60 * t) 60 (fun _ => 0)) 0 = fil (M.2.2 0) (60 * t) 60 (fun _ => 0) from if_pos rfl, a6 i hi]
      exact (if_neg (by omega)).symm
theorem RP.item {X : XZ} {M : MZ} {t i : Nat} {v : Int64} (h : RP X M) (ht : t < 6) (hi : i < 60) : RP (xl X t i v) (msl M 0 (60 * t + i) v) := by
  intro u hu
  obtain ⟨a1, a2, a3, a4, a5, a6⟩ := h u hu
  refine ⟨a1, a2, a3, a4, a5, fun j hj => ?_⟩
  show va_up X.2.2.1 t (vp_updL (X.2.2.1 t) i v) u j = va_up M.2.2 0 (vp_updL (M.2.2 0) (60 * t + i) v) 0 _
  rw [show va_up M.2.2 0 (vp_updL (M.2.2 0) (60 * t + i) v) 0 = vp_updL (M.2.2 0) (60 * t + i) v from if_pos rfl]
  unfold vp_updL
  by_cases e : u = t
  · subst e
    rw [show va_up X.2.2.1 u (fun j => if j = i then v else X.2.2.1 u j) u = fun j => if j = i then v else X.2.2.1 u j from if_pos rfl]
    by_cases e2 : j = i
    · subst e2; rw [if_pos rfl]; exact if_pos rfl
    · rw [if_neg (by omega)]; exact (if_neg e2).trans (a6 j hj)
  · rw [show va_up X.2.2.1 t (fun j => if j = i then v else X.2.2.1 t j) u = X.2.2.1 u from if_neg e, if_neg (by omega)]
    exact a6 j hj
theorem RP.shift {X : XZ} {M : MZ} {t o a b n : Nat} {f : Nat → Int64} (h : RP X M) (ht : t < 6) (ho : o < 6) (hf : ∀ k, k < 60 → f k = va_cpy (X.2.2.1 t) (X.2.2.1 o) a b n k) (ha : a + n ≤ 60) (hb : b + n ≤ 60) : RP (xrl X o f) (mrl M 0 (shI M t a o b n)) := by
  intro u hu
  obtain ⟨a1, a2, a3, a4, a5, a6⟩ := h u hu
  refine ⟨a1, a2, a3, a4, a5, fun j hj => ?_⟩
  show va_up X.2.2.1 o f u j = va_up M.2.2 0 (shI M t a o b n) 0 _
  rw [show va_up M.2.2 0 (shI M t a o b n) 0 = shI M t a o b n from if_pos rfl]
  unfold shI fil
  by_cases e : u = o
  · subst e
    rw [show va_up X.2.2.1 u f u = f from if_pos rfl, hf j hj]
    unfold va_cpy
    by_cases c : b ≤ j ∧ j < b + n
    · rw [if_pos c, if_pos (by omega), (h t ht).2.2.2.2.2 _ (by omega)]
      show _ = M.2.2 0 (60 * t + a + (60 * u + j - (60 * u + b)))
      rw [show 60 * t + a + (60 * u + j - (60 * u + b)) = 60 * t + (a + (j - b)) from by omega]
    · rw [if_neg c, if_neg (by omega)]
      exact a6 j hj
  · rw [show va_up X.2.2.1 o f u = X.2.2.1 u from if_neg e, if_neg (by omega)]
    exact a6 j hj
