/-! THE RELATION OF THE TWO SIDES -/
/-- situation w of the class shows the model K: numbers, rows -/
def SN (X : XZ) (w : Nat) (K : MZ) : Prop := X.1 (8 * w + 2) = K.1 0 ∧ X.1 (8 * w + 3) = K.1 1 ∧ X.1 (8 * w + 4) = K.1 2 ∧ X.1 (8 * w + 5) = K.1 3 ∧ X.1 (8 * w + 6) = K.1 12 ∧ X.1 (8 * w + 7) = K.1 13
def SA (X : XZ) (w : Nat) (K : MZ) : Prop := (∀ i, i < 4 → X.2.1 (9 * w + 0) i = K.2.1 2 i) ∧ (∀ i, i < 4 → X.2.1 (9 * w + 1) i = K.2.1 3 i) ∧ (∀ i, i < 4 → X.2.1 (9 * w + 2) i = K.2.1 4 i) ∧ (∀ i, i < 16 → X.2.1 (9 * w + 3) i = K.2.1 5 i) ∧ (∀ i, i < 6 → X.2.1 (9 * w + 4) i = 10 * K.2.1 18 i + K.2.1 19 i) ∧ (∀ i, i < 10 → X.2.1 (9 * w + 5) i = K.2.1 20 i) ∧ (∀ i, i < 10 → X.2.1 (9 * w + 6) i = K.2.1 21 i) ∧ (∀ i, i < 10 → X.2.1 (9 * w + 7) i = K.2.1 22 i)
/-- its servers: those that are there are as told, behind them whatever -/
def SS (X : XZ) (D : HP) (w : Nat) (K : MZ) : Prop := (∀ i : Nat, i < 4 → nI i < K.1 0 → ∃ n, X.2.2.2.2 w i = .ref n ∧ SV D n (K.2.1 0 i) (nI i) (K.2.1 1 i)) ∧ (∀ i : Nat, i < 4 → ¬ nI i < K.1 0 → X.2.2.2.2 w i = .null ∨ ∃ n k j v, X.2.2.2.2 w i = .ref n ∧ SV D n k j v)
def SC (X : XZ) (w : Nat) (K : MZ) : Prop := (K.1 5 < 0 ∧ X.2.2.2.1 w = .null) ∨ ∃ f : Nat, f < 6 ∧ K.1 5 = nI f ∧ X.2.2.2.1 w = .ref (53 + 5 * f)
def SR (X : XZ) (D : HP) (w : Nat) (K : MZ) : Prop := SN X w K ∧ SA X w K ∧ SS X D w K ∧ SC X w K
/-- the numbers of a SITUATION that can be -/
def KI (K : MZ) : Prop := MI K ∧ (∀ i, i < 4 → 0 ≤ K.2.1 4 i ∧ K.2.1 4 i ≤ 9999) ∧ (∀ i, i < 4 → 0 ≤ K.2.1 2 i ∧ K.2.1 2 i ≤ 9) ∧ (∀ i, i < 4 → 0 ≤ K.2.1 3 i ∧ K.2.1 3 i ≤ 9) ∧ (∀ i, i < 4 → 0 ≤ K.2.1 1 i ∧ K.2.1 1 i ≤ 9)
/-- the same but for the letters of w -/
def xlt (X : XZ) (w : Nat) (g : Nat → Int32) : XZ := (X.1, va_up X.2.1 (9 * w + 8) g, X.2.2)
theorem xlt_id (X : XZ) (w : Nat) : xlt X w (X.2.1 (9 * w + 8)) = X := by
  unfold xlt
  rw [va_up_id]
theorem xlt_2 (X : XZ) (w : Nat) (f g : Nat → Int32) : xlt (xlt X w f) w g = xlt X w g := by
  unfold xlt
  rw [va_up_up]
theorem xlt_a {X : XZ} {w j : Nat} {g : Nat → Int32} (h : j ≠ 9 * w + 8) : (xlt X w g).2.1 j = X.2.1 j := if_neg h
theorem xlt_l (X : XZ) (w : Nat) (g : Nat → Int32) : (xlt X w g).2.1 (9 * w + 8) = g := if_pos rfl
theorem SA.lt {X : XZ} {v w : Nat} {K : MZ} {g : Nat → Int32} (h : SA X v K) : SA (xlt X w g) v K := by
  obtain ⟨a1, a2, a3, a4, a5, a6, a7, a8⟩ := h
  refine ⟨?_, ?_, ?_, ?_, ?_, ?_, ?_, ?_⟩ <;> rw [xlt_a (by omega)] <;> assumption
theorem SR.lt {X : XZ} {D : HP} {v w : Nat} {K : MZ} {g : Nat → Int32} (h : SR X D v K) : SR (xlt X w g) D v K := ⟨h.1, h.2.1.lt, h.2.2.1, h.2.2.2⟩
/-- a SERVER that is there -/
theorem isS_nat {K : MZ} {p : Int32} (hM : 0 ≤ K.1 0 ∧ K.1 0 ≤ 4) (hp : isS K p) : p = nI (pz p) ∧ pz p < 4 ∧ nI (pz p) < K.1 0 := by
  have h4 := in4_of hM hp
  have e := nI_pz hp.1
  refine ⟨e, pz_lt h4, ?_⟩
  rw [← e]
  have h2 := hp.2
  have h1 : (K.1 0 - 1).toInt = (K.1 0).toInt - 1 := fb_subI (by have := hM.1; have := hM.2; simp only [Int32.le_iff_toInt_le] at *; simp at *; omega) (by have := hM.1; have := hM.2; simp only [Int32.le_iff_toInt_le] at *; simp at *; omega)
  rw [Int32.le_iff_toInt_le, h1] at h2
  rw [Int32.lt_iff_toInt_lt]
  omega
theorem SR.sv {X : XZ} {D : HP} {w : Nat} {K : MZ} {p : Int32} (h : SR X D w K) (hM : 0 ≤ K.1 0 ∧ K.1 0 ≤ 4) (hp : isS K p) : ∃ n, X.2.2.2.2 w (pz p) = .ref n ∧ SV D n (K.2.1 0 (pz p)) p (K.2.1 1 (pz p)) := by
  obtain ⟨e, h4, hl⟩ := isS_nat hM hp
  obtain ⟨n, h1, h2⟩ := h.2.2.1.1 _ h4 hl
  rw [← e] at h2
  exact ⟨n, h1, h2⟩
