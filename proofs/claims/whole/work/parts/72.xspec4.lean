/-- the court in force as the class has it -/
def CX (X : XZ) (K : MZ) (cl : CLs) : Prop := CLW cl ∧ ((K.1 5 < 0 ∧ cl = []) ∨ ∃ f : Nat, f < 6 ∧ K.1 5 = nI f ∧ XC X f cl)
theorem CX.lt {X : XZ} {K : MZ} {cl : CLs} {w : Nat} (hw : w < 3) {g : Nat → Int32} (h : CX X K cl) : CX (xlt X w g) K cl := ⟨h.1, h.2.imp id fun ⟨f, a, b, c⟩ => ⟨f, a, b, c.lt hw⟩⟩
theorem CX.at {X : XZ} {D : HP} {K : MZ} {cl : CLs} {w : Nat} (h : CX X K cl) (hR : SR X D w K) : (X.2.2.2.1 w = .null ∧ cl = []) ∨ ∃ c : Nat, ∃ _ : c < 6, X.2.2.2.1 w = .ref (53 + 5 * c) ∧ XC X c cl := by
  rcases h.2 with ⟨h1, h2⟩ | ⟨f, h1, h2, h3⟩
  · rcases hR.2.2.2 with ⟨_, h5⟩ | ⟨g, h4, h5, h6⟩
    · exact Or.inl ⟨h5, h2⟩
    · rw [h5] at h1
      exact absurd h1 (nI_pos (by omega))
  · rcases hR.2.2.2 with ⟨h4, _⟩ | ⟨g, h4, h5, h6⟩
    · rw [h2] at h4
      exact absurd h4 (nI_pos (by omega))
    · have e : f = g := (nI_eq (by omega) (by omega)).mp (h2.symm.trans h5)
      subst e
      exact Or.inr ⟨f, h1, h6, h3⟩
theorem wn_eq {K : MZ} {cl : CLs} {p f a : Int32} (ha : a = sms K 1 p f cl 0) (hv : 0 ≤ K.2.1 1 (pz p)) : (if K.2.1 0 (pz p) = 4 then (if 0 < pct (40 + 5 * f + a) - K.2.1 1 (pz p) then pct (40 + 5 * f + a) - K.2.1 1 (pz p) else 0) else pct (40 + 5 * f + a)) = sWn K cl p f := by
  subst ha
  unfold sWn
  by_cases h : K.2.1 0 (pz p) = 4
  · rw [if_pos h, if_pos h]
    generalize K.2.1 1 (pz p) = v at *
    obtain ⟨j, hj, e⟩ := pct_bw (40 + 5 * f + sms K 1 p f cl 0)
    rw [e]
    unfold pct
    have t : (nI j - v).toInt = (j : Int) - v.toInt := by
      rw [Int32.le_iff_toInt_le] at hv
      simp at hv
      have h9 : v.toInt < 2147483648 := v.toInt_lt
      rw [fb_subI] <;> rw [nI_toInt (by omega)] <;> omega
    by_cases h1 : 0 < nI j - v
    · rw [if_pos h1, if_neg (Int32.lt_asymm h1), if_neg]
      intro z
      rw [Int32.lt_iff_toInt_lt, t] at z
      rw [Int32.le_iff_toInt_le] at hv
      simp at z hv
      omega
    · rw [if_neg h1]
      by_cases h2 : nI j - v < 0
      · rw [if_pos h2]
      · rw [if_neg h2, if_neg]
        · exact Int32.le_antisymm (Int32.not_lt.mp h2) (Int32.not_lt.mp h1)
        · exact fun z => h1 (Int32.lt_trans (by decide) z)
  · rw [if_neg h, if_neg h]
/-- X2 is X but for situation w -/
def FX (X X2 : XZ) (w : Nat) : Prop := (∀ k, k < 8 * w + 2 ∨ 8 * w + 8 ≤ k → X2.1 k = X.1 k) ∧ (∀ j, j < 9 * w ∨ 9 * w + 9 ≤ j → X2.2.1 j = X.2.1 j) ∧ X2.2.2.1 = X.2.2.1 ∧ (∀ k, k ≠ w → X2.2.2.2.1 k = X.2.2.2.1 k) ∧ (∀ k, k ≠ w → X2.2.2.2.2 k = X.2.2.2.2 k)
theorem FX.rf (X : XZ) (w : Nat) : FX X X w := ⟨fun _ _ => rfl, fun _ _ => rfl, rfl, fun _ _ => rfl, fun _ _ => rfl⟩
theorem FX.tr {X X2 X3 : XZ} {w : Nat} (h : FX X X2 w) (h2 : FX X2 X3 w) : FX X X3 w := ⟨fun k hk => (h2.1 k hk).trans (h.1 k hk), fun k hk => (h2.2.1 k hk).trans (h.2.1 k hk), h2.2.2.1.trans h.2.2.1, fun k hk => (h2.2.2.2.1 k hk).trans (h.2.2.2.1 k hk), fun k hk => (h2.2.2.2.2 k hk).trans (h.2.2.2.2 k hk)⟩
theorem FX.lt (X : XZ) (w : Nat) (g : Nat → Int32) : FX X (xlt X w g) w := ⟨fun _ _ => rfl, fun j hj => xlt_a (by omega), rfl, fun _ _ => rfl, fun _ _ => rfl⟩
theorem FX.p1 {X X2 : XZ} {w k : Nat} {v : Int32} (h : FX X X2 w) (hk : 8 * w + 2 ≤ k ∧ k < 8 * w + 8) : FX X (x1 X2 k v) w := ⟨fun j hj => (if_neg (by omega)).trans (h.1 j hj), h.2⟩
theorem FX.pa {X X2 : XZ} {w j i : Nat} {v : Int32} (h : FX X X2 w) (hk : 9 * w ≤ j ∧ j < 9 * w + 9) : FX X (xa X2 j i v) w := ⟨h.1, fun k hj => (if_neg (by omega)).trans (h.2.1 k hj), h.2.2⟩
theorem FX.pv {X X2 : XZ} {w : Nat} {v : Value} (h : FX X X2 w) : FX X (xv X2 w v) w := ⟨h.1, h.2.1, h.2.2.1, fun k hj => (if_neg hj).trans (h.2.2.2.1 k hj), h.2.2.2.2⟩
theorem FX.pw {X X2 : XZ} {w i : Nat} {v : Value} (h : FX X X2 w) : FX X (xw X2 w i v) w := ⟨h.1, h.2.1, h.2.2.1, h.2.2.2.1, fun k hj => (if_neg hj).trans (h.2.2.2.2 k hj)⟩
theorem FX.sr {X X2 : XZ} {D : HP} {w v : Nat} {K : MZ} (h : FX X X2 w) (hv : v ≠ w) (hR : SR X D v K) : SR X2 D v K := by
  obtain ⟨f1, f2, f3, f4, f5⟩ := h
  obtain ⟨⟨a1, a2, a3, a4, a5, a6⟩, ⟨b1, b2, b3, b4, b5, b6, b7, b8⟩, hS, hC⟩ := hR
  refine ⟨⟨?_, ?_, ?_, ?_, ?_, ?_⟩, ⟨?_, ?_, ?_, ?_, ?_, ?_, ?_, ?_⟩, ?_, ?_⟩
  any_goals (rw [f1 _ (by omega)]; assumption)
  any_goals (rw [f2 _ (by omega)]; assumption)
  · unfold SS; rw [f5 v hv]; exact hS
  · unfold SC; rw [f4 v hv]; exact hC
theorem FX.xcc {X X2 : XZ} {w c : Nat} (h : FX X X2 w) (hw : w < 3) : ∀ {cl : CLs} {fr i : Nat}, XCC X c fr i cl → XCC X2 c fr i cl
  | [], _, _, _ => trivial
  | r :: cl, fr, i, hx => by
    obtain ⟨⟨a1, a2, a3, a4, a5⟩, a6⟩ := hx
    refine ⟨⟨?_, ?_, ?_, a4, fun j hj => ?_⟩, FX.xcc h hw a6⟩
    · rw [h.2.1 _ (by omega)]; exact a1
    · rw [h.2.1 _ (by omega)]; exact a2
    · rw [h.2.1 _ (by omega)]; exact a3
    · rw [h.2.1 _ (by omega)]; exact a5 j hj
theorem FX.xc {X X2 : XZ} {w c : Nat} (h : FX X X2 w) (hw : w < 3) {cl : CLs} (hx : XC X c cl) : XC X2 c cl := ⟨(h.1 _ (by omega)).trans hx.1, h.xcc hw hx.2⟩
theorem FX.cx {X X2 : XZ} {w : Nat} (h : FX X X2 w) (hw : w < 3) {K : MZ} {cl : CLs} (hx : CX X K cl) : CX X2 K cl := ⟨hx.1, hx.2.imp id fun ⟨f, a, b, c⟩ => ⟨f, a, b, h.xc hw c⟩⟩
theorem CX.kk {X : XZ} {K K2 : MZ} {cl : CLs} (h : CX X K cl) (e : K2.1 5 = K.1 5) : CX X K2 cl := by
  unfold CX
  rw [e]
  exact h
/-- one number or one item of the situation changes on both sides -/
theorem SR.p1 {X : XZ} {D : HP} {w k j : Nat} {K : MZ} {v : Int32} (h : SR X D w K) (hk : (k = 8 * w + 3 ∧ j = 1) ∨ (k = 8 * w + 4 ∧ j = 2) ∨ (k = 8 * w + 5 ∧ j = 3) ∨ (k = 8 * w + 6 ∧ j = 12) ∨ (k = 8 * w + 7 ∧ j = 13)) : SR (x1 X k v) D w (ms1 K j v) := by
  obtain ⟨⟨a1, a2, a3, a4, a5, a6⟩, hA, hS, hC⟩ := h
  rcases hk with ⟨rfl, rfl⟩ | ⟨rfl, rfl⟩ | ⟨rfl, rfl⟩ | ⟨rfl, rfl⟩ | ⟨rfl, rfl⟩
  · exact ⟨⟨(if_neg (by omega)).trans a1, if_pos rfl, (if_neg (by omega)).trans a3, (if_neg (by omega)).trans a4, (if_neg (by omega)).trans a5, (if_neg (by omega)).trans a6⟩, hA, hS, hC⟩
  · exact ⟨⟨(if_neg (by omega)).trans a1, (if_neg (by omega)).trans a2, if_pos rfl, (if_neg (by omega)).trans a4, (if_neg (by omega)).trans a5, (if_neg (by omega)).trans a6⟩, hA, hS, hC⟩
  · exact ⟨⟨(if_neg (by omega)).trans a1, (if_neg (by omega)).trans a2, (if_neg (by omega)).trans a3, if_pos rfl, (if_neg (by omega)).trans a5, (if_neg (by omega)).trans a6⟩, hA, hS, hC⟩
  · exact ⟨⟨(if_neg (by omega)).trans a1, (if_neg (by omega)).trans a2, (if_neg (by omega)).trans a3, (if_neg (by omega)).trans a4, if_pos rfl, (if_neg (by omega)).trans a6⟩, hA, hS, hC⟩
  · exact ⟨⟨(if_neg (by omega)).trans a1, (if_neg (by omega)).trans a2, (if_neg (by omega)).trans a3, (if_neg (by omega)).trans a4, (if_neg (by omega)).trans a5, if_pos rfl⟩, hA, hS, hC⟩
theorem xa_at (X : XZ) (j i : Nat) (v : Int32) : (xa X j i v).2.1 j = upd (X.2.1 j) i v := if_pos rfl
theorem xa_ne {X : XZ} {j k i : Nat} {v : Int32} (h : k ≠ j) : (xa X j i v).2.1 k = X.2.1 k := if_neg h
theorem upd_rel {f g : Nat → Int32} {i m : Nat} {v : Int32} (h : ∀ k, k < m → f k = g k) : ∀ k, k < m → upd f i v k = upd g i v k := by
  intro k hk
  unfold upd
  by_cases e : k = i
  · rw [if_pos e, if_pos e]
  · rw [if_neg e, if_neg e]; exact h k hk
theorem msa_ne {K : MZ} {j k i : Nat} {v : Int32} (h : k ≠ j) : (msa K j i v).2.1 k = K.2.1 k := if_neg h
theorem msa_at (K : MZ) (j i : Nat) (v : Int32) : (msa K j i v).2.1 j = upd (K.2.1 j) i v := if_pos rfl
theorem SR.pa {X : XZ} {D : HP} {w k j i : Nat} {K : MZ} {v : Int32} (h : SR X D w K) (hk : (k = 9 * w + 0 ∧ j = 2) ∨ (k = 9 * w + 1 ∧ j = 3) ∨ (k = 9 * w + 2 ∧ j = 4) ∨ (k = 9 * w + 3 ∧ j = 5) ∨ (k = 9 * w + 5 ∧ j = 20) ∨ (k = 9 * w + 6 ∧ j = 21) ∨ (k = 9 * w + 7 ∧ j = 22)) : SR (xa X k i v) D w (msa K j i v) := by
  obtain ⟨hN, ⟨b1, b2, b3, b4, b5, b6, b7, b8⟩, hS, hC⟩ := h
  rcases hk with ⟨rfl, rfl⟩ | ⟨rfl, rfl⟩ | ⟨rfl, rfl⟩ | ⟨rfl, rfl⟩ | ⟨rfl, rfl⟩ | ⟨rfl, rfl⟩ | ⟨rfl, rfl⟩
  all_goals
    refine ⟨hN, ⟨?_, ?_, ?_, ?_, ?_, ?_, ?_, ?_⟩, ⟨?_, ?_⟩, hC⟩
    any_goals (first | (rw [xa_at, msa_at]; exact upd_rel (by assumption)) | (rw [xa_ne (by omega), msa_ne (by decide)]; assumption))
    · intro a ha hl
      rw [msa_ne (by decide), msa_ne (by decide)]
      exact hS.1 a ha hl
    · exact hS.2
theorem mn_eq {s : Int32} (h : 0 ≤ s ∧ s ≤ 9999) : (if s + 1 < 9999 then s + 1 else 9999) = s + if 9999 ≤ s then 0 else 1 := by
  obtain ⟨j, hj, rfl⟩ := bw_of (m := 9999) (n := 9999) (by decide) h
  rw [nI_1]
  by_cases e : j = 9999
  · subst e; decide
  · rw [if_neg (show ¬ (9999 : Int32) ≤ nI j from fun z => by rw [Int32.le_iff_toInt_le, nI_toInt (by omega)] at z; simp at z; omega), nI_1]
    by_cases e2 : j + 1 = 9999
    · rw [e2]; decide
    · rw [if_pos (show nI (j + 1) < 9999 from nI_lt (b := 9999) (by omega) (by omega))]
