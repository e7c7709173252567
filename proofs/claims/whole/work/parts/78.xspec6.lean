/-- what questions may change: situation 2, letters of 0, ins, wins, games, matches -/
def FQ (X X2 : XZ) : Prop := (∀ k, k < 18 ∨ 24 ≤ k → X2.1 k = X.1 k) ∧ (∀ j, (j < 18 ∧ j ≠ 8) ∨ j = 27 ∨ 40 ≤ j → X2.2.1 j = X.2.1 j) ∧ X2.2.2.1 = X.2.2.1 ∧ (∀ k, k ≠ 2 → X2.2.2.2.1 k = X.2.2.2.1 k) ∧ (∀ k, k ≠ 2 → X2.2.2.2.2 k = X.2.2.2.2 k)
theorem FQ.rf (X : XZ) : FQ X X := ⟨fun _ _ => rfl, fun _ _ => rfl, rfl, fun _ _ => rfl, fun _ _ => rfl⟩
theorem FQ.tr {X X2 X3 : XZ} (h : FQ X X2) (h2 : FQ X2 X3) : FQ X X3 := ⟨fun k hk => (h2.1 k hk).trans (h.1 k hk), fun k hk => (h2.2.1 k hk).trans (h.2.1 k hk), h2.2.2.1.trans h.2.2.1, fun k hk => (h2.2.2.2.1 k hk).trans (h.2.2.2.1 k hk), fun k hk => (h2.2.2.2.2 k hk).trans (h.2.2.2.2 k hk)⟩
theorem FQ.fx {X X2 X3 : XZ} (h : FQ X X2) (h2 : FX X2 X3 2) : FQ X X3 := h.tr ⟨fun k hk => h2.1 k (by omega), fun j hj => h2.2.1 j (by omega), h2.2.2.1, h2.2.2.2.1, h2.2.2.2.2⟩
theorem FQ.lt0 {X X2 : XZ} (h : FQ X X2) (g : Nat → Int32) : FQ X (xlt X2 0 g) := h.tr ⟨fun _ _ => rfl, fun j hj => xlt_a (by omega), rfl, fun _ _ => rfl, fun _ _ => rfl⟩
theorem FQ.pa {X X2 : XZ} (h : FQ X X2) {j i : Nat} {v : Int32} (hj : 28 ≤ j ∧ j < 40) : FQ X (xa X2 j i v) := h.tr ⟨fun _ _ => rfl, fun k hk => xa_ne (by omega), rfl, fun _ _ => rfl, fun _ _ => rfl⟩
theorem FQ.sr {X X2 : XZ} {D : HP} {v : Nat} {K : MZ} (h : FQ X X2) (hv : v < 2) (hR : SR X D v K) : SR X2 D v K := by
  obtain ⟨f1, f2, f3, f4, f5⟩ := h
  obtain ⟨⟨a1, a2, a3, a4, a5, a6⟩, ⟨b1, b2, b3, b4, b5, b6, b7, b8⟩, hS, hC⟩ := hR
  refine ⟨⟨?_, ?_, ?_, ?_, ?_, ?_⟩, ⟨?_, ?_, ?_, ?_, ?_, ?_, ?_, ?_⟩, ?_, ?_⟩
  any_goals (rw [f1 _ (by omega)]; assumption)
  any_goals (rw [f2 _ (by omega)]; assumption)
  · unfold SS; rw [f5 v (by omega)]; exact hS
  · unfold SC; rw [f4 v (by omega)]; exact hC
theorem FQ.xcc {X X2 : XZ} {c : Nat} (h : FQ X X2) : ∀ {cl : CLs} {fr i : Nat}, XCC X c fr i cl → XCC X2 c fr i cl
  | [], _, _, _ => trivial
  | r :: cl, fr, i, hx => by
    obtain ⟨⟨a1, a2, a3, a4, a5⟩, a6⟩ := hx
    refine ⟨⟨?_, ?_, ?_, a4, fun j hj => ?_⟩, FQ.xcc h a6⟩
    · rw [h.2.1 _ (by omega)]; exact a1
    · rw [h.2.1 _ (by omega)]; exact a2
    · rw [h.2.1 _ (by omega)]; exact a3
    · rw [h.2.1 _ (by omega)]; exact a5 j hj
theorem FQ.xc {X X2 : XZ} {c : Nat} (h : FQ X X2) {cl : CLs} (hx : XC X c cl) : XC X2 c cl := ⟨(h.1 _ (by omega)).trans hx.1, h.xcc hx.2⟩
theorem FQ.cx {X X2 : XZ} (h : FQ X X2) {K : MZ} {cl : CLs} (hx : CX X K cl) : CX X2 K cl := ⟨hx.1, hx.2.imp id fun ⟨f, a, b, c⟩ => ⟨f, a, b, h.xc c⟩⟩
theorem FQ.rv {X X2 : XZ} (h : FQ X X2) (hV : RV X) : RV X2 := by
  unfold RV
  rw [h.2.2.2.2 3 (by decide), h.2.2.2.2 4 (by decide), h.2.2.2.2 5 (by decide), h.2.2.2.2 6 (by decide)]
  exact hV
theorem win_k {w k m : Int32} (hk : 0 ≤ k.toInt ∧ k.toInt ≤ 1000) (hm : 0 ≤ m.toInt ∧ m.toInt ≤ 1000) : (0 ≤ w - k ∧ w - k ≤ m) ↔ (k ≤ w ∧ w ≤ k + m) := by
  have e : (k + m).toInt = k.toInt + m.toInt := by
    rw [Int32.toInt_add, Int.bmod_eq_of_le] <;> omega
  have h1 : w.toInt < 2147483648 := w.toInt_lt
  have h2 : -2147483648 ≤ w.toInt := w.le_toInt
  rw [Int32.le_iff_toInt_le, Int32.le_iff_toInt_le, Int32.le_iff_toInt_le, Int32.le_iff_toInt_le, e, Int32.toInt_sub]
  rw [show (0 : Int32).toInt = 0 from rfl]
  unfold Int.bmod
  simp only [show (2 ^ 32 : Nat) = 4294967296 from rfl]
  split <;> omega
theorem w10 {w : Int32} : (0 ≤ w - 10 ∧ w - 10 ≤ 9) ↔ (10 ≤ w ∧ w ≤ 19) := win_k (by decide) (by decide)
theorem w20 {w : Int32} : (0 ≤ w - 20 ∧ w - 20 ≤ 9) ↔ (20 ≤ w ∧ w ≤ 29) := win_k (by decide) (by decide)
theorem w1 {w : Int32} : (0 ≤ w - 1 ∧ w - 1 ≤ 3) ↔ (1 ≤ w ∧ w ≤ 4) := win_k (by decide) (by decide)
theorem of_1 {w : Int32} (h : 10 ≤ w ∧ w ≤ 19) : (10 ≤ w ∧ w ≤ 29) ∧ ¬ 20 ≤ w := by
  simp only [Int32.le_iff_toInt_le] at *
  simp at *
  omega
theorem of_2 {w : Int32} (h : 20 ≤ w ∧ w ≤ 29) : (10 ≤ w ∧ w ≤ 29) ∧ 20 ≤ w := by
  simp only [Int32.le_iff_toInt_le] at *
  simp at *
  omega
theorem of_3 {w : Int32} (h : ¬ (10 ≤ w ∧ w ≤ 19)) (h2 : ¬ (20 ≤ w ∧ w ≤ 29)) : ¬ (10 ≤ w ∧ w ≤ 29) := by
  simp only [Int32.le_iff_toInt_le] at *
  simp at *
  omega
/-- ins and wins are told up to k -/
def BI (X : XZ) (M : MZ) (cl : CLs) (p : Int32) (k : Nat) : Prop := ∀ i, i < k → X.2.1 28 i = sIn M cl p (nI i) ∧ X.2.1 29 i = sWn M cl p (nI i)
theorem BI.step {X : XZ} {M : MZ} {cl : CLs} {p : Int32} {k : Nat} {g g2 : Nat → Int32} {v v2 : Int32} (h : BI X M cl p k) (hv : v = sIn M cl p (nI k)) (hv2 : v2 = sWn M cl p (nI k)) : BI (xa (xlt (xa (xlt X 0 g) 28 k v) 0 g2) 29 k v2) M cl p (k + 1) := by
  intro i hi
  rw [xa_ne (by decide), xa_at, xlt_a (by decide), xlt_a (by decide), xa_at, xa_ne (by decide), xlt_a (by decide), xlt_a (by decide)]
  by_cases e : i = k
  · subst e; exact ⟨(if_pos rfl).trans hv, (if_pos rfl).trans hv2⟩
  · exact ⟨(if_neg e).trans (h i (by omega)).1, (if_neg e).trans (h i (by omega)).2⟩
theorem bst_s (M : MZ) (cl : CLs) (p : Int32) {a b : Nat} (ha : a < 10) (hb : b < 10) : bst M cl p (10 * a + b + 1) = if (bst M cl p (10 * a + b)).2 < sCh M cl p (nI a) (nI b) then (10 * nI a + nI b, sCh M cl p (nI a) (nI b)) else bst M cl p (10 * a + b) := by
  have e1 : nI (10 * a + b) / 10 = nI a := by
    rw [show (10 : Int32) = nI 10 from rfl, nI_div (by omega) (by decide)]; congr 1; omega
  have e2 : nI (10 * a + b) % 10 = nI b := by
    rw [show (10 : Int32) = nI 10 from rfl, nI_mod (by omega) (by decide)]; congr 1; omega
  rw [bst, e1, e2, show (10 : Int32) * nI a + nI b = nI (10 * a + b) from by rw [show (10 : Int32) = nI 10 from rfl, nI_mul, nI_add]]
