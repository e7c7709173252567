/-! THE RELATION OF BOTH SIDES BETWEEN CALLS -/
/-- a situation's parts are the same -/
def SIT (K K2 : MZ) : Prop := (∀ k, k = 0 ∨ k = 1 ∨ k = 2 ∨ k = 3 ∨ k = 5 ∨ k = 12 ∨ k = 13 → K2.1 k = K.1 k) ∧ (∀ j i, j < 5 → i < 4 → K2.2.1 j i = K.2.1 j i) ∧ (∀ i, i < 16 → K2.2.1 5 i = K.2.1 5 i) ∧ (∀ j i, j = 18 ∨ j = 19 → i < 6 → K2.2.1 j i = K.2.1 j i) ∧ (∀ j i, 20 ≤ j → j ≤ 22 → i < 10 → K2.2.1 j i = K.2.1 j i)
theorem SR.sit {X : XZ} {D : HP} {w : Nat} {K K2 : MZ} (hs : SIT K K2) (h : SR X D w K) : SR X D w K2 := by
  obtain ⟨h1, h2, h3, h4, h5⟩ := hs
  obtain ⟨⟨a1, a2, a3, a4, a5, a6⟩, ⟨b1, b2, b3, b4, b5, b6, b7, b8⟩, ⟨s1, s2⟩, hC⟩ := h
  refine ⟨⟨?_, ?_, ?_, ?_, ?_, ?_⟩, ⟨fun i hi => ?_, fun i hi => ?_, fun i hi => ?_, fun i hi => ?_, fun i hi => ?_, fun i hi => ?_, fun i hi => ?_, fun i hi => ?_⟩, ⟨fun i hi hl => ?_, fun i hi hl => ?_⟩, ?_⟩
  · rw [h1 0 (by omega)]; exact a1
  · rw [h1 1 (by omega)]; exact a2
  · rw [h1 2 (by omega)]; exact a3
  · rw [h1 3 (by omega)]; exact a4
  · rw [h1 12 (by omega)]; exact a5
  · rw [h1 13 (by omega)]; exact a6
  · rw [h2 2 i (by omega) hi]; exact b1 i hi
  · rw [h2 3 i (by omega) hi]; exact b2 i hi
  · rw [h2 4 i (by omega) hi]; exact b3 i hi
  · rw [h3 i hi]; exact b4 i hi
  · rw [h4 18 i (by omega) hi, h4 19 i (by omega) hi]; exact b5 i hi
  · rw [h5 20 i (by omega) (by omega) hi]; exact b6 i hi
  · rw [h5 21 i (by omega) (by omega) hi]; exact b7 i hi
  · rw [h5 22 i (by omega) (by omega) hi]; exact b8 i hi
  · rw [h1 0 (by omega)] at hl
    rw [h2 0 i (by omega) hi, h2 1 i (by omega) hi]
    exact s1 i hi hl
  · rw [h1 0 (by omega)] at hl
    exact s2 i hi hl
  · unfold SC
    rw [h1 5 (by omega)]
    exact hC
/-- what holds of a situation's numbers; F courts are read -/
def RI (F : Nat) (K : MZ) : Prop := KI K ∧ ((∃ n : Nat, n ≤ 6 ∧ K.1 12 = nI n) ∧ ∀ j, j < 6 → (0 ≤ K.2.1 18 j ∧ K.2.1 18 j ≤ 9) ∧ (0 ≤ K.2.1 19 j ∧ K.2.1 19 j ≤ 9)) ∧ (∀ i, i < 16 → 0 ≤ K.2.1 5 i ∧ K.2.1 5 i ≤ 9) ∧ (∃ n : Nat, n ≤ 10 ∧ K.1 13 = nI n ∧ ∀ j, j < n → isS K (K.2.1 20 j)) ∧ (∀ j : Nat, j < 4 → ¬ nI j < K.1 0 → K.2.1 4 j = 0 ∧ ∀ r, r < 4 → K.2.1 5 (4 * j + r) = 0) ∧ (K.1 5 < 0 ∨ ∃ f : Nat, f < F ∧ K.1 5 = nI f)
theorem RI.sit {F : Nat} {K K2 : MZ} (hs : SIT K K2) (h : RI F K) : RI F K2 := by
  obtain ⟨h1, h2, h3, h4, h5⟩ := hs
  obtain ⟨⟨⟨m1, m2, m3⟩, k1, k2, k3, k4⟩, ⟨s1, s2⟩, r1, ⟨n, n1, n2, n3⟩, z, c⟩ := h
  refine ⟨⟨⟨?_, ?_, ?_⟩, fun i hi => ?_, fun i hi => ?_, fun i hi => ?_, fun i hi => ?_⟩, ⟨?_, fun j hj => ?_⟩, fun i hi => ?_, ⟨n, n1, ?_, fun j hj => ?_⟩, fun j hj hl => ?_, ?_⟩
  · rw [h1 0 (by omega)]; exact m1
  · rw [h1 1 (by omega)]; exact m2
  · rw [h1 2 (by omega)]; exact m3
  · rw [h2 4 i (by omega) hi]; exact k1 i hi
  · rw [h2 2 i (by omega) hi]; exact k2 i hi
  · rw [h2 3 i (by omega) hi]; exact k3 i hi
  · rw [h2 1 i (by omega) hi]; exact k4 i hi
  · rw [h1 12 (by omega)]; exact s1
  · rw [h4 18 j (by omega) hj, h4 19 j (by omega) hj]; exact s2 j hj
  · rw [h3 i hi]; exact r1 i hi
  · rw [h1 13 (by omega)]; exact n2
  · rw [h5 20 j (by omega) (by omega) (by omega)]
    show 0 ≤ K.2.1 20 j ∧ K.2.1 20 j ≤ K2.1 0 - 1
    rw [h1 0 (by omega)]; exact n3 j hj
  · rw [h1 0 (by omega)] at hl
    rw [h2 4 j (by omega) hj]
    refine ⟨(z j hj hl).1, fun r hr => ?_⟩
    rw [h3 _ (by omega)]
    exact (z j hj hl).2 r hr
  · rw [h1 5 (by omega)]; exact c
def imA (B : Nat → Nat → Int32) : Nat → Nat → Int32 := fun j i => if j < 5 then B (j + 24) i else if j = 5 then B 29 i else if 18 ≤ j ∧ j ≤ 22 then B (j + 12) i else B j i
/-- the model as undo() makes it -/
def imK (M : MZ) : MZ := (unS M.1, imA M.2.1, M.2.2)
def CR (X : XZ) (M : MZ) (F : Nat) : Prop := ∀ f : Nat, f < F → ∃ cl, CLW cl ∧ XC X f cl ∧ M.2.1 7 f = nI cl.length ∧ CCB M (100 * f + 100) (10 * f) cl
/-- between calls -/
def RR (X : XZ) (M : MZ) (D : HP) : Prop := SR X D 0 M ∧ (∃ F : Nat, F ≤ 6 ∧ X.1 1 = nI F ∧ M.1 4 = nI F ∧ RI F M ∧ (¬ M.1 14 = 0 → SR X D 1 (imK M) ∧ RI F (imK M)) ∧ CR X M F) ∧ X.1 0 = M.1 14 ∧ (∃ N : Nat, TX X (M.2.1 6) N ∧ M.1 6 = nI N) ∧ LTV (M.2.1 14) ∧ RV X ∧ RP X M ∧ ∃ tr, BO X D tr ∧ M.1 22 = nI tr.length ∧ TRo tr (M.2.1 35)
theorem unS_ne {f : Nat → Int32} {k : Nat} (h : k ≠ 0 ∧ k ≠ 1 ∧ k ≠ 2 ∧ k ≠ 3 ∧ k ≠ 5 ∧ k ≠ 12 ∧ k ≠ 13) : unS f k = f k := by
  unfold unS
  simp only [upd]
  rw [if_neg (by omega), if_neg (by omega), if_neg (by omega), if_neg (by omega), if_neg (by omega), if_neg (by omega), if_neg (by omega)]
theorem unS_at (f : Nat → Int32) : unS f 0 = f 16 ∧ unS f 1 = f 17 ∧ unS f 2 = f 18 ∧ unS f 3 = f 19 ∧ unS f 5 = f 15 ∧ unS f 12 = f 20 ∧ unS f 13 = f 21 := ⟨rfl, rfl, rfl, rfl, rfl, rfl, rfl⟩
/-- images that are alike -/
theorem SIT.im {M M2 : MZ} (h1 : ∀ k, 14 ≤ k → k ≤ 21 → M2.1 k = M.1 k) (h2 : ∀ j, 24 ≤ j → j ≤ 34 → M2.2.1 j = M.2.1 j) : SIT (imK M) (imK M2) := by
  refine ⟨fun k hk => ?_, fun j i hj hi => ?_, fun i hi => ?_, fun j i hj hi => ?_, fun j i h20 h22 hi => ?_⟩
  · show unS M2.1 k = unS M.1 k
    obtain ⟨u0, u1, u2, u3, u5, u12, u13⟩ := unS_at M.1
    obtain ⟨v0, v1, v2, v3, v5, v12, v13⟩ := unS_at M2.1
    rcases hk with rfl | rfl | rfl | rfl | rfl | rfl | rfl
    · rw [u0, v0, h1 16 (by omega) (by omega)]
    · rw [u1, v1, h1 17 (by omega) (by omega)]
    · rw [u2, v2, h1 18 (by omega) (by omega)]
    · rw [u3, v3, h1 19 (by omega) (by omega)]
    · rw [u5, v5, h1 15 (by omega) (by omega)]
    · rw [u12, v12, h1 20 (by omega) (by omega)]
    · rw [u13, v13, h1 21 (by omega) (by omega)]
  · show imA M2.2.1 j i = imA M.2.1 j i
    unfold imA
    rw [if_pos hj, if_pos hj, h2 _ (by omega) (by omega)]
  · show imA M2.2.1 5 i = imA M.2.1 5 i
    unfold imA
    rw [if_neg (by omega), if_pos rfl, if_neg (by omega), if_pos rfl, h2 _ (by omega) (by omega)]
  · show imA M2.2.1 j i = imA M.2.1 j i
    unfold imA
    rw [if_neg (by omega), if_neg (by omega), if_pos (by omega), if_neg (by omega), if_neg (by omega), if_pos (by omega), h2 _ (by omega) (by omega)]
  · show imA M2.2.1 j i = imA M.2.1 j i
    unfold imA
    rw [if_neg (by omega), if_neg (by omega), if_pos (by omega), if_neg (by omega), if_neg (by omega), if_pos (by omega), h2 _ (by omega) (by omega)]
/-- what the rest of the relation reads of the class -/
def FG (X X2 : XZ) : Prop := (∀ k, k ≤ 1 ∨ (10 ≤ k ∧ k < 18) ∨ 26 ≤ k → X2.1 k = X.1 k) ∧ (∀ j, (9 ≤ j ∧ j < 18) ∨ j = 27 ∨ 40 ≤ j → X2.2.1 j = X.2.1 j) ∧ X2.2.2.1 = X.2.2.1 ∧ (∀ k, k = 1 ∨ k = 3 → X2.2.2.2.1 k = X.2.2.2.1 k) ∧ (∀ k, k = 1 ∨ 3 ≤ k → X2.2.2.2.2 k = X.2.2.2.2 k)
theorem FQ.fg {X X2 : XZ} (h : FQ X X2) : FG X X2 := ⟨fun k hk => h.1 k (by omega), fun j hj => h.2.1 j (by omega), h.2.2.1, fun k hk => h.2.2.2.1 k (by omega), fun k hk => h.2.2.2.2 k (by omega)⟩
theorem FX.fg {X X2 : XZ} (h : FX X X2 0) : FG X X2 := ⟨fun k hk => h.1 k (by omega), fun j hj => h.2.1 j (by omega), h.2.2.1, fun k hk => h.2.2.2.1 k (by omega), fun k hk => h.2.2.2.2 k (by omega)⟩
theorem FG.sr1 {X X2 : XZ} {D : HP} {K : MZ} (h : FG X X2) (hR : SR X D 1 K) : SR X2 D 1 K := by
  obtain ⟨f1, f2, f3, f4, f5⟩ := h
  obtain ⟨⟨a1, a2, a3, a4, a5, a6⟩, ⟨b1, b2, b3, b4, b5, b6, b7, b8⟩, hS, hC⟩ := hR
  refine ⟨⟨?_, ?_, ?_, ?_, ?_, ?_⟩, ⟨?_, ?_, ?_, ?_, ?_, ?_, ?_, ?_⟩, ?_, ?_⟩
  any_goals (rw [f1 _ (by omega)]; assumption)
  any_goals (rw [f2 _ (by omega)]; assumption)
  · unfold SS; rw [f5 1 (by omega)]; exact hS
  · unfold SC; rw [f4 1 (by omega)]; exact hC
theorem SS.push {X : XZ} {D : HP} {w : Nat} {K : MZ} (E : HP) (h : SS X D w K) : SS X (D ++ E) w K := by
  refine ⟨fun i hi hl => ?_, fun i hi hl => ?_⟩
  · obtain ⟨n, h1, h2⟩ := h.1 i hi hl
    exact ⟨n, h1, h2.push E⟩
  · rcases h.2 i hi hl with h | ⟨n, k, j, v, h1, h2⟩
    · exact Or.inl h
    · exact Or.inr ⟨n, k, j, v, h1, h2.push E⟩
theorem SR.push {X : XZ} {D : HP} {w : Nat} {K : MZ} (E : HP) (h : SR X D w K) : SR X (D ++ E) w K := ⟨h.1, h.2.1, h.2.2.1.push E, h.2.2.2⟩
theorem BO.push {X : XZ} {D : HP} {tr : List Int32} (E : HP) (h : BO X D tr) : BO X (D ++ E) tr := by
  obtain ⟨h1, h2, h3, cap, f, hA, hl, hf⟩ := h
  refine ⟨h1, h2, h3, cap, f, ?_, hl, hf⟩
  rcases hA with h | ⟨hc, n, hn, he, hd⟩
  · exact Or.inl h
  · exact Or.inr ⟨hc, n, hn, he, by rw [List.getElem?_append_left (List.getElem?_eq_some_iff.mp hd).1]; exact hd⟩
theorem BO.eq {X X2 : XZ} {D : HP} {tr : List Int32} (h1 : X2.1 53 = X.1 53) (h3 : X2.2.2.2.1 3 = X.2.2.2.1 3) (h : BO X D tr) : BO X2 D tr := by
  obtain ⟨a1, a2, a3, cap, f, hA, hl, hf⟩ := h
  refine ⟨h1.trans a1, a2, a3, cap, f, ?_, hl, hf⟩
  unfold AL
  rw [h3]
  exact hA
/-- the model changes within its situation alone -/
def MS (M M2 : MZ) : Prop := (∀ k, k = 4 ∨ k = 6 ∨ 14 ≤ k → M2.1 k = M.1 k) ∧ (∀ j, (6 ≤ j ∧ j < 18) ∨ 23 ≤ j → M2.2.1 j = M.2.1 j) ∧ M2.2.2 = M.2.2
theorem MS.rf (M : MZ) : MS M M := ⟨fun _ _ => rfl, fun _ _ => rfl, rfl⟩
theorem RP.eq {X X2 : XZ} {M M2 : MZ} (h1 : ∀ k, 40 ≤ k → k < 52 → X2.1 k = X.1 k) (h2 : X2.2.2.1 = X.2.2.1) (h3 : M2.2.1 36 = M.2.1 36) (h4 : M2.2.1 37 = M.2.1 37) (h5 : M2.2.2 0 = M.2.2 0) (h : RP X M) : RP X2 M2 := fun t ht => by
  obtain ⟨a1, a2, a3, a4, a5, a6⟩ := h t ht
  rw [h1 _ (by omega) (by omega), h1 _ (by omega) (by omega), h2, h3, h4, h5]
  exact ⟨a1, a2, a3, a4, a5, a6⟩
theorem RV.eq {X X2 : XZ} (h : ∀ k, 3 ≤ k → X2.2.2.2.2 k = X.2.2.2.2 k) (hV : RV X) : RV X2 := by
  unfold RV
  rw [h 3 (by decide), h 4 (by decide), h 5 (by decide), h 6 (by decide)]
  exact hV
theorem RR.fg {X X2 : XZ} {M M2 : MZ} {D E : HP} (h : RR X M D) (hf : FG X X2) (hS : SR X2 (D ++ E) 0 M2) (hM : MS M M2) (hI : ∀ F : Nat, RI F M → (¬ M.1 14 = 0 → RI F (imK M)) → RI F M2) : RR X2 M2 (D ++ E) := by
  obtain ⟨h1, ⟨F, hF, hc1, hc2, hri, him, hcr⟩, h14, ⟨N, hT, h6⟩, hL, hV, hP, tr, hB, h22, hTR⟩ := h
  obtain ⟨m1, m2, m3⟩ := hM
  refine ⟨hS, ⟨F, hF, (hf.1 1 (by omega)).trans hc1, (m1 4 (by omega)).trans hc2, hI F hri (fun z => (him z).2), fun h0 => ?_, fun f hf2 => ?_⟩, ?_, ⟨N, ⟨(hf.1 26 (by omega)).trans hT.1, hT.2.1, fun i hi => ?_⟩, (m1 6 (by omega)).trans h6⟩, ?_, hV.eq (fun k hk => hf.2.2.2.2 k (by omega)), hP.eq (fun k h40 h52 => hf.1 k (by omega)) hf.2.2.1 (m2 36 (by omega)) (m2 37 (by omega)) (by rw [m3]), tr, ?_, (m1 22 (by omega)).trans h22, ?_⟩
  · rw [m1 14 (by omega)] at h0
    have hs : SIT (imK M) (imK M2) := SIT.im (fun k a b => m1 k (by omega)) (fun j a b => m2 j (by omega))
    exact ⟨((hf.sr1 (him h0).1).push E).sit hs, (him h0).2.sit hs⟩
  · obtain ⟨cl, c1, c2, c3, c4⟩ := hcr f hf2
    exact ⟨cl, c1, c2.eq (hf.1 _ (by omega)) (fun j hj => hf.2.1 j (by omega)), by rw [m2 7 (by omega)]; exact c3, c4.cg (fun j a b => m2 j (by omega))⟩
  · rw [hf.1 0 (by omega), m1 14 (by omega)]; exact h14
  · rw [hf.2.1 27 (by omega), m2 6 (by omega)]; exact hT.2.2 i hi
  · rw [m2 14 (by omega)]; exact hL
  · exact (hB.push E).eq (hf.1 53 (by omega)) (hf.2.2.2.1 3 (by omega))
  · rw [m2 35 (by omega)]; exact hTR
theorem app_nil {D : HP} {P : HP → Prop} (h : P (D ++ [])) : P D := by rwa [List.append_nil] at h
theorem RR.fq {X X2 : XZ} {M : MZ} {D : HP} (h : RR X M D) (hf : FQ X X2) : RR X2 M D :=
  app_nil (P := RR X2 M) (h.fg hf.fg (by rw [List.append_nil]; exact hf.sr (by decide) h.1) (MS.rf M) (fun _ z _ => z))
theorem RR.fx {X X2 : XZ} {M M2 : MZ} {D : HP} (h : RR X M D) (hf : FX X X2 0) (hS : SR X2 D 0 M2) (hM : MS M M2) (hI : ∀ F : Nat, RI F M → RI F M2) : RR X2 M2 D :=
  app_nil (P := RR X2 M2) (h.fg hf.fg (by rw [List.append_nil]; exact hS) hM (fun F z _ => hI F z))
/-- scratch may be whatever -/
theorem scr_k {M s : MZ} {k : Nat} (h : k < 7 ∨ 11 < k) : (scr M s).1 k = M.1 k := by
  show cond (Nat.ble 7 k && Nat.ble k 11) _ _ = _
  have e : (Nat.ble 7 k && Nat.ble k 11) = false := by
    rcases h with h | h
    · rw [show Nat.ble 7 k = false from Bool.eq_false_iff.mpr fun z => by have := Nat.le_of_ble_eq_true z; omega]; rfl
    · rw [show Nat.ble k 11 = false from Bool.eq_false_iff.mpr fun z => by have := Nat.le_of_ble_eq_true z; omega, Bool.and_false]
  rw [e]; rfl
theorem beq_ne {j n : Nat} (h : j ≠ n) : Nat.beq j n = false := Bool.eq_false_iff.mpr fun z => h (Nat.eq_of_beq_eq_true z)
theorem scr_j {M s : MZ} {j : Nat} (h : j ≠ 13 ∧ j ≠ 15 ∧ j ≠ 16 ∧ j ≠ 17 ∧ j ≠ 23) : (scr M s).2.1 j = M.2.1 j := by
  show cond (Nat.beq j 13 || (Nat.beq j 15 || (Nat.beq j 16 || (Nat.beq j 17 || Nat.beq j 23)))) _ _ = _
  rw [beq_ne h.1, beq_ne h.2.1, beq_ne h.2.2.1, beq_ne h.2.2.2.1, beq_ne h.2.2.2.2]
  rfl
/-- the model may change where the relation does not look -/
def MO (M M2 : MZ) : Prop := (∀ k, k < 7 ∨ 11 < k → M2.1 k = M.1 k) ∧ (∀ j, j ≠ 13 ∧ j ≠ 15 ∧ j ≠ 16 ∧ j ≠ 17 ∧ j ≠ 23 → M2.2.1 j = M.2.1 j) ∧ M2.2.2 0 = M.2.2 0
theorem MO.scr (M s : MZ) : MO M (scr M s) := ⟨fun _ h => scr_k h, fun _ h => scr_j h, rfl⟩
theorem MO.sit {M M2 : MZ} (h : MO M M2) : SIT M M2 := ⟨fun k hk => h.1 k (by omega), fun j i hj _ => congrFun (h.2.1 j (by omega)) i, fun i _ => congrFun (h.2.1 5 (by omega)) i, fun j i hj _ => congrFun (h.2.1 j (by omega)) i, fun j i h1 h2 _ => congrFun (h.2.1 j (by omega)) i⟩
theorem RR.mo {X : XZ} {M M2 : MZ} {D : HP} (h : RR X M D) (hm : MO M M2) : RR X M2 D := by
  obtain ⟨h1, ⟨F, hF, hc1, hc2, hri, him, hcr⟩, h14, ⟨N, hT, h6⟩, hL, hV, hP, tr, hB, h22, hTR⟩ := h
  refine ⟨h1.sit hm.sit, ⟨F, hF, hc1, (hm.1 4 (by omega)).trans hc2, hri.sit hm.sit, fun h0 => ?_, fun f hf2 => ?_⟩, ?_, ⟨N, ?_, (hm.1 6 (by omega)).trans h6⟩, ?_, hV, hP.eq (fun _ _ _ => rfl) rfl (hm.2.1 36 (by omega)) (hm.2.1 37 (by omega)) hm.2.2, tr, hB, (hm.1 22 (by omega)).trans h22, ?_⟩
  · rw [hm.1 14 (by omega)] at h0
    have hs : SIT (imK M) (imK M2) := SIT.im (fun k a b => hm.1 k (by omega)) (fun j a b => hm.2.1 j (by omega))
    exact ⟨(him h0).1.sit hs, (him h0).2.sit hs⟩
  · obtain ⟨cl, c1, c2, c3, c4⟩ := hcr f hf2
    exact ⟨cl, c1, c2, by rw [hm.2.1 7 (by omega)]; exact c3, c4.cg (fun j a b => hm.2.1 j (by omega))⟩
  · rw [hm.1 14 (by omega)]; exact h14
  · rw [hm.2.1 6 (by omega)]; exact hT
  · rw [hm.2.1 14 (by omega)]; exact hL
  · rw [hm.2.1 35 (by omega)]; exact hTR
/-- the clauses in force -/
theorem RR.cl {X : XZ} {M : MZ} {D : HP} (h : RR X M D) : ∃ cl, CN M cl ∧ CX X M cl := by
  obtain ⟨h1, ⟨F, hF, hc1, hc2, hri, him, hcr⟩, -⟩ := h
  rcases hri.2.2.2.2.2 with h5 | ⟨f, hf, h5⟩
  · exact ⟨[], Or.inl ⟨h5, rfl⟩, ⟨Nat.zero_le _, fun _ z => absurd z List.not_mem_nil⟩, Or.inl ⟨h5, rfl⟩⟩
  · obtain ⟨cl, c1, c2, c3, c4⟩ := hcr f hf
    exact ⟨cl, Or.inr ⟨f, by omega, h5, c1.1, c3, c4.cc (by omega)⟩, c1, Or.inr ⟨f, by omega, h5, c2⟩⟩
theorem RR.ki {X : XZ} {M : MZ} {D : HP} (h : RR X M D) : KI M := by
  obtain ⟨h1, ⟨F, hF, hc1, hc2, hri, -⟩, -⟩ := h
  exact hri.1
