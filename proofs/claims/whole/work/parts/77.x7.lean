theorem x_wC (d : Nat) (hp : HP) (n b c : Int32) (h : c.toInt + 1 = b.toInt) : Con d qX11_within 0 0 [.int n, .int b] hp (XI (b2i (0 ≤ n ∧ n ≤ c)) hp) := by
  have e : b2i (0 ≤ n ∧ n < b) = b2i (0 ≤ n ∧ n ≤ c) := b2i_c (and_congr_right fun _ => by rw [Int32.lt_iff_toInt_lt, Int32.le_iff_toInt_le]; omega)
  rw [← e]
  exact x_within d hp n b
theorem min4 {c : Int32} (h : 0 ≤ c ∧ c ≤ 4) : (if c < 4 then c else 4) = c := by
  by_cases e : c < 4
  · rw [if_pos e]
  · rw [if_neg e]; exact Int32.le_antisymm (Int32.not_lt.mp e) h.2
theorem isS_lt {K : MZ} {p : Int32} (h : 0 ≤ K.1 0 ∧ K.1 0 ≤ 4) : (0 ≤ p ∧ p < K.1 0) ↔ isS K p := by
  have h1 : (K.1 0 - 1).toInt = (K.1 0).toInt - 1 := fb_subI (by have := h.1; have := h.2; simp only [Int32.le_iff_toInt_le] at *; simp at *; omega) (by have := h.1; have := h.2; simp only [Int32.le_iff_toInt_le] at *; simp at *; omega)
  refine and_congr_right fun _ => ?_
  rw [Int32.lt_iff_toInt_lt, Int32.le_iff_toInt_le, h1]
  omega
/-- rows of the class that never change: courts, tapes, games, matches -/
def RV (X : XZ) : Prop := (∀ c, c < 6 → X.2.2.2.2 3 c = .ref (53 + 5 * c)) ∧ (∀ t, t < 6 → X.2.2.2.2 4 t = .ref (83 + 2 * t)) ∧ (∀ a, a < 5 → X.2.2.2.2 5 a = .ref (42 + a)) ∧ ∀ a, a < 5 → X.2.2.2.2 6 a = .ref (48 + a)

set_option maxRecDepth 100000 in
set_option maxHeartbeats 800000 in
theorem x_serverAt (d : Nat) (X : XZ) (M : MZ) (D : HP) (hR : SR X D 0 M) (hM : 0 ≤ M.1 0 ∧ M.1 0 ≤ 4) (p : Int32) : Con (d + 1) qX11_serverAt 0 0 [.ref 0, .int p] (xh X M D) (PR fun y h => ((isS M p ∧ ∃ n, y = .ref n ∧ SV D n (M.2.1 0 (pz p)) p (M.2.1 1 (pz p))) ∨ (¬ isS M p ∧ y = .null)) ∧ h = xh X M D) := by
  refine Con.of (by decide +kernel) (Nat.le_of_ble_eq_true rfl) ?_
  show Sem (d + 1) qX11_serverAt 0 0 0 [(0, .ref 0), (1, .int p)] [] (xh X M D) _
  refine s_iload_n (j := 1) dX11_serverAt_0 rfl ?_
  refine s_iconst (v := 4) dX11_serverAt_1 (by decide) ?_
  refine s_aload_nr (j := 0) dX11_serverAt_2 rfl ?_
  refine gX_X11_12 dX11_serverAt_3 rfl ?_
  refine gX_X11_71 (w := 0) (by decide) dX11_serverAt_6 rfl ?_
  rw [hR.1.1]
  refine s_mmin cs_X11_183 rfl dX11_serverAt_9 (Nat.le_of_ble_eq_true rfl) ?_
  rw [min4 hM]
  refine s_S2i cs_X11_67 rfl dX11_serverAt_12 (Nat.le_of_ble_eq_true rfl) (x_within _ _ _ _) (fun y12 h12 q12 => ?_)
  obtain ⟨rfl, rfl⟩ := q12
  refine s_if_eq dX11_serverAt_15 (tgt := 30) (by decide) (fun c15 => ?_) (fun c15 => ?_)
  · replace c15 : ¬ isS M p := fun z => b2i_0.mp c15 ((isS_lt hM).mpr z)
    refine s_null dX11_serverAt_30 ?_
    exact e_aret dX11_serverAt_31 rfl (Or.inl ⟨_, rfl⟩) (by first | exact Or.inl rfl | exact Or.inr (Or.inl ⟨_, rfl⟩)) (by exact ⟨Or.inr ⟨c15, rfl⟩, rfl⟩)
  · replace c15 : isS M p := (isS_lt hM).mp (b2i_n0.mp c15)
    obtain ⟨n, hv, hs⟩ := hR.sv hM c15
    refine s_aload_nr (j := 0) dX11_serverAt_18 rfl ?_
    refine gX_X11_12 dX11_serverAt_19 rfl ?_
    refine gX_X11_297 (w := 0) (by decide) dX11_serverAt_22 rfl ?_
    refine s_iload_n (j := 1) dX11_serverAt_25 rfl ?_
    refine lX_X4_servers (w := 0) (by decide) dX11_serverAt_26 (by exact in4_of hM c15) (v := .ref n) (hv) ?_
    refine s_goto dX11_serverAt_27 (tgt := 31) (by decide) ?_
    exact e_aret dX11_serverAt_31 rfl (Or.inl ⟨_, rfl⟩) (by first | exact Or.inl rfl | exact Or.inr (Or.inl ⟨_, rfl⟩)) (by exact ⟨Or.inl ⟨c15, n, rfl, hs⟩, rfl⟩)

set_option maxRecDepth 100000 in
set_option maxHeartbeats 800000 in
theorem x_tapeAt (d : Nat) (X : XZ) (M : MZ) (D : HP) (hV : RV X) (p : Int32) : Con (d + 1) qX11_tapeAt 0 0 [.ref 0, .int p] (xh X M D) (PR fun y h => ((isT p ∧ ∃ t, ∃ _ : t < 6, p = nI t ∧ y = .ref (83 + 2 * t)) ∨ (¬ isT p ∧ y = .null)) ∧ h = xh X M D) := by
  refine Con.of (by decide +kernel) (Nat.le_of_ble_eq_true rfl) ?_
  show Sem (d + 1) qX11_tapeAt 0 0 0 [(0, .ref 0), (1, .int p)] [] (xh X M D) _
  refine s_iload_n (j := 1) dX11_tapeAt_0 rfl ?_
  refine s_bipush (v := 6) dX11_tapeAt_1 (by decide) ?_
  refine s_S2i cs_X11_67 rfl dX11_tapeAt_3 (Nat.le_of_ble_eq_true rfl) (x_wC _ _ _ _ (5) (by decide)) (fun y3 h3 q3 => ?_)
  obtain ⟨rfl, rfl⟩ := q3
  refine s_if_eq dX11_tapeAt_6 (tgt := 18) (by decide) (fun c6 => ?_) (fun c6 => ?_)
  · replace c6 := b2i_0.mp c6
    refine s_null dX11_tapeAt_18 ?_
    exact e_aret dX11_tapeAt_19 rfl (Or.inl ⟨_, rfl⟩) (by first | exact Or.inl rfl | exact Or.inr (Or.inl ⟨_, rfl⟩)) (by exact ⟨Or.inr ⟨c6, rfl⟩, rfl⟩)
  · obtain ⟨t, ht, e⟩ : ∃ t : Nat, t < 6 ∧ p = nI t := by
      obtain ⟨j, hj, e⟩ := bw_of (m := 5) (n := 5) (by decide) (b2i_n0.mp c6)
      exact ⟨j, by omega, e⟩
    replace c6 := b2i_n0.mp c6
    refine s_aload_nr (j := 0) dX11_tapeAt_9 rfl ?_
    refine gX_X11_39 dX11_tapeAt_10 rfl ?_
    refine s_iload_n (j := 1) dX11_tapeAt_13 rfl ?_
    refine lX_X11_tapes dX11_tapeAt_14 (by rw [e]; exact vp_in_nI (by omega) (by decide)) (v := .ref (83 + 2 * t)) ((by rw [e, pz5 _ (by omega)]; exact hV.2.1 t ht)) ?_
    refine s_goto dX11_tapeAt_15 (tgt := 19) (by decide) ?_
    exact e_aret dX11_tapeAt_19 rfl (Or.inl ⟨_, rfl⟩) (by first | exact Or.inl rfl | exact Or.inr (Or.inl ⟨_, rfl⟩)) (by exact ⟨Or.inl ⟨c6, t, ht, e, rfl⟩, rfl⟩)
