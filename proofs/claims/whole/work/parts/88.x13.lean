theorem sum8 {a b : Int32} (ha : 0 ≤ a ∧ a ≤ 4) (hb : 0 ≤ b ∧ b ≤ 4) (h : a + b = 8) : a = 4 ∧ b = 4 := by
  obtain ⟨x, hx, rfl⟩ := bw_of (m := 4) (n := 4) (by decide) ha
  obtain ⟨y, hy, rfl⟩ := bw_of (m := 4) (n := 4) (by decide) hb
  rw [nI_add, show (8 : Int32) = nI 8 from rfl, nI_eq (by omega) (by decide)] at h
  rw [show x = 4 by omega, show y = 4 by omega]
  exact ⟨rfl, rfl⟩
theorem vp_rng {j : Int32} {n : Nat} {m : Int32} (h : vp_in j n) (hm : m.toInt = (n : Int)) : 0 ≤ j ∧ j < m := by
  rw [vp_in_iff] at h
  rw [Int32.le_iff_toInt_le, Int32.lt_iff_toInt_lt, hm]
  exact h
theorem w012 {w : Int32} (h : 0 ≤ w ∧ w ≤ 2) : w = 0 ∨ w = 1 ∨ w = 2 := by
  simp only [Int32.le_iff_toInt_le, ← Int32.toInt_inj] at *
  simp at *
  omega
theorem w16 {w : Int32} (h : 1 ≤ w ∧ w ≤ 6) : w = 1 ∨ w = 2 ∨ w = 3 ∨ w = 4 ∨ w = 5 ∨ w = 6 := by
  simp only [Int32.le_iff_toInt_le, ← Int32.toInt_inj] at *
  simp at *
  omega
theorem tk_iff {t k : Int32} (ht : 0 ≤ t ∧ t ≤ 6) : (t = 0 ∨ (1 ≤ t ∧ t ≤ 6) ∧ (k = t ∨ (t = 1 ∧ k = 4) ∨ (t = 2 ∧ k = 5) ∨ (t = 3 ∧ k = 6))) ↔ (t = 0 ∨ k = t ∨ (t = 1 ∧ k = 4) ∨ (t = 2 ∧ k = 5) ∨ (t = 3 ∧ k = 6)) := by
  constructor
  · rintro (h | ⟨_, h⟩)
    · exact Or.inl h
    · exact Or.inr h
  · rintro (h | h)
    · exact Or.inl h
    · by_cases e : t = 0
      · exact Or.inl e
      · refine Or.inr ⟨⟨?_, ht.2⟩, h⟩
        have := ht.1
        simp only [Int32.le_iff_toInt_le, ← Int32.toInt_inj] at *
        simp at *
        omega

set_option maxRecDepth 100000 in
set_option maxHeartbeats 800000 in
theorem x_told (d : Nat) (X : XZ) (M : MZ) (D : HP) (hR : SR X D 0 M) (w : Int32) : Con d qX11_told 0 0 [.ref 0, .int w] (xh X M D) (XI (if w = 0 then M.1 1 else if w = 1 then M.1 2 else if w = 2 then M.1 3 else -1) (xh X M D)) := by
  refine Con.of (by decide +kernel) (Nat.le_of_ble_eq_true rfl) ?_
  show Sem d qX11_told 0 0 0 [(0, .ref 0), (1, .int w)] [] (xh X M D) _
  refine s_iload_n (j := 1) dX11_told_0 rfl ?_
  refine s_topi (fun x1 ex1 => ?_)
  by_cases k1_0 : x1 = 0
  · refine s_tswIn dX11_told_1 (tgt := 28) (by rw [k1_0]; decide) (by rw [k1_0]; decide) (off := 27) (by rw [k1_0]; decide) (by decide) ?_
    replace ex1 := ex1.symm.trans k1_0
    clear k1_0
    refine s_aload_nr (j := 0) dX11_told_28 rfl ?_
    refine gX_X11_12 dX11_told_29 rfl ?_
    refine gX_X11_148 (w := 0) (by decide) dX11_told_32 rfl ?_
    exact e_iret dX11_told_35 rfl (by exact ⟨by rw [if_pos ex1]; exact hR.1.2.1, rfl⟩)
  by_cases k1_1 : x1 = 1
  · refine s_tswIn dX11_told_1 (tgt := 36) (by rw [k1_1]; decide) (by rw [k1_1]; decide) (off := 35) (by rw [k1_1]; decide) (by decide) ?_
    replace ex1 := ex1.symm.trans k1_1
    clear k1_1 k1_0
    refine s_aload_nr (j := 0) dX11_told_36 rfl ?_
    refine gX_X11_12 dX11_told_37 rfl ?_
    refine gX_X11_151 (w := 0) (by decide) dX11_told_40 rfl ?_
    exact e_iret dX11_told_43 rfl (by exact ⟨by rw [ex1]; exact hR.1.2.2.1, rfl⟩)
  by_cases k1_2 : x1 = 2
  · refine s_tswIn dX11_told_1 (tgt := 44) (by rw [k1_2]; decide) (by rw [k1_2]; decide) (off := 43) (by rw [k1_2]; decide) (by decide) ?_
    replace ex1 := ex1.symm.trans k1_2
    clear k1_2 k1_1 k1_0
    refine s_aload_nr (j := 0) dX11_told_44 rfl ?_
    refine gX_X11_12 dX11_told_45 rfl ?_
    refine gX_X11_154 (w := 0) (by decide) dX11_told_48 rfl ?_
    exact e_iret dX11_told_51 rfl (by exact ⟨by rw [ex1]; exact hR.1.2.2.2.1, rfl⟩)
  refine s_tswOut dX11_told_1 (tgt := 52) (by have a0 := lv_neT (a := 0) k1_0 rfl; have a1 := lv_neT (a := 1) k1_1 rfl; have a2 := lv_neT (a := 2) k1_2 rfl; omega) (by decide) ?_
  replace k1_0 : ¬ _ = _ := fun z => k1_0 (ex1.trans z)
  replace k1_1 : ¬ _ = _ := fun z => k1_1 (ex1.trans z)
  replace k1_2 : ¬ _ = _ := fun z => k1_2 (ex1.trans z)
  clear ex1
  refine s_iconst (v := -1) dX11_told_52 (by decide) ?_
  exact e_iret dX11_told_53 rfl (by exact ⟨by rw [if_neg k1_0, if_neg k1_1, if_neg k1_2], rfl⟩)

set_option maxRecDepth 100000 in
set_option maxHeartbeats 800000 in
theorem x_stance (d : Nat) (X : XZ) (M : MZ) (D : HP) (hR : SR X D 0 M) (n : Int32) : Con (d + 1) qX11_stance 0 0 [.ref 0, .int n] (xh X M D) (PI fun y h => y = (if 0 ≤ n ∧ n ≤ 2 then M.1 3 else -1) ∧ ∃ X2, h = xh X2 M D ∧ FX X X2 0 ∧ SR X2 D 0 (if 0 ≤ n ∧ n ≤ 2 then ms1 M 3 n else M)) := by
  refine Con.of (by decide +kernel) (Nat.le_of_ble_eq_true rfl) ?_
  show Sem (d + 1) qX11_stance 0 0 0 [(0, .ref 0), (1, .int n)] [] (xh X M D) _
  refine s_iload_n (j := 1) dX11_stance_0 rfl ?_
  refine s_iconst (v := 3) dX11_stance_1 (by decide) ?_
  refine s_S2i cs_X11_67 rfl dX11_stance_2 (Nat.le_of_ble_eq_true rfl) (x_wC _ _ _ _ (2) (by decide)) (fun y2 h2 q2 => ?_)
  obtain ⟨rfl, rfl⟩ := q2
  refine s_if_ne dX11_stance_5 (tgt := 10) (by decide) (fun c5 => ?_) (fun c5 => ?_)
  · replace c5 := b2i_n0.mp c5
    refine s_aload_nr (j := 0) dX11_stance_10 rfl ?_
    refine gX_X11_12 dX11_stance_11 rfl ?_
    refine gX_X11_154 (w := 0) (by decide) dX11_stance_14 rfl ?_
    refine s_istore_n dX11_stance_17 (by decide) rfl ?_
    refine s_aload_nr (j := 1) dX11_stance_18 rfl ?_
    refine gX_X11_12 dX11_stance_19 rfl ?_
    refine s_iload_n (j := 2) dX11_stance_22 rfl ?_
    refine pX_X11_154 (w := 0) (by decide) dX11_stance_23 rfl ?_
    refine s_iload_n (j := 0) dX11_stance_26 rfl ?_
    exact e_iret dX11_stance_27 rfl (by rw [if_pos c5, if_pos c5]; exact ⟨hR.1.2.2.2.1, _, rfl, (FX.rf X 0).p1 (by decide), hR.p1 (Or.inr (Or.inr (Or.inl ⟨rfl, rfl⟩)))⟩)
  · replace c5 := b2i_0.mp c5
    refine s_iconst (v := -1) dX11_stance_8 (by decide) ?_
    exact e_iret dX11_stance_9 rfl (by rw [if_neg c5, if_neg c5]; exact ⟨rfl, _, rfl, FX.rf X 0, hR⟩)

set_option maxRecDepth 100000 in
set_option maxHeartbeats 800000 in
theorem x_score (d : Nat) (X : XZ) (M : MZ) (D : HP) (hR : SR X D 0 M) (a b : Int32) : Con (d + 1) qX11_score 0 0 [.ref 0, .int a, .int b] (xh X M D) (PI fun y h => y = (sp_score M a b).1 ∧ ∃ X2, h = xh X2 M D ∧ FX X X2 0 ∧ SR X2 D 0 (sp_score M a b).2) := by
  refine Con.of (by decide +kernel) (Nat.le_of_ble_eq_true rfl) ?_
  show Sem (d + 1) qX11_score 0 0 0 [(0, .ref 0), (1, .int a), (2, .int b)] [] (xh X M D) _
  refine s_iload_n (j := 1) dX11_score_0 rfl ?_
  refine s_iconst (v := 5) dX11_score_1 (by decide) ?_
  refine s_S2i cs_X11_67 rfl dX11_score_2 (Nat.le_of_ble_eq_true rfl) (x_wC _ _ _ _ (4) (by decide)) (fun y2 h2 q2 => ?_)
  obtain ⟨rfl, rfl⟩ := q2
  refine s_if_eq dX11_score_5 (tgt := 26) (by decide) (fun c5 => ?_) (fun c5 => ?_)
  · replace c5 := b2i_0.mp c5
    refine s_bipush (v := -2) dX11_score_26 (by decide) ?_
    exact e_iret dX11_score_28 rfl (by unfold sp_score; rw [if_neg c5]; exact ⟨rfl, _, rfl, FX.rf X 0, hR⟩)
  · replace c5 := b2i_n0.mp c5
    refine s_iload_n (j := 2) dX11_score_8 rfl ?_
    refine s_iconst (v := 5) dX11_score_9 (by decide) ?_
    refine s_S2i cs_X11_67 rfl dX11_score_10 (Nat.le_of_ble_eq_true rfl) (x_wC _ _ _ _ (4) (by decide)) (fun y10 h10 q10 => ?_)
    obtain ⟨rfl, rfl⟩ := q10
    refine s_if_eq dX11_score_13 (tgt := 26) (by decide) (fun c13 => ?_) (fun c13 => ?_)
    · replace c13 := b2i_0.mp c13
      refine s_bipush (v := -2) dX11_score_26 (by decide) ?_
      exact e_iret dX11_score_28 rfl (by unfold sp_score; rw [if_pos c5, if_neg c13]; exact ⟨rfl, _, rfl, FX.rf X 0, hR⟩)
    · replace c13 := b2i_n0.mp c13
      refine s_iload_n (j := 1) dX11_score_16 rfl ?_
      refine s_iconst (v := 4) dX11_score_17 (by decide) ?_
      refine s_icmp_ne dX11_score_18 (tgt := 29) (by decide) (fun c18 => ?_) (fun c18 => ?_)
      · refine s_aload_nr (j := 0) dX11_score_29 rfl ?_
        refine gX_X11_12 dX11_score_30 rfl ?_
        refine s_iload_n (j := 1) dX11_score_33 rfl ?_
        refine pX_X11_148 (w := 0) (by decide) dX11_score_34 rfl ?_
        refine s_aload_nr (j := 0) dX11_score_37 rfl ?_
        refine gX_X11_12 dX11_score_38 rfl ?_
        refine s_iload_n (j := 2) dX11_score_41 rfl ?_
        refine pX_X11_151 (w := 0) (by decide) dX11_score_42 rfl ?_
        refine s_iconst (v := 1) dX11_score_45 (by decide) ?_
        exact e_iret dX11_score_46 rfl (by unfold sp_score; rw [if_pos c5, if_pos c13, if_neg (fun z => by have := sum8 c5 c13 z; first | exact c18 this.1 | exact c23 this.2)]; exact ⟨rfl, _, rfl, ((FX.rf X 0).p1 (by decide)).p1 (by decide), (hR.p1 (Or.inl ⟨rfl, rfl⟩)).p1 (Or.inr (Or.inl ⟨rfl, rfl⟩))⟩)
      · refine s_iload_n (j := 2) dX11_score_21 rfl ?_
        refine s_iconst (v := 4) dX11_score_22 (by decide) ?_
        refine s_icmp_ne dX11_score_23 (tgt := 29) (by decide) (fun c23 => ?_) (fun c23 => ?_)
        · refine s_aload_nr (j := 0) dX11_score_29 rfl ?_
          refine gX_X11_12 dX11_score_30 rfl ?_
          refine s_iload_n (j := 1) dX11_score_33 rfl ?_
          refine pX_X11_148 (w := 0) (by decide) dX11_score_34 rfl ?_
          refine s_aload_nr (j := 0) dX11_score_37 rfl ?_
          refine gX_X11_12 dX11_score_38 rfl ?_
          refine s_iload_n (j := 2) dX11_score_41 rfl ?_
          refine pX_X11_151 (w := 0) (by decide) dX11_score_42 rfl ?_
          refine s_iconst (v := 1) dX11_score_45 (by decide) ?_
          exact e_iret dX11_score_46 rfl (by unfold sp_score; rw [if_pos c5, if_pos c13, if_neg (fun z => by have := sum8 c5 c13 z; first | exact c18 this.1 | exact c23 this.2)]; exact ⟨rfl, _, rfl, ((FX.rf X 0).p1 (by decide)).p1 (by decide), (hR.p1 (Or.inl ⟨rfl, rfl⟩)).p1 (Or.inr (Or.inl ⟨rfl, rfl⟩))⟩)
        · refine s_bipush (v := -2) dX11_score_26 (by decide) ?_
          exact e_iret dX11_score_28 rfl (by unfold sp_score; rw [if_pos c5, if_pos c13, if_pos (show a + b = 8 from by rw [c18, c23]; rfl)]; exact ⟨rfl, _, rfl, FX.rf X 0, hR⟩)

set_option maxRecDepth 100000 in
set_option maxHeartbeats 800000 in
theorem x_rep_hard (d : Nat) (X : XZ) (M : MZ) (D : HP) {w : Nat} (hw : w < 3) (j n : Int32) (hj : vp_in j 4) : Con (d + 1) qX11_replaced 0 0 [.ref (1 + 11 * w + 2), .int j, .int n] (xh X M D) (PI fun y h => y = X.2.1 (9 * w + 0) (pz j) ∧ h = xh (xa X (9 * w + 0) (pz j) n) M D) := by
  refine Con.of (by decide +kernel) (Nat.le_of_ble_eq_true rfl) ?_
  show Sem (d + 1) qX11_replaced 0 0 0 [(0, .ref (1 + 11 * w + 2)), (1, .int j), (2, .int n)] [] (xh X M D) _
  refine s_iload_n (j := 1) dX11_replaced_0 rfl ?_
  refine s_aload_nr (j := 0) dX11_replaced_1 rfl ?_
  refine nX_X4_hard (w := w) hw dX11_replaced_2 ?_
  refine s_S2i cs_X11_67 rfl dX11_replaced_3 (Nat.le_of_ble_eq_true rfl) (x_within _ _ _ _) (fun y3 h3 q3 => ?_)
  obtain ⟨rfl, rfl⟩ := q3
  refine s_if_ne dX11_replaced_6 (tgt := 11) (by decide) (fun c6 => ?_) (fun c6 => ?_)
  · refine s_aload_nr (j := 0) dX11_replaced_11 rfl ?_
    refine s_iload_n (j := 1) dX11_replaced_12 rfl ?_
    refine lX_X4_hard (w := w) hw dX11_replaced_13 (by exact hj) ?_
    refine s_istore_n dX11_replaced_14 (by decide) rfl ?_
    refine s_aload_nr (j := 1) dX11_replaced_15 rfl ?_
    refine s_iload_n (j := 2) dX11_replaced_16 rfl ?_
    refine s_iload_n (j := 3) dX11_replaced_17 rfl ?_
    refine sX_X4_hard (w := w) hw dX11_replaced_18 (by exact hj) ?_
    refine s_iload_n (j := 0) dX11_replaced_19 rfl ?_
    exact e_iret dX11_replaced_20 rfl (by exact ⟨rfl, rfl⟩)
  · exact absurd (b2i_t (vp_rng hj (by decide))) (fun z => absurd (z.symm.trans c6) (by decide))

set_option maxRecDepth 100000 in
set_option maxHeartbeats 800000 in
theorem x_rep_soft (d : Nat) (X : XZ) (M : MZ) (D : HP) {w : Nat} (hw : w < 3) (j n : Int32) (hj : vp_in j 4) : Con (d + 1) qX11_replaced 0 0 [.ref (1 + 11 * w + 3), .int j, .int n] (xh X M D) (PI fun y h => y = X.2.1 (9 * w + 1) (pz j) ∧ h = xh (xa X (9 * w + 1) (pz j) n) M D) := by
  refine Con.of (by decide +kernel) (Nat.le_of_ble_eq_true rfl) ?_
  show Sem (d + 1) qX11_replaced 0 0 0 [(0, .ref (1 + 11 * w + 3)), (1, .int j), (2, .int n)] [] (xh X M D) _
  refine s_iload_n (j := 1) dX11_replaced_0 rfl ?_
  refine s_aload_nr (j := 0) dX11_replaced_1 rfl ?_
  refine nX_X4_soft (w := w) hw dX11_replaced_2 ?_
  refine s_S2i cs_X11_67 rfl dX11_replaced_3 (Nat.le_of_ble_eq_true rfl) (x_within _ _ _ _) (fun y3 h3 q3 => ?_)
  obtain ⟨rfl, rfl⟩ := q3
  refine s_if_ne dX11_replaced_6 (tgt := 11) (by decide) (fun c6 => ?_) (fun c6 => ?_)
  · refine s_aload_nr (j := 0) dX11_replaced_11 rfl ?_
    refine s_iload_n (j := 1) dX11_replaced_12 rfl ?_
    refine lX_X4_soft (w := w) hw dX11_replaced_13 (by exact hj) ?_
    refine s_istore_n dX11_replaced_14 (by decide) rfl ?_
    refine s_aload_nr (j := 1) dX11_replaced_15 rfl ?_
    refine s_iload_n (j := 2) dX11_replaced_16 rfl ?_
    refine s_iload_n (j := 3) dX11_replaced_17 rfl ?_
    refine sX_X4_soft (w := w) hw dX11_replaced_18 (by exact hj) ?_
    refine s_iload_n (j := 0) dX11_replaced_19 rfl ?_
    exact e_iret dX11_replaced_20 rfl (by exact ⟨rfl, rfl⟩)
  · exact absurd (b2i_t (vp_rng hj (by decide))) (fun z => absurd (z.symm.trans c6) (by decide))

set_option maxRecDepth 100000 in
set_option maxHeartbeats 800000 in
theorem x_rep_served (d : Nat) (X : XZ) (M : MZ) (D : HP) {w : Nat} (hw : w < 3) (j n : Int32) (hj : vp_in j 4) : Con (d + 1) qX11_replaced 0 0 [.ref (1 + 11 * w + 4), .int j, .int n] (xh X M D) (PI fun y h => y = X.2.1 (9 * w + 2) (pz j) ∧ h = xh (xa X (9 * w + 2) (pz j) n) M D) := by
  refine Con.of (by decide +kernel) (Nat.le_of_ble_eq_true rfl) ?_
  show Sem (d + 1) qX11_replaced 0 0 0 [(0, .ref (1 + 11 * w + 4)), (1, .int j), (2, .int n)] [] (xh X M D) _
  refine s_iload_n (j := 1) dX11_replaced_0 rfl ?_
  refine s_aload_nr (j := 0) dX11_replaced_1 rfl ?_
  refine nX_X4_served (w := w) hw dX11_replaced_2 ?_
  refine s_S2i cs_X11_67 rfl dX11_replaced_3 (Nat.le_of_ble_eq_true rfl) (x_within _ _ _ _) (fun y3 h3 q3 => ?_)
  obtain ⟨rfl, rfl⟩ := q3
  refine s_if_ne dX11_replaced_6 (tgt := 11) (by decide) (fun c6 => ?_) (fun c6 => ?_)
  · refine s_aload_nr (j := 0) dX11_replaced_11 rfl ?_
    refine s_iload_n (j := 1) dX11_replaced_12 rfl ?_
    refine lX_X4_served (w := w) hw dX11_replaced_13 (by exact hj) ?_
    refine s_istore_n dX11_replaced_14 (by decide) rfl ?_
    refine s_aload_nr (j := 1) dX11_replaced_15 rfl ?_
    refine s_iload_n (j := 2) dX11_replaced_16 rfl ?_
    refine s_iload_n (j := 3) dX11_replaced_17 rfl ?_
    refine sX_X4_served (w := w) hw dX11_replaced_18 (by exact hj) ?_
    refine s_iload_n (j := 0) dX11_replaced_19 rfl ?_
    exact e_iret dX11_replaced_20 rfl (by exact ⟨rfl, rfl⟩)
  · exact absurd (b2i_t (vp_rng hj (by decide))) (fun z => absurd (z.symm.trans c6) (by decide))

set_option maxRecDepth 100000 in
set_option maxHeartbeats 800000 in
theorem x_rep_rows (d : Nat) (X : XZ) (M : MZ) (D : HP) {w : Nat} (hw : w < 3) (j n : Int32) (hj : vp_in j 16) : Con (d + 1) qX11_replaced 0 0 [.ref (1 + 11 * w + 5), .int j, .int n] (xh X M D) (PI fun y h => y = X.2.1 (9 * w + 3) (pz j) ∧ h = xh (xa X (9 * w + 3) (pz j) n) M D) := by
  refine Con.of (by decide +kernel) (Nat.le_of_ble_eq_true rfl) ?_
  show Sem (d + 1) qX11_replaced 0 0 0 [(0, .ref (1 + 11 * w + 5)), (1, .int j), (2, .int n)] [] (xh X M D) _
  refine s_iload_n (j := 1) dX11_replaced_0 rfl ?_
  refine s_aload_nr (j := 0) dX11_replaced_1 rfl ?_
  refine nX_X4_rows (w := w) hw dX11_replaced_2 ?_
  refine s_S2i cs_X11_67 rfl dX11_replaced_3 (Nat.le_of_ble_eq_true rfl) (x_within _ _ _ _) (fun y3 h3 q3 => ?_)
  obtain ⟨rfl, rfl⟩ := q3
  refine s_if_ne dX11_replaced_6 (tgt := 11) (by decide) (fun c6 => ?_) (fun c6 => ?_)
  · refine s_aload_nr (j := 0) dX11_replaced_11 rfl ?_
    refine s_iload_n (j := 1) dX11_replaced_12 rfl ?_
    refine lX_X4_rows (w := w) hw dX11_replaced_13 (by exact hj) ?_
    refine s_istore_n dX11_replaced_14 (by decide) rfl ?_
    refine s_aload_nr (j := 1) dX11_replaced_15 rfl ?_
    refine s_iload_n (j := 2) dX11_replaced_16 rfl ?_
    refine s_iload_n (j := 3) dX11_replaced_17 rfl ?_
    refine sX_X4_rows (w := w) hw dX11_replaced_18 (by exact hj) ?_
    refine s_iload_n (j := 0) dX11_replaced_19 rfl ?_
    exact e_iret dX11_replaced_20 rfl (by exact ⟨rfl, rfl⟩)
  · exact absurd (b2i_t (vp_rng hj (by decide))) (fun z => absurd (z.symm.trans c6) (by decide))

set_option maxRecDepth 100000 in
set_option maxHeartbeats 800000 in
theorem x_set (d : Nat) (X : XZ) (M : MZ) (D : HP) (hR : SR X D 0 M) (hK : KI M) (p w n : Int32) : Con (d + 2) qX11_set 0 0 [.ref 0, .int p, .int w, .int n] (xh X M D) (PI fun y h => y = (sp_set M p w n).1 ∧ ∃ X2, h = xh X2 M D ∧ FX X X2 0 ∧ SR X2 D 0 (sp_set M p w n).2) := by
  refine Con.of (by decide +kernel) (Nat.le_of_ble_eq_true rfl) ?_
  show Sem (d + 2) qX11_set 0 0 0 [(0, .ref 0), (1, .int p), (2, .int w), (3, .int n)] [] (xh X M D) _
  refine s_aload_nr (j := 0) dX11_set_0 rfl ?_
  refine s_iload_n (j := 1) dX11_set_1 rfl ?_
  refine s_V1r cv_X11_83 rfl dX11_set_2 xg_X11 rfl (Nat.le_of_ble_eq_true rfl) (x_serverAt _ _ M D hR hK.1.1 _) (fun y2 h2 q2 => ?_)
  rcases q2 with ⟨⟨hp, n, rfl, hs⟩ | ⟨hp, rfl⟩, rfl⟩
  · skip
    refine s_astorer dX11_set_5 (by decide) rfl ?_
    refine s_aloadr (j := 0) dX11_set_7 rfl ?_
    refine s_ifnullr dX11_set_9 ?_
    refine s_iload_n (j := 3) dX11_set_12 rfl ?_
    refine s_iconst (v := 3) dX11_set_13 (by decide) ?_
    refine s_S2i cs_X11_67 rfl dX11_set_14 (Nat.le_of_ble_eq_true rfl) (x_wC _ _ _ _ (2) (by decide)) (fun y14 h14 q14 => ?_)
    obtain ⟨rfl, rfl⟩ := q14
    refine s_if_ne dX11_set_17 (tgt := 22) (by decide) (fun c17 => ?_) (fun c17 => ?_)
    · replace c17 := b2i_n0.mp c17
      have hp4 := in4_of hK.1.1 hp
      refine s_iload_n (j := 4) dX11_set_22 rfl ?_
      refine s_iload_n (j := 3) dX11_set_23 rfl ?_
      refine s_iconst (v := 2) dX11_set_24 (by decide) ?_
      refine s_icmp_ne dX11_set_25 (tgt := 34) (by decide) (fun c25 => ?_) (fun c25 => ?_)
      · refine s_bipush (v := 10) dX11_set_34 (by decide) ?_
        refine s_S2i cs_X11_67 rfl dX11_set_36 (Nat.le_of_ble_eq_true rfl) (x_wC _ _ _ _ 9 (by decide)) (fun y36 h36 q36 => ?_)
        obtain ⟨rfl, rfl⟩ := q36
        refine s_if_ne dX11_set_39 (tgt := 45) (by decide) (fun c39 => ?_) (fun c39 => ?_)
        · replace c39 := b2i_n0.mp c39
          refine s_iload_n (j := 3) dX11_set_45 rfl ?_
          refine s_if_ne dX11_set_46 (tgt := 59) (by decide) (fun c46 => ?_) (fun c46 => ?_)
          · refine s_iload_n (j := 3) dX11_set_59 rfl ?_
            refine s_iconst (v := 1) dX11_set_60 (by decide) ?_
            refine s_icmp_ne dX11_set_61 (tgt := 74) (by decide) (fun c61 => ?_) (fun c61 => ?_)
            · exact absurd (w012 c17) (fun z => z.elim c46 (fun z => z.elim c61 c25))
            · refine s_aload_nr (j := 1) dX11_set_64 rfl ?_
              refine gX_X11_12 dX11_set_65 rfl ?_
              refine gX_X11_108 (w := 0) (by decide) dX11_set_68 rfl ?_
              refine s_goto dX11_set_71 (tgt := 81) (by decide) ?_
              refine s_astorer dX11_set_81 (by decide) rfl ?_
              refine s_aloadr (j := 0) dX11_set_83 rfl ?_
              refine s_aloadr (j := 1) dX11_set_85 rfl ?_
              refine gS_X11_105 hs dX11_set_87 rfl ?_
              refine s_iload_n (j := 5) dX11_set_90 rfl ?_
              refine s_S3i cs_X11_121 rfl dX11_set_91 (Nat.le_of_ble_eq_true rfl) (x_rep_soft _ X M D (w := 0) (by decide) _ _ hp4) (fun y91 h91 q91 => ?_)
              obtain ⟨rfl, rfl⟩ := q91
              exact e_iret dX11_set_94 rfl (by unfold sp_set; rw [if_pos hp, if_pos c17, if_neg c25, if_pos c39, if_neg c46]; exact ⟨hR.2.1.2.1 _ (pz_lt hp4), _, rfl, (FX.rf X 0).pa (by decide), hR.pa (Or.inr (Or.inl ⟨rfl, rfl⟩))⟩)
          · refine s_aload_nr (j := 1) dX11_set_49 rfl ?_
            refine gX_X11_12 dX11_set_50 rfl ?_
            refine gX_X11_102 (w := 0) (by decide) dX11_set_53 rfl ?_
            refine s_goto dX11_set_56 (tgt := 81) (by decide) ?_
            refine s_astorer dX11_set_81 (by decide) rfl ?_
            refine s_aloadr (j := 0) dX11_set_83 rfl ?_
            refine s_aloadr (j := 1) dX11_set_85 rfl ?_
            refine gS_X11_105 hs dX11_set_87 rfl ?_
            refine s_iload_n (j := 5) dX11_set_90 rfl ?_
            refine s_S3i cs_X11_121 rfl dX11_set_91 (Nat.le_of_ble_eq_true rfl) (x_rep_hard _ X M D (w := 0) (by decide) _ _ hp4) (fun y91 h91 q91 => ?_)
            obtain ⟨rfl, rfl⟩ := q91
            exact e_iret dX11_set_94 rfl (by unfold sp_set; rw [if_pos hp, if_pos c17, if_neg c25, if_pos c39, if_pos c46]; exact ⟨hR.2.1.1 _ (pz_lt hp4), _, rfl, (FX.rf X 0).pa (by decide), hR.pa (Or.inl ⟨rfl, rfl⟩)⟩)
        · replace c39 := b2i_0.mp c39
          refine s_bipush (v := -2) dX11_set_42 (by decide) ?_
          exact e_iret dX11_set_44 rfl (by unfold sp_set; rw [if_pos hp, if_pos c17, if_neg c25, if_neg c39]; exact ⟨rfl, _, rfl, FX.rf X 0, hR⟩)
      · refine s_sipush (v := 10000) dX11_set_28 (by decide) ?_
        refine s_goto dX11_set_31 (tgt := 36) (by decide) ?_
        refine s_S2i cs_X11_67 rfl dX11_set_36 (Nat.le_of_ble_eq_true rfl) (x_wC _ _ _ _ 9999 (by decide)) (fun y36 h36 q36 => ?_)
        obtain ⟨rfl, rfl⟩ := q36
        refine s_if_ne dX11_set_39 (tgt := 45) (by decide) (fun c39 => ?_) (fun c39 => ?_)
        · replace c39 := b2i_n0.mp c39
          refine s_iload_n (j := 3) dX11_set_45 rfl ?_
          refine s_if_ne dX11_set_46 (tgt := 59) (by decide) (fun c46 => ?_) (fun c46 => ?_)
          · refine s_iload_n (j := 3) dX11_set_59 rfl ?_
            refine s_iconst (v := 1) dX11_set_60 (by decide) ?_
            refine s_icmp_ne dX11_set_61 (tgt := 74) (by decide) (fun c61 => ?_) (fun c61 => ?_)
            · refine s_aload_nr (j := 1) dX11_set_74 rfl ?_
              refine gX_X11_12 dX11_set_75 rfl ?_
              refine gX_X11_111 (w := 0) (by decide) dX11_set_78 rfl ?_
              refine s_astorer dX11_set_81 (by decide) rfl ?_
              refine s_aloadr (j := 0) dX11_set_83 rfl ?_
              refine s_aloadr (j := 1) dX11_set_85 rfl ?_
              refine gS_X11_105 hs dX11_set_87 rfl ?_
              refine s_iload_n (j := 5) dX11_set_90 rfl ?_
              refine s_S3i cs_X11_121 rfl dX11_set_91 (Nat.le_of_ble_eq_true rfl) (x_rep_served _ X M D (w := 0) (by decide) _ _ hp4) (fun y91 h91 q91 => ?_)
              obtain ⟨rfl, rfl⟩ := q91
              exact e_iret dX11_set_94 rfl (by unfold sp_set; rw [if_pos hp, if_pos c17, if_pos c25, if_pos c39]; exact ⟨hR.2.1.2.2.1 _ (pz_lt hp4), _, rfl, (FX.rf X 0).pa (by decide), hR.pa (Or.inr (Or.inr (Or.inl ⟨rfl, rfl⟩)))⟩)
            · exact absurd (c25.symm.trans c61) (by decide)
          · exact absurd (c25.symm.trans c46) (by decide)
        · replace c39 := b2i_0.mp c39
          refine s_bipush (v := -2) dX11_set_42 (by decide) ?_
          exact e_iret dX11_set_44 rfl (by unfold sp_set; rw [if_pos hp, if_pos c17, if_pos c25, if_neg c39]; exact ⟨rfl, _, rfl, FX.rf X 0, hR⟩)
    · replace c17 := b2i_0.mp c17
      refine s_iconst (v := -1) dX11_set_20 (by decide) ?_
      exact e_iret dX11_set_21 rfl (by unfold sp_set; rw [if_pos hp, if_neg c17]; exact ⟨rfl, _, rfl, FX.rf X 0, hR⟩)
  · skip
    refine s_astore0 dX11_set_5 (by decide) rfl ?_
    refine s_aload0 (j := 0) dX11_set_7 rfl ?_
    refine s_ifnull0 dX11_set_9 (tgt := 20) (by decide) ?_
    refine s_iconst (v := -1) dX11_set_20 (by decide) ?_
    exact e_iret dX11_set_21 rfl (by unfold sp_set; rw [if_neg hp]; exact ⟨rfl, _, rfl, FX.rf X 0, hR⟩)

set_option maxRecDepth 100000 in
set_option maxHeartbeats 800000 in
theorem x_row (d : Nat) (X : XZ) (M : MZ) (D : HP) (hR : SR X D 0 M) (hK : KI M) (p w n : Int32) : Con (d + 2) qX11_row 0 0 [.ref 0, .int p, .int w, .int n] (xh X M D) (PI fun y h => y = (sp_row M p w n).1 ∧ ∃ X2, h = xh X2 M D ∧ FX X X2 0 ∧ SR X2 D 0 (sp_row M p w n).2) := by
  refine Con.of (by decide +kernel) (Nat.le_of_ble_eq_true rfl) ?_
  show Sem (d + 2) qX11_row 0 0 0 [(0, .ref 0), (1, .int p), (2, .int w), (3, .int n)] [] (xh X M D) _
  refine s_aload_nr (j := 0) dX11_row_0 rfl ?_
  refine s_iload_n (j := 1) dX11_row_1 rfl ?_
  refine s_V1r cv_X11_83 rfl dX11_row_2 xg_X11 rfl (Nat.le_of_ble_eq_true rfl) (x_serverAt _ _ M D hR hK.1.1 _) (fun y2 h2 q2 => ?_)
  rcases q2 with ⟨⟨hp, n, rfl, hs⟩ | ⟨hp, rfl⟩, rfl⟩
  · skip
    refine s_astorer dX11_row_5 (by decide) rfl ?_
    refine s_aloadr (j := 0) dX11_row_7 rfl ?_
    refine s_ifnullr dX11_row_9 ?_
    refine s_iload_n (j := 3) dX11_row_12 rfl ?_
    refine s_iconst (v := 4) dX11_row_13 (by decide) ?_
    refine s_S2i cs_X11_67 rfl dX11_row_14 (Nat.le_of_ble_eq_true rfl) (x_wC _ _ _ _ (3) (by decide)) (fun y14 h14 q14 => ?_)
    obtain ⟨rfl, rfl⟩ := q14
    refine s_if_ne dX11_row_17 (tgt := 22) (by decide) (fun c17 => ?_) (fun c17 => ?_)
    · replace c17 := b2i_n0.mp c17
      have hp4 := in4_of hK.1.1 hp
      refine s_iload_n (j := 4) dX11_row_22 rfl ?_
      refine s_bipush (v := 10) dX11_row_23 (by decide) ?_
      refine s_S2i cs_X11_67 rfl dX11_row_25 (Nat.le_of_ble_eq_true rfl) (x_wC _ _ _ _ (9) (by decide)) (fun y25 h25 q25 => ?_)
      obtain ⟨rfl, rfl⟩ := q25
      refine s_if_ne dX11_row_28 (tgt := 34) (by decide) (fun c28 => ?_) (fun c28 => ?_)
      · replace c28 := b2i_n0.mp c28
        refine s_aloadr (j := 0) dX11_row_34 rfl ?_
        refine iS_X11_125 hs dX11_row_36 rfl ?_
        refine s_if_ne dX11_row_39 (tgt := 45) (by decide) (fun c39 => ?_) (fun c39 => ?_)
        · replace c39 := b2i_n0.mp c39
          refine s_aload_nr (j := 1) dX11_row_45 rfl ?_
          refine gX_X11_12 dX11_row_46 rfl ?_
          refine gX_X11_127 (w := 0) (by decide) dX11_row_49 rfl ?_
          refine s_aloadr (j := 0) dX11_row_52 rfl ?_
          refine gS_X11_105 hs dX11_row_54 rfl ?_
          refine s_iconst (v := 4) dX11_row_57 (by decide) ?_
          refine s_imul dX11_row_58 ?_
          refine s_iload_n (j := 3) dX11_row_59 rfl ?_
          refine s_iadd dX11_row_60 ?_
          refine s_iload_n (j := 4) dX11_row_61 rfl ?_
          rw [Int32.mul_comm]
          have hr4 : vp_in (4 * p + w) 16 := ix_in (n := 4) (m := 4) (c := 4) hp4 (rng_in c17 (by decide)) (by decide) (by decide) (by decide)
          refine s_S3i cs_X11_121 rfl dX11_row_62 (Nat.le_of_ble_eq_true rfl) (x_rep_rows _ X M D (w := 0) (by decide) _ _ hr4) (fun y62 h62 q62 => ?_)
          obtain ⟨rfl, rfl⟩ := q62
          exact e_iret dX11_row_65 rfl (by unfold sp_row; (first | rw [if_pos hp] | rw [if_neg hp] | skip); (first | rw [if_pos c17] | rw [if_neg c17] | skip); (first | rw [if_pos c28] | rw [if_neg c28] | skip); (first | rw [if_pos c39] | rw [if_neg c39] | skip); exact ⟨hR.2.1.2.2.2.1 _ (pz_lt hr4), _, rfl, (FX.rf X 0).pa (by decide), hR.pa (Or.inr (Or.inr (Or.inr (Or.inl ⟨rfl, rfl⟩))))⟩)
        · replace c39 := b2i_0.mp c39
          refine s_bipush (v := -3) dX11_row_42 (by decide) ?_
          exact e_iret dX11_row_44 rfl (by unfold sp_row; (first | rw [if_pos hp] | rw [if_neg hp] | skip); (first | rw [if_pos c17] | rw [if_neg c17] | skip); (first | rw [if_pos c28] | rw [if_neg c28] | skip); (first | rw [if_pos c39] | rw [if_neg c39] | skip); exact ⟨rfl, _, rfl, FX.rf X 0, hR⟩)
      · replace c28 := b2i_0.mp c28
        refine s_bipush (v := -2) dX11_row_31 (by decide) ?_
        exact e_iret dX11_row_33 rfl (by unfold sp_row; (first | rw [if_pos hp] | rw [if_neg hp] | skip); (first | rw [if_pos c17] | rw [if_neg c17] | skip); (first | rw [if_pos c28] | rw [if_neg c28] | skip); exact ⟨rfl, _, rfl, FX.rf X 0, hR⟩)
    · replace c17 := b2i_0.mp c17
      refine s_iconst (v := -1) dX11_row_20 (by decide) ?_
      exact e_iret dX11_row_21 rfl (by unfold sp_row; (first | rw [if_pos hp] | rw [if_neg hp] | skip); (first | rw [if_pos c17] | rw [if_neg c17] | skip); exact ⟨rfl, _, rfl, FX.rf X 0, hR⟩)
  · skip
    refine s_astore0 dX11_row_5 (by decide) rfl ?_
    refine s_aload0 (j := 0) dX11_row_7 rfl ?_
    refine s_ifnull0 dX11_row_9 (tgt := 20) (by decide) ?_
    refine s_iconst (v := -1) dX11_row_20 (by decide) ?_
    exact e_iret dX11_row_21 rfl (by unfold sp_row; (first | rw [if_pos hp] | rw [if_neg hp] | skip); exact ⟨rfl, _, rfl, FX.rf X 0, hR⟩)

set_option maxRecDepth 100000 in
set_option maxHeartbeats 800000 in
theorem x_isOne (d : Nat) (X : XZ) (M : MZ) (D : HP) {n : Nat} {k i v : Int32} (hs : SV D n k i v) (t : Int32) : Con d qX11_isOneOf 0 0 [.ref n, .int t] (xh X M D) (XI (b2i (t = 0 ∨ (1 ≤ t ∧ t ≤ 6) ∧ (k = t ∨ (t = 1 ∧ k = 4) ∨ (t = 2 ∧ k = 5) ∨ (t = 3 ∧ k = 6)))) (xh X M D)) := by
  refine Con.of (by decide +kernel) (Nat.le_of_ble_eq_true rfl) ?_
  show Sem d qX11_isOneOf 0 0 0 [(0, .ref n), (1, .int t)] [] (xh X M D) _
  refine s_iload_n (j := 1) dX11_isOneOf_0 rfl ?_
  refine s_topi (fun x1 ex1 => ?_)
  by_cases k1_0 : x1 = 0
  · refine s_tswIn dX11_isOneOf_1 (tgt := 44) (by rw [k1_0]; decide) (by rw [k1_0]; decide) (off := 43) (by rw [k1_0]; decide) (by decide) ?_
    replace ex1 := ex1.symm.trans k1_0
    clear k1_0
    refine s_iconst (v := 1) dX11_isOneOf_44 (by decide) ?_
    exact e_zret dX11_isOneOf_45 rfl (by first | rfl | exact b2i_z | decide) (by exact ⟨(b2i_t (Or.inl ex1)).symm, rfl⟩)
  by_cases k1_1 : x1 = 1
  · refine s_tswIn dX11_isOneOf_1 (tgt := 46) (by rw [k1_1]; decide) (by rw [k1_1]; decide) (off := 45) (by rw [k1_1]; decide) (by decide) ?_
    replace ex1 := ex1.symm.trans k1_1
    clear k1_1 k1_0
    refine s_aload_nr (j := 0) dX11_isOneOf_46 rfl ?_
    refine iS_X11_301 hs dX11_isOneOf_47 rfl ?_
    exact e_zret dX11_isOneOf_50 rfl (by first | rfl | exact b2i_z | decide) (by exact ⟨b2i_c (by rw [ex1]; simp), rfl⟩)
  by_cases k1_2 : x1 = 2
  · refine s_tswIn dX11_isOneOf_1 (tgt := 51) (by rw [k1_2]; decide) (by rw [k1_2]; decide) (off := 50) (by rw [k1_2]; decide) (by decide) ?_
    replace ex1 := ex1.symm.trans k1_2
    clear k1_2 k1_1 k1_0
    refine s_aload_nr (j := 0) dX11_isOneOf_51 rfl ?_
    refine iS_X11_306 hs dX11_isOneOf_52 rfl ?_
    exact e_zret dX11_isOneOf_55 rfl (by first | rfl | exact b2i_z | decide) (by exact ⟨b2i_c (by rw [ex1]; simp), rfl⟩)
  by_cases k1_3 : x1 = 3
  · refine s_tswIn dX11_isOneOf_1 (tgt := 56) (by rw [k1_3]; decide) (by rw [k1_3]; decide) (off := 55) (by rw [k1_3]; decide) (by decide) ?_
    replace ex1 := ex1.symm.trans k1_3
    clear k1_3 k1_2 k1_1 k1_0
    refine s_aload_nr (j := 0) dX11_isOneOf_56 rfl ?_
    refine iS_X11_309 hs dX11_isOneOf_57 rfl ?_
    exact e_zret dX11_isOneOf_60 rfl (by first | rfl | exact b2i_z | decide) (by exact ⟨b2i_c (by rw [ex1]; simp), rfl⟩)
  by_cases k1_4 : x1 = 4
  · refine s_tswIn dX11_isOneOf_1 (tgt := 61) (by rw [k1_4]; decide) (by rw [k1_4]; decide) (off := 60) (by rw [k1_4]; decide) (by decide) ?_
    replace ex1 := ex1.symm.trans k1_4
    clear k1_4 k1_3 k1_2 k1_1 k1_0
    refine s_aload_nr (j := 0) dX11_isOneOf_61 rfl ?_
    refine iS_X11_312 hs dX11_isOneOf_62 rfl ?_
    exact e_zret dX11_isOneOf_65 rfl (by first | rfl | exact b2i_z | decide) (by exact ⟨b2i_c (by rw [ex1]; simp), rfl⟩)
  by_cases k1_5 : x1 = 5
  · refine s_tswIn dX11_isOneOf_1 (tgt := 66) (by rw [k1_5]; decide) (by rw [k1_5]; decide) (off := 65) (by rw [k1_5]; decide) (by decide) ?_
    replace ex1 := ex1.symm.trans k1_5
    clear k1_5 k1_4 k1_3 k1_2 k1_1 k1_0
    refine s_aload_nr (j := 0) dX11_isOneOf_66 rfl ?_
    refine iS_X11_315 hs dX11_isOneOf_67 rfl ?_
    exact e_zret dX11_isOneOf_70 rfl (by first | rfl | exact b2i_z | decide) (by exact ⟨b2i_c (by rw [ex1]; simp), rfl⟩)
  by_cases k1_6 : x1 = 6
  · refine s_tswIn dX11_isOneOf_1 (tgt := 71) (by rw [k1_6]; decide) (by rw [k1_6]; decide) (off := 70) (by rw [k1_6]; decide) (by decide) ?_
    replace ex1 := ex1.symm.trans k1_6
    clear k1_6 k1_5 k1_4 k1_3 k1_2 k1_1 k1_0
    refine s_aload_nr (j := 0) dX11_isOneOf_71 rfl ?_
    refine iS_X11_125 hs dX11_isOneOf_72 rfl ?_
    exact e_zret dX11_isOneOf_75 rfl (by first | rfl | exact b2i_z | decide) (by exact ⟨b2i_c (by rw [ex1]; simp), rfl⟩)
  refine s_tswOut dX11_isOneOf_1 (tgt := 76) (by have a0 := lv_neT (a := 0) k1_0 rfl; have a1 := lv_neT (a := 1) k1_1 rfl; have a2 := lv_neT (a := 2) k1_2 rfl; have a3 := lv_neT (a := 3) k1_3 rfl; have a4 := lv_neT (a := 4) k1_4 rfl; have a5 := lv_neT (a := 5) k1_5 rfl; have a6 := lv_neT (a := 6) k1_6 rfl; omega) (by decide) ?_
  replace k1_0 : ¬ _ = _ := fun z => k1_0 (ex1.trans z)
  replace k1_1 : ¬ _ = _ := fun z => k1_1 (ex1.trans z)
  replace k1_2 : ¬ _ = _ := fun z => k1_2 (ex1.trans z)
  replace k1_3 : ¬ _ = _ := fun z => k1_3 (ex1.trans z)
  replace k1_4 : ¬ _ = _ := fun z => k1_4 (ex1.trans z)
  replace k1_5 : ¬ _ = _ := fun z => k1_5 (ex1.trans z)
  replace k1_6 : ¬ _ = _ := fun z => k1_6 (ex1.trans z)
  clear ex1
  refine s_iconst (v := 0) dX11_isOneOf_76 (by decide) ?_
  exact e_zret dX11_isOneOf_77 rfl (by first | rfl | exact b2i_z | decide) (by exact ⟨(b2i_f (fun z => z.elim k1_0 (fun z => absurd (w16 z.1) (by rintro (h | h | h | h | h | h) <;> first | exact k1_1 h | exact k1_2 h | exact k1_3 h | exact k1_4 h | exact k1_5 h | exact k1_6 h)))).symm, rfl⟩)

set_option maxRecDepth 100000 in
set_option maxHeartbeats 800000 in
theorem x_taken (d : Nat) (X : XZ) (M : MZ) (D : HP) (hR : SR X D 0 M) (hK : KI M) (p t : Int32) : Con (d + 2) qX11_taken 0 0 [.ref 0, .int p, .int t] (xh X M D) (XI (sp_taken M p t) (xh X M D)) := by
  refine Con.of (by decide +kernel) (Nat.le_of_ble_eq_true rfl) ?_
  show Sem (d + 2) qX11_taken 0 0 0 [(0, .ref 0), (1, .int p), (2, .int t)] [] (xh X M D) _
  refine s_iload_n (j := 2) dX11_taken_0 rfl ?_
  refine s_bipush (v := 7) dX11_taken_1 (by decide) ?_
  refine s_S2i cs_X11_67 rfl dX11_taken_3 (Nat.le_of_ble_eq_true rfl) (x_wC _ _ _ _ (6) (by decide)) (fun y3 h3 q3 => ?_)
  obtain ⟨rfl, rfl⟩ := q3
  refine s_if_ne dX11_taken_6 (tgt := 12) (by decide) (fun c6 => ?_) (fun c6 => ?_)
  · replace c6 := b2i_n0.mp c6
    refine s_aload_nr (j := 0) dX11_taken_12 rfl ?_
    refine s_iload_n (j := 1) dX11_taken_13 rfl ?_
    refine s_V1r cv_X11_83 rfl dX11_taken_14 xg_X11 rfl (Nat.le_of_ble_eq_true rfl) (x_serverAt _ _ M D hR hK.1.1 _) (fun y14 h14 q14 => ?_)
    rcases q14 with ⟨⟨hp, n, rfl, hs⟩ | ⟨hp, rfl⟩, rfl⟩
    · skip
      refine s_astore_nr dX11_taken_17 (by decide) rfl ?_
      refine s_aload_nr (j := 0) dX11_taken_18 rfl ?_
      refine s_ifnonnullr dX11_taken_19 (tgt := 25) (by decide) ?_
      refine s_aload_nr (j := 0) dX11_taken_25 rfl ?_
      refine s_iload_n (j := 3) dX11_taken_26 rfl ?_
      refine s_S2i cs_X11_282 rfl dX11_taken_27 (Nat.le_of_ble_eq_true rfl) (x_isOne _ _ M D hs t) (fun y27 h27 q27 => ?_)
      obtain ⟨rfl, rfl⟩ := q27
      refine s_if_eq dX11_taken_30 (tgt := 40) (by decide) (fun c30 => ?_) (fun c30 => ?_)
      · replace c30 := b2i_0.mp c30
        refine s_bipush (v := -12) dX11_taken_40 (by decide) ?_
        exact e_iret dX11_taken_42 rfl (by unfold sp_taken; rw [if_pos c6, if_pos hp, if_neg (fun z => c30 ((tk_iff c6).mpr z))]; exact ⟨rfl, rfl⟩)
      · replace c30 := b2i_n0.mp c30
        refine s_aload_nr (j := 0) dX11_taken_33 rfl ?_
        refine gS_X11_94 hs dX11_taken_34 rfl ?_
        refine s_goto dX11_taken_37 (tgt := 42) (by decide) ?_
        exact e_iret dX11_taken_42 rfl (by unfold sp_taken; rw [if_pos c6, if_pos hp, if_pos ((tk_iff c6).mp c30)]; exact ⟨rfl, rfl⟩)
    · skip
      refine s_astore_n0 dX11_taken_17 (by decide) rfl ?_
      refine s_aload_n0 (j := 0) dX11_taken_18 rfl ?_
      refine s_ifnonnull0 dX11_taken_19 ?_
      refine s_bipush (v := -11) dX11_taken_22 (by decide) ?_
      exact e_iret dX11_taken_24 rfl (by unfold sp_taken; rw [if_pos c6, if_neg hp]; exact ⟨rfl, rfl⟩)
  · replace c6 := b2i_0.mp c6
    refine s_bipush (v := -2) dX11_taken_9 (by decide) ?_
    exact e_iret dX11_taken_11 rfl (by unfold sp_taken; rw [if_neg c6]; exact ⟨rfl, rfl⟩)

set_option maxRecDepth 100000 in
set_option maxHeartbeats 800000 in
theorem x_books (d : Nat) (X : XZ) (M : MZ) (D : HP) {w : Nat} (hw : w < 3) {K : MZ} (hR : SR X D w K) (p a b : Int32) (h13 : K.1 13 = nI (pz (K.1 13)) ∧ pz (K.1 13) ≤ 10) : Con (d + 1) qX4_books 0 0 [.ref (1 + 11 * w), .int p, .int a, .int b] (xh X M D) (PI fun y h => (K.1 13 = 10 ∧ y = 0 ∧ h = xh X M D) ∨ (¬ K.1 13 = 10 ∧ y = 1 ∧ ∃ X2, h = xh X2 M D ∧ FX X X2 w ∧ SR X2 D w (ms1 (msa (msa (msa K 20 (pz (K.1 13)) p) 21 (pz (K.1 13)) a) 22 (pz (K.1 13)) b) 13 (K.1 13 + 1)))) := by
  refine Con.of (by decide +kernel) (Nat.le_of_ble_eq_true rfl) ?_
  show Sem (d + 1) qX4_books 0 0 0 [(0, .ref (1 + 11 * w)), (1, .int p), (2, .int a), (3, .int b)] [] (xh X M D) _
  refine s_aload_nr (j := 0) dX4_books_0 rfl ?_
  refine gX_X4_77 (w := w) hw dX4_books_1 rfl ?_
  rw [hR.1.2.2.2.2.2]
  refine s_bipush (v := 10) dX4_books_4 (by decide) ?_
  refine s_S2i cs_X4_87 rfl dX4_books_6 (Nat.le_of_ble_eq_true rfl) (x_wC _ _ _ _ (9) (by decide)) (fun y6 h6 q6 => ?_)
  obtain ⟨rfl, rfl⟩ := q6
  refine s_if_ne dX4_books_9 (tgt := 14) (by decide) (fun c9 => ?_) (fun c9 => ?_)
  · have h9 : ¬ K.1 13 = 10 := fun z => absurd (b2i_n0.mp c9).2 (by rw [z]; decide)
    have hin : vp_in (K.1 13) 10 := by rw [h13.1]; exact vp_in_nI (by have : ¬ pz (K.1 13) = 10 := fun z => h9 (by rw [h13.1, z]; rfl); omega) (by decide)
    refine s_aload_nr (j := 0) dX4_books_14 rfl ?_
    refine gX_X4_37 (w := w) hw dX4_books_15 rfl ?_
    refine s_aload_nr (j := 0) dX4_books_18 rfl ?_
    refine gX_X4_77 (w := w) hw dX4_books_19 rfl ?_
    refine s_topi (fun z ez => ?_)
    obtain rfl : z = K.1 13 := ez.trans (hR.1.2.2.2.2.2)
    refine s_iload_n (j := 1) dX4_books_22 rfl ?_
    refine sX_X4_bookServer (w := w) hw dX4_books_23 (by exact hin) ?_
    refine s_aload_nr (j := 0) dX4_books_24 rfl ?_
    refine gX_X4_40 (w := w) hw dX4_books_25 rfl ?_
    refine s_aload_nr (j := 0) dX4_books_28 rfl ?_
    refine gX_X4_77 (w := w) hw dX4_books_29 rfl ?_
    refine s_topi (fun z ez => ?_)
    obtain rfl : z = K.1 13 := ez.trans (hR.1.2.2.2.2.2)
    refine s_iload_n (j := 2) dX4_books_32 rfl ?_
    refine sX_X4_bookD (w := w) hw dX4_books_33 (by exact hin) ?_
    refine s_aload_nr (j := 0) dX4_books_34 rfl ?_
    refine gX_X4_43 (w := w) hw dX4_books_35 rfl ?_
    refine s_aload_nr (j := 0) dX4_books_38 rfl ?_
    refine gX_X4_77 (w := w) hw dX4_books_39 rfl ?_
    refine s_topi (fun z ez => ?_)
    obtain rfl : z = K.1 13 := ez.trans (hR.1.2.2.2.2.2)
    refine s_iload_n (j := 3) dX4_books_42 rfl ?_
    refine sX_X4_bookE (w := w) hw dX4_books_43 (by exact hin) ?_
    refine s_aload_nr (j := 0) dX4_books_44 rfl ?_
    refine s_dup dX4_books_45 rfl ?_
    refine gX_X4_77 (w := w) hw dX4_books_46 rfl ?_
    refine s_topi (fun z ez => ?_)
    obtain rfl : z = K.1 13 := ez.trans (hR.1.2.2.2.2.2)
    refine s_iconst (v := 1) dX4_books_49 (by decide) ?_
    refine s_iadd dX4_books_50 ?_
    refine pX_X4_77 (w := w) hw dX4_books_51 rfl ?_
    refine s_iconst (v := 1) dX4_books_54 (by decide) ?_
    exact e_zret dX4_books_55 rfl (by first | rfl | exact b2i_z | decide) (by exact Or.inr ⟨h9, rfl, _, rfl, ((((FX.rf X w).pa (by omega)).pa (by omega)).pa (by omega)).p1 (by omega), (((hR.pa (Or.inr (Or.inr (Or.inr (Or.inr (Or.inl ⟨rfl, rfl⟩)))))).pa (Or.inr (Or.inr (Or.inr (Or.inr (Or.inr (Or.inl ⟨rfl, rfl⟩))))))).pa (Or.inr (Or.inr (Or.inr (Or.inr (Or.inr (Or.inr ⟨rfl, rfl⟩))))))).p1 (Or.inr (Or.inr (Or.inr (Or.inr ⟨rfl, rfl⟩))))⟩)
  · have h9 : K.1 13 = 10 := by
      have h8 : pz (K.1 13) = 10 := by
        have h7 : ¬ pz (K.1 13) ≤ 9 := fun z => b2i_0.mp c9 ⟨by rw [h13.1]; exact nI_pos' (by omega), by rw [h13.1]; exact nI_le (b := 9) z (by decide)⟩
        omega
      rw [h13.1, h8]; rfl
    refine s_iconst (v := 0) dX4_books_12 (by decide) ?_
    exact e_zret dX4_books_13 rfl (by first | rfl | exact b2i_z | decide) (by exact Or.inl ⟨h9, rfl, rfl⟩)

set_option maxRecDepth 100000 in
set_option maxHeartbeats 800000 in
theorem x_book (d : Nat) (X : XZ) (M : MZ) (D : HP) (hR : SR X D 0 M) (hK : KI M) (p a b : Int32) (h13 : M.1 13 = nI (pz (M.1 13)) ∧ pz (M.1 13) ≤ 10) : Con (d + 2) qX11_book 0 0 [.ref 0, .int p, .int a, .int b] (xh X M D) (PI fun y h => y = (sp_book M p a b).1 ∧ ∃ X2, h = xh X2 M D ∧ FX X X2 0 ∧ SR X2 D 0 (sp_book M p a b).2) := by
  refine Con.of (by decide +kernel) (Nat.le_of_ble_eq_true rfl) ?_
  show Sem (d + 2) qX11_book 0 0 0 [(0, .ref 0), (1, .int p), (2, .int a), (3, .int b)] [] (xh X M D) _
  refine s_iload_n (j := 1) dX11_book_0 rfl ?_
  refine s_iconst (v := -1) dX11_book_1 (by decide) ?_
  refine s_icmp_ne dX11_book_2 (tgt := 15) (by decide) (fun c2 => ?_) (fun c2 => ?_)
  · refine s_aload_nr (j := 0) dX11_book_15 rfl ?_
    refine s_iload_n (j := 1) dX11_book_16 rfl ?_
    refine s_V1r cv_X11_83 rfl dX11_book_17 xg_X11 rfl (Nat.le_of_ble_eq_true rfl) (x_serverAt _ _ M D hR hK.1.1 _) (fun y17 h17 q17 => ?_)
    rcases q17 with ⟨⟨hp, n, rfl, hs⟩ | ⟨hp, rfl⟩, rfl⟩
    · skip
      refine s_ifnonnullr dX11_book_20 (tgt := 25) (by decide) ?_
      refine s_iload_n (j := 2) dX11_book_25 rfl ?_
      refine s_bipush (v := 100) dX11_book_26 (by decide) ?_
      refine s_S2i cs_X11_67 rfl dX11_book_28 (Nat.le_of_ble_eq_true rfl) (x_wC _ _ _ _ (99) (by decide)) (fun y28 h28 q28 => ?_)
      obtain ⟨rfl, rfl⟩ := q28
      refine s_if_eq dX11_book_31 (tgt := 43) (by decide) (fun c31 => ?_) (fun c31 => ?_)
      · replace c31 := b2i_0.mp c31
        refine s_bipush (v := -2) dX11_book_43 (by decide) ?_
        exact e_iret dX11_book_45 rfl (by unfold sp_book; rw [if_neg c2, if_pos hp, if_neg (fun z => c31 z.1)]; exact ⟨rfl, _, rfl, FX.rf X 0, hR⟩)
      · replace c31 := b2i_n0.mp c31
        refine s_iload_n (j := 3) dX11_book_34 rfl ?_
        refine s_bipush (v := 100) dX11_book_35 (by decide) ?_
        refine s_S2i cs_X11_67 rfl dX11_book_37 (Nat.le_of_ble_eq_true rfl) (x_wC _ _ _ _ (99) (by decide)) (fun y37 h37 q37 => ?_)
        obtain ⟨rfl, rfl⟩ := q37
        refine s_if_ne dX11_book_40 (tgt := 46) (by decide) (fun c40 => ?_) (fun c40 => ?_)
        · replace c40 := b2i_n0.mp c40
          refine s_aload_nr (j := 0) dX11_book_46 rfl ?_
          refine gX_X11_12 dX11_book_47 rfl ?_
          refine s_iload_n (j := 1) dX11_book_50 rfl ?_
          refine s_iload_n (j := 2) dX11_book_51 rfl ?_
          refine s_iload_n (j := 3) dX11_book_52 rfl ?_
          refine s_V3i cv_X11_224 rfl dX11_book_53 (xg_X4 (w := 0) (by decide)) rfl (Nat.le_of_ble_eq_true rfl) (x_books _ X M D (w := 0) (by decide) hR p a b h13) (fun y53 h53 q53 => ?_)
          rcases q53 with ⟨h9, rfl, rfl⟩ | ⟨h9, rfl, X2, rfl, hf, hR2⟩
          · refine s_if_eq dX11_book_56 (tgt := 69) (by decide) (fun _ => ?_) (fun z => absurd rfl z)
            refine s_bipush (v := -4) dX11_book_69 (by decide) ?_
            exact e_iret dX11_book_71 rfl (by unfold sp_book; rw [if_neg c2, if_pos hp, if_pos ⟨c31, c40⟩, if_pos h9]; exact ⟨rfl, _, rfl, FX.rf X 0, hR⟩)
          · refine s_if_eq dX11_book_56 (tgt := 69) (by decide) (fun z => absurd z (by decide)) (fun _ => ?_)
            refine s_aload_nr (j := 0) dX11_book_59 rfl ?_
            refine gX_X11_12 dX11_book_60 rfl ?_
            refine gX_X11_221 (w := 0) (by decide) dX11_book_63 rfl ?_
            refine s_goto dX11_book_66 (tgt := 71) (by decide) ?_
            exact e_iret dX11_book_71 rfl (by unfold sp_book; rw [if_neg c2, if_pos hp, if_pos ⟨c31, c40⟩, if_neg h9]; exact ⟨hR2.1.2.2.2.2.2, _, rfl, hf, hR2⟩)
        · replace c40 := b2i_0.mp c40
          refine s_bipush (v := -2) dX11_book_43 (by decide) ?_
          exact e_iret dX11_book_45 rfl (by unfold sp_book; rw [if_neg c2, if_pos hp, if_neg (fun z => c40 z.2)]; exact ⟨rfl, _, rfl, FX.rf X 0, hR⟩)
    · skip
      refine s_ifnonnull0 dX11_book_20 ?_
      refine s_iconst (v := -1) dX11_book_23 (by decide) ?_
      exact e_iret dX11_book_24 rfl (by unfold sp_book; rw [if_neg c2, if_neg hp]; exact ⟨rfl, _, rfl, FX.rf X 0, hR⟩)
  · refine s_aload_nr (j := 0) dX11_book_5 rfl ?_
    refine gX_X11_12 dX11_book_6 rfl ?_
    refine s_iconst (v := 0) dX11_book_9 (by decide) ?_
    refine pX_X11_221 (w := 0) (by decide) dX11_book_10 rfl ?_
    refine s_iconst (v := 0) dX11_book_13 (by decide) ?_
    exact e_iret dX11_book_14 rfl (by unfold sp_book; rw [if_pos c2]; exact ⟨rfl, _, rfl, (FX.rf X 0).p1 (by decide), hR.p1 (Or.inr (Or.inr (Or.inr (Or.inr ⟨rfl, rfl⟩))))⟩)
