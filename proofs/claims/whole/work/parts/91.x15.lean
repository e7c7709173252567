theorem l59 {L : Int32} (h : 0 ≤ L ∧ L ≤ 60) : L - 1 ≤ 59 := by
  have h1 : (L - 1).toInt = L.toInt - 1 := fb_subI (by have := h.1; have := h.2; simp only [Int32.le_iff_toInt_le] at *; simp at *; omega) (by have := h.1; have := h.2; simp only [Int32.le_iff_toInt_le] at *; simp at *; omega)
  have := h.2
  rw [Int32.le_iff_toInt_le] at this ⊢
  rw [h1]
  simp at this ⊢
  omega
theorem lg_lt {x : Int64} {y : Int64} : lg_cmp x y < 0 ↔ x < y := by
  unfold lg_cmp
  split
  · rename_i h
    exact ⟨fun z => absurd z (by decide), fun z => absurd h (Int64.lt_asymm z)⟩
  · split
    · rename_i h; subst h
      exact ⟨fun z => absurd z (by decide), fun z => absurd z Int64.lt_irrefl⟩
    · rename_i h1 h2
      exact ⟨fun _ => Int64.lt_of_le_of_ne (Int64.not_lt.mp h1) h2, fun _ => by decide⟩
theorem lg_ge {x : Int64} {y : Int64} : 0 ≤ lg_cmp x y ↔ ¬ x < y := by
  rw [← lg_lt]
  exact Int32.not_lt.symm
theorem s_neg {s : Int32} (h : -1 ≤ s ∧ s ≤ 4) : s = -1 ↔ s < 0 := by
  simp only [Int32.le_iff_toInt_le, Int32.lt_iff_toInt_lt, ← Int32.toInt_inj] at *
  simp at *
  omega
theorem sn_eq {s : Int32} {v : Int64} (h : ¬ s < 0) : (if s = 0 then v.toInt32.toInt8.toInt32.toInt64 else if s = 1 then v.toInt32.toInt16.toInt32.toInt64 else if s = 2 then v.toInt32.toInt64 else if s = 3 then v else if v = 0 then 0 else 1) = sp_narrow s v ∨ ¬ (s ≤ 4) := by
  by_cases h4 : s ≤ 4
  · left
    unfold sp_narrow
    by_cases e0 : s = 0
    · rw [if_pos e0, if_pos e0]
    · rw [if_neg e0, if_neg e0]
      by_cases e1 : s = 1
      · rw [if_pos e1, if_pos e1]
      · rw [if_neg e1, if_neg e1]
        by_cases e2 : s = 2
        · rw [if_pos e2, if_pos e2]
        · rw [if_neg e2, if_neg e2]
          by_cases e3 : s = 3
          · rw [if_pos e3, e3, if_neg (by decide)]
          · rw [if_neg e3]
            have e4 : s = 4 := by
              simp only [Int32.le_iff_toInt_le, Int32.lt_iff_toInt_lt, ← Int32.toInt_inj] at *
              simp at *
              omega
            rw [if_pos e4]
  · exact Or.inr h4

set_option maxRecDepth 100000 in
set_option maxHeartbeats 800000 in
theorem x_fill (d : Nat) (X : XZ) (M : MZ) (D : HP) {t : Nat} (ht : t < 6) (z : Int64) : Con d qJ7_fill_d0a16 0 0 [.ref (83 + 2 * t + 1), .long z] (xh X M D) (PV fun h => ∃ f, (∀ i, i < 60 → f i = z) ∧ h = xh (xrl X t f) M D) := by
  refine Con.of (by decide +kernel) (Nat.le_of_ble_eq_true rfl) ?_
  show Sem d qJ7_fill_d0a16 0 0 0 [(0, .ref (83 + 2 * t + 1)), (1, .long z)] [] (xh X M D) _
  refine s_iconst (v := 0) dJ7_fill_d0a16_0 (by decide) ?_
  refine s_istore_n dJ7_fill_d0a16_1 (by decide) rfl ?_
  refine s_aload_nr (j := 1) dJ7_fill_d0a16_2 rfl ?_
  refine nX_X6_items (t := t) ht dJ7_fill_d0a16_3 ?_
  refine s_istore dJ7_fill_d0a16_4 (by decide) rfl ?_
  have LP : ∀ (fu : Nat) (r k : Nat) (f : Nat → Int64), r < fu → k + r = 60 → (∀ i, i < k → f i = z) → Sem d qJ7_fill_d0a16 0 0 6 [(0, .ref (83 + 2 * t + 1)), (1, .long z), (3, .int (nI k)), (4, .int 60)] [] (xh (xrl X t f) M D) (PV fun h => ∃ f, (∀ i, i < 60 → f i = z) ∧ h = xh (xrl X t f) M D) := by
    intro fu
    induction fu with
    | zero => intro r k f hm; exact absurd hm (Nat.not_lt_zero _)
    | succ fu ih =>
      intro r k f hm g1 g2
      refine s_iload_n (j := 2) dJ7_fill_d0a16_6 rfl ?_
      refine s_iload (j := 3) dJ7_fill_d0a16_7 rfl ?_
      refine s_icmp_ge dJ7_fill_d0a16_9 (tgt := 22) (by decide) (fun c9 => ?_) (fun c9 => ?_)
      · obtain rfl : k = 60 := by have h9 : ¬ k < 60 := fun z => absurd (nI_lt (b := 60) z (by decide)) (Int32.not_lt.mpr c9); omega
        exact e_vret dJ7_fill_d0a16_22 rfl (by exact ⟨f, g2, rfl⟩)
      · have hk9 : k < 60 := Nat.not_le.mp fun z => c9 (nI_le (a := 60) z (by omega))
        obtain ⟨r, rfl⟩ : ∃ x, r = x + 1 := ⟨r - 1, by omega⟩
        refine s_aload_nr (j := 0) dJ7_fill_d0a16_12 rfl ?_
        refine s_iload_n (j := 2) dJ7_fill_d0a16_13 rfl ?_
        refine s_lload_n (j := 1) dJ7_fill_d0a16_14 rfl ?_
        refine sX_X6_items (t := t) ht dJ7_fill_d0a16_15 (by exact vp_in_nI (by omega) (by decide)) ?_
        refine s_iinc (j := 2) (v := _ + (1)) dJ7_fill_d0a16_16 rfl rfl (by decide) rfl ?_
        refine s_goto dJ7_fill_d0a16_19 (tgt := 6) (by decide) ?_
        refine s_locals [1, 2, 0, 3] rfl ?_
        rw [xl_xrl, pz5 k (by omega)]
        simp only [nI_1]
        exact ih r (k + 1) _ (by omega) (by omega) (fun i hi => by unfold vp_updL; by_cases e : i = k; (rw [if_pos e]); (rw [if_neg e]; exact g2 i (by omega)))
  refine s_locals [2, 3, 1, 0] rfl ?_
  refine s_heq (congrArg (fun z => xh z M D) (xrl_id X t).symm) ?_
  exact LP 61 60 0 _ (by decide) (by rfl) (fun i hi => absurd hi (Nat.not_lt_zero _))

set_option maxRecDepth 100000 in
set_option maxHeartbeats 800000 in
theorem x_become (d : Nat) (X : XZ) (M : MZ) (D : HP) {t : Nat} (ht : t < 6) (s m : Int32) (hm : 0 ≤ m ∧ m ≤ 60) : Con (d + 1) qX6_become 0 0 [.ref (83 + 2 * t), .int s, .int m] (xh X M D) (PV fun h => ∃ f, (∀ i, i < 60 → f i = 0) ∧ h = xh (xrl (x1 (x1 X (41 + 2 * t) s) (40 + 2 * t) m) t f) M D) := by
  refine Con.of (by decide +kernel) (Nat.le_of_ble_eq_true rfl) ?_
  show Sem (d + 1) qX6_become 0 0 0 [(0, .ref (83 + 2 * t)), (1, .int s), (2, .int m)] [] (xh X M D) _
  refine s_aload_nr (j := 0) dX6_become_0 rfl ?_
  refine s_iload_n (j := 1) dX6_become_1 rfl ?_
  refine pX_X6_15 (t := t) ht dX6_become_2 rfl ?_
  refine s_aload_nr (j := 0) dX6_become_5 rfl ?_
  refine s_iconst (v := 0) dX6_become_6 (by decide) ?_
  refine s_bipush (v := 60) dX6_become_7 (by decide) ?_
  refine s_iload_n (j := 2) dX6_become_9 rfl ?_
  refine s_mmin cs_X6_19 rfl dX6_become_10 (Nat.le_of_ble_eq_true rfl) ?_
  refine s_mmax cs_X6_25 rfl dX6_become_13 (Nat.le_of_ble_eq_true rfl) ?_
  rw [mm60 hm]
  refine pX_X6_28 (t := t) ht dX6_become_16 rfl ?_
  refine s_aload_nr (j := 0) dX6_become_19 rfl ?_
  refine gX_X6_9 (t := t) ht dX6_become_20 rfl ?_
  refine s_lconst (v := 0) dX6_become_23 (by decide) ?_
  refine s_S2v cs_X6_31 rfl dX6_become_24 (Nat.le_of_ble_eq_true rfl) (x_fill _ (x1 (x1 X (41 + 2 * t) s) (40 + 2 * t) m) M D ht 0) (fun h24 q24 => ?_)
  obtain ⟨f, hf, rfl⟩ := q24
  exact e_vret dX6_become_27 rfl (by exact ⟨f, hf, rfl⟩)

set_option maxRecDepth 100000 in
set_option maxHeartbeats 800000 in
theorem x_has (d : Nat) (X : XZ) (M : MZ) (D : HP) {t : Nat} (ht : t < 6) (z : Int64) : Con d qX6_has 0 0 [.ref (83 + 2 * t), .long z] (xh X M D) (XI (b2i (0 ≤ z ∧ z < (X.1 (40 + 2 * t)).toInt64)) (xh X M D)) := by
  refine Con.of (by decide +kernel) (Nat.le_of_ble_eq_true rfl) ?_
  show Sem d qX6_has 0 0 0 [(0, .ref (83 + 2 * t)), (1, .long z)] [] (xh X M D) _
  refine s_lload_n (j := 1) dX6_has_0 rfl ?_
  refine s_lconst (v := 0) dX6_has_1 (by decide) ?_
  refine s_lcmp dX6_has_2 ?_
  refine s_if_lt dX6_has_3 (tgt := 20) (by decide) (fun c3 => ?_) (fun c3 => ?_)
  · refine s_iconst (v := 0) dX6_has_20 (by decide) ?_
    exact e_zret dX6_has_21 rfl (by first | rfl | exact b2i_z | decide) (by exact ⟨(b2i_f (fun w => absurd (lg_lt.mp c3) (Int64.not_lt.mpr w.1))).symm, rfl⟩)
  · refine s_lload_n (j := 1) dX6_has_6 rfl ?_
    refine s_aload_nr (j := 0) dX6_has_7 rfl ?_
    refine gX_X6_28 (t := t) ht dX6_has_8 rfl ?_
    refine s_i2l dX6_has_11 ?_
    refine s_lcmp dX6_has_12 ?_
    refine s_if_ge dX6_has_13 (tgt := 20) (by decide) (fun c13 => ?_) (fun c13 => ?_)
    · refine s_iconst (v := 0) dX6_has_20 (by decide) ?_
      exact e_zret dX6_has_21 rfl (by first | rfl | exact b2i_z | decide) (by exact ⟨(b2i_f (fun w => lg_ge.mp c13 w.2)).symm, rfl⟩)
    · refine s_iconst (v := 1) dX6_has_16 (by decide) ?_
      refine s_goto dX6_has_17 (tgt := 21) (by decide) ?_
      exact e_zret dX6_has_21 rfl (by first | rfl | exact b2i_z | decide) (by exact ⟨(b2i_t ⟨Int64.not_lt.mp (lg_ge.mp (Int32.not_lt.mp c3)), lg_lt.mp (Int32.not_le.mp c13)⟩).symm, rfl⟩)

set_option maxRecDepth 100000 in
set_option maxHeartbeats 800000 in
theorem x_at (d : Nat) (X : XZ) (M : MZ) (D : HP) {t : Nat} (ht : t < 6) (hP : RP X M) (i : Int32) : Con (d + 1) qX6_at 0 0 [.ref (83 + 2 * t), .int i] (xh X M D) (PL fun y h => y = (if 0 ≤ i ∧ i ≤ M.2.1 37 t - 1 then M.2.2 0 (60 * t + pz i) else -9223372036854775808) ∧ h = xh X M D) := by
  refine Con.of (by decide +kernel) (Nat.le_of_ble_eq_true rfl) ?_
  show Sem (d + 1) qX6_at 0 0 0 [(0, .ref (83 + 2 * t)), (1, .int i)] [] (xh X M D) _
  refine s_aload_nr (j := 0) dX6_at_0 rfl ?_
  refine s_iload_n (j := 1) dX6_at_1 rfl ?_
  refine s_i2l dX6_at_2 ?_
  refine s_V1i cv_X6_37 rfl dX6_at_3 (xg_X6 (t := t) ht) rfl (Nat.le_of_ble_eq_true rfl) (x_has _ X M D ht _) (fun y3 h3 q3 => ?_)
  obtain ⟨rfl, rfl⟩ := q3
  refine s_if_eq dX6_at_6 (tgt := 18) (by decide) (fun c6 => ?_) (fun c6 => ?_)
  · replace c6 := b2i_0.mp c6
    have h6 : ¬ (0 ≤ i ∧ i ≤ M.2.1 37 t - 1) := fun z => c6 (by rw [(hP t ht).2.1]; exact (has_iff (hP t ht).2.2.2.1).mpr z)
    refine s_ldc2 dX6_at_18 rfl m898 ?_
    exact e_lret dX6_at_21 rfl (by exact ⟨by rw [if_neg h6], rfl⟩)
  · replace c6 := b2i_n0.mp c6
    have h6 := ((has_iff (hP t ht).2.2.2.1).mp (by have := c6; rw [(hP t ht).2.1] at this; exact this))
    have hi60 : vp_in i 60 := by obtain ⟨j, hj, e⟩ := bw_of (m := 59) (n := 59) (by decide) ⟨(h6).1, Int32.le_trans (h6).2 (l59 (hP t ht).2.2.2.1)⟩; rw [e]; exact vp_in_nI (by omega) (by decide)
    refine s_aload_nr (j := 0) dX6_at_9 rfl ?_
    refine gX_X6_9 (t := t) ht dX6_at_10 rfl ?_
    refine s_iload_n (j := 1) dX6_at_13 rfl ?_
    refine lX_X6_items (t := t) ht dX6_at_14 (by exact hi60) ?_
    refine s_goto dX6_at_15 (tgt := 21) (by decide) ?_
    exact e_lret dX6_at_21 rfl (by exact ⟨by rw [if_pos h6]; exact (hP t ht).2.2.2.2.2 _ (pz_lt hi60), rfl⟩)

set_option maxRecDepth 100000 in
set_option maxHeartbeats 800000 in
theorem x_cut (d : Nat) (X : XZ) (M : MZ) (D : HP) {t : Nat} (ht : t < 6) (z : Int64) : Con d qX6_cut 0 0 [.ref (83 + 2 * t), .long z] (xh X M D) (XL (if X.1 (41 + 2 * t) = 0 then z.toInt32.toInt8.toInt32.toInt64 else if X.1 (41 + 2 * t) = 1 then z.toInt32.toInt16.toInt32.toInt64 else if X.1 (41 + 2 * t) = 2 then z.toInt32.toInt64 else if X.1 (41 + 2 * t) = 3 then z else if z = 0 then 0 else 1) (xh X M D)) := by
  refine Con.of (by decide +kernel) (Nat.le_of_ble_eq_true rfl) ?_
  show Sem d qX6_cut 0 0 0 [(0, .ref (83 + 2 * t)), (1, .long z)] [] (xh X M D) _
  refine s_aload_nr (j := 0) dX6_cut_0 rfl ?_
  refine gX_X6_15 (t := t) ht dX6_cut_1 rfl ?_
  refine s_topi (fun x4 ex4 => ?_)
  by_cases k4_0 : x4 = 0
  · refine s_tswIn dX6_cut_4 (tgt := 36) (by rw [k4_0]; decide) (by rw [k4_0]; decide) (off := 32) (by rw [k4_0]; decide) (by decide) ?_
    replace ex4 := ex4.symm.trans k4_0
    clear k4_0
    refine s_lload_n (j := 1) dX6_cut_36 rfl ?_
    refine s_l2i dX6_cut_37 ?_
    refine s_i2b dX6_cut_38 ?_
    refine s_i2l dX6_cut_39 ?_
    exact e_lret dX6_cut_40 rfl (by exact ⟨by rw [ex4]; rfl, rfl⟩)
  by_cases k4_1 : x4 = 1
  · refine s_tswIn dX6_cut_4 (tgt := 41) (by rw [k4_1]; decide) (by rw [k4_1]; decide) (off := 37) (by rw [k4_1]; decide) (by decide) ?_
    replace ex4 := ex4.symm.trans k4_1
    clear k4_1 k4_0
    refine s_lload_n (j := 1) dX6_cut_41 rfl ?_
    refine s_l2i dX6_cut_42 ?_
    refine s_i2s dX6_cut_43 ?_
    refine s_i2l dX6_cut_44 ?_
    exact e_lret dX6_cut_45 rfl (by exact ⟨by rw [ex4]; rfl, rfl⟩)
  by_cases k4_2 : x4 = 2
  · refine s_tswIn dX6_cut_4 (tgt := 46) (by rw [k4_2]; decide) (by rw [k4_2]; decide) (off := 42) (by rw [k4_2]; decide) (by decide) ?_
    replace ex4 := ex4.symm.trans k4_2
    clear k4_2 k4_1 k4_0
    refine s_lload_n (j := 1) dX6_cut_46 rfl ?_
    refine s_l2i dX6_cut_47 ?_
    refine s_i2l dX6_cut_48 ?_
    exact e_lret dX6_cut_49 rfl (by exact ⟨by rw [ex4]; rfl, rfl⟩)
  by_cases k4_3 : x4 = 3
  · refine s_tswIn dX6_cut_4 (tgt := 50) (by rw [k4_3]; decide) (by rw [k4_3]; decide) (off := 46) (by rw [k4_3]; decide) (by decide) ?_
    replace ex4 := ex4.symm.trans k4_3
    clear k4_3 k4_2 k4_1 k4_0
    refine s_lload_n (j := 1) dX6_cut_50 rfl ?_
    exact e_lret dX6_cut_51 rfl (by exact ⟨by rw [ex4]; rfl, rfl⟩)
  refine s_tswOut dX6_cut_4 (tgt := 52) (by have a0 := lv_neT (a := 0) k4_0 rfl; have a1 := lv_neT (a := 1) k4_1 rfl; have a2 := lv_neT (a := 2) k4_2 rfl; have a3 := lv_neT (a := 3) k4_3 rfl; omega) (by decide) ?_
  replace k4_0 : ¬ _ = _ := fun z => k4_0 (ex4.trans z)
  replace k4_1 : ¬ _ = _ := fun z => k4_1 (ex4.trans z)
  replace k4_2 : ¬ _ = _ := fun z => k4_2 (ex4.trans z)
  replace k4_3 : ¬ _ = _ := fun z => k4_3 (ex4.trans z)
  clear ex4
  refine s_lload_n (j := 1) dX6_cut_52 rfl ?_
  refine s_lconst (v := 0) dX6_cut_53 (by decide) ?_
  refine s_lcmp dX6_cut_54 ?_
  refine s_if_eq dX6_cut_55 (tgt := 62) (by decide) (fun c55 => ?_) (fun c55 => ?_)
  · refine s_lconst (v := 0) dX6_cut_62 (by decide) ?_
    exact e_lret dX6_cut_63 rfl (by exact ⟨by rw [if_neg k4_0, if_neg k4_1, if_neg k4_2, if_neg k4_3, if_pos (lgc.mp c55)], rfl⟩)
  · refine s_lconst (v := 1) dX6_cut_58 (by decide) ?_
    refine s_goto dX6_cut_59 (tgt := 63) (by decide) ?_
    exact e_lret dX6_cut_63 rfl (by exact ⟨by rw [if_neg k4_0, if_neg k4_1, if_neg k4_2, if_neg k4_3, if_neg (fun w => c55 (lgc.mpr w))], rfl⟩)

set_option maxRecDepth 100000 in
set_option maxHeartbeats 800000 in
theorem x_puts (d : Nat) (X : XZ) (M : MZ) (D : HP) {t : Nat} (ht : t < 6) (hP : RP X M) (hs0 : ¬ M.2.1 36 t < 0) (i : Int32) (z : Int64) : Con (d + 1) qX6_puts 0 0 [.ref (83 + 2 * t), .int i, .long z] (xh X M D) (PI fun y h => (¬ (0 ≤ i ∧ i ≤ M.2.1 37 t - 1) ∧ y = 0 ∧ h = xh X M D) ∨ ((0 ≤ i ∧ i ≤ M.2.1 37 t - 1) ∧ vp_in i 60 ∧ y = 1 ∧ h = xh (xl X t (pz i) (sp_narrow (M.2.1 36 t) z)) M D)) := by
  refine Con.of (by decide +kernel) (Nat.le_of_ble_eq_true rfl) ?_
  show Sem (d + 1) qX6_puts 0 0 0 [(0, .ref (83 + 2 * t)), (1, .int i), (2, .long z)] [] (xh X M D) _
  refine s_aload_nr (j := 0) dX6_puts_0 rfl ?_
  refine s_iload_n (j := 1) dX6_puts_1 rfl ?_
  refine s_i2l dX6_puts_2 ?_
  refine s_V1i cv_X6_37 rfl dX6_puts_3 (xg_X6 (t := t) ht) rfl (Nat.le_of_ble_eq_true rfl) (x_has _ X M D ht _) (fun y3 h3 q3 => ?_)
  obtain ⟨rfl, rfl⟩ := q3
  refine s_if_ne dX6_puts_6 (tgt := 11) (by decide) (fun c6 => ?_) (fun c6 => ?_)
  · replace c6 := b2i_n0.mp c6
    have h6 := ((has_iff (hP t ht).2.2.2.1).mp (by have := c6; rw [(hP t ht).2.1] at this; exact this))
    have hi60 : vp_in i 60 := by obtain ⟨j, hj, e⟩ := bw_of (m := 59) (n := 59) (by decide) ⟨(h6).1, Int32.le_trans (h6).2 (l59 (hP t ht).2.2.2.1)⟩; rw [e]; exact vp_in_nI (by omega) (by decide)
    refine s_aload_nr (j := 0) dX6_puts_11 rfl ?_
    refine gX_X6_9 (t := t) ht dX6_puts_12 rfl ?_
    refine s_iload_n (j := 1) dX6_puts_15 rfl ?_
    refine s_aload_nr (j := 0) dX6_puts_16 rfl ?_
    refine s_lload_n (j := 2) dX6_puts_17 rfl ?_
    refine s_V1l cv_X6_43 rfl dX6_puts_18 (xg_X6 (t := t) ht) rfl (Nat.le_of_ble_eq_true rfl) (x_cut _ X M D ht z) (fun y18 h18 q18 => ?_)
    obtain ⟨rfl, rfl⟩ := q18
    rw [(hP t ht).1, (sn_eq hs0).resolve_right (fun w => w (hP t ht).2.2.1.2)]
    refine sX_X6_items (t := t) ht dX6_puts_21 (by exact hi60) ?_
    refine s_iconst (v := 1) dX6_puts_22 (by decide) ?_
    exact e_zret dX6_puts_23 rfl (by first | rfl | exact b2i_z | decide) (by exact Or.inr ⟨h6, hi60, rfl, rfl⟩)
  · replace c6 := b2i_0.mp c6
    have h6 : ¬ (0 ≤ i ∧ i ≤ M.2.1 37 t - 1) := fun z => c6 (by rw [(hP t ht).2.1]; exact (has_iff (hP t ht).2.2.2.1).mpr z)
    refine s_iconst (v := 0) dX6_puts_9 (by decide) ?_
    exact e_zret dX6_puts_10 rfl (by first | rfl | exact b2i_z | decide) (by exact Or.inl ⟨h6, rfl, rfl⟩)
