theorem sng1 {s : Int32} (h : ¬ s = -1) : (-1 ≤ s ∧ s ≤ 4) ↔ (0 ≤ s ∧ s ≤ 4) := by
  simp only [Int32.le_iff_toInt_le, Int32.lt_iff_toInt_lt, ← Int32.toInt_inj] at *
  simp at *
  omega
theorem pz_2 (i : Int32) : pz i < 2 ^ 31 := by
  show i.toInt.toNat < _
  have := i.toInt_lt
  omega
theorem cpy_l (w : WP) (f g : Nat → Int64) (a b n k : Nat) : va_cpy (caW w (.inr (.inl f))) (caW w (.inr (.inl g))) a b n k = caW w (.inr (.inl (va_cpy f g a b n))) k := by
  show _ = Value.long (va_cpy f g a b n k)
  unfold va_cpy
  split <;> rfl
theorem xr_items {X : XZ} {M : MZ} {D : HP} {f : Nat → Int64} {t : Nat} (ht : t < 6) : (xh X M D).set (83 + 2 * t + 1) (.inl (1, 60, .inr (.inl f))) = xh (xrl X t f) M D := xh_set (by omega) (match t, ht with | 0, _ => rfl | 1, _ => rfl | 2, _ => rfl | 3, _ => rfl | 4, _ => rfl | 5, _ => rfl)
theorem shN {α : Type} {L1 L2 a b n : Int32} {x y : α} (h : ¬ ((0 ≤ a ∧ 0 ≤ n ∧ a ≤ L1 - n) ∧ (0 ≤ b ∧ 0 ≤ n ∧ b ≤ L2 - n))) : (if n < 0 then x else if a < 0 then x else if b < 0 then x else if L1 - n < a then x else if b ≤ L2 - n then y else x) = x := by
  by_cases h1 : n < 0
  · rw [if_pos h1]
  rw [if_neg h1]
  by_cases h2 : a < 0
  · rw [if_pos h2]
  rw [if_neg h2]
  by_cases h3 : b < 0
  · rw [if_pos h3]
  rw [if_neg h3]
  by_cases h4 : L1 - n < a
  · rw [if_pos h4]
  rw [if_neg h4]
  refine if_neg fun h5 => h ⟨⟨Int32.not_lt.mp h2, Int32.not_lt.mp h1, Int32.not_lt.mp h4⟩, Int32.not_lt.mp h3, Int32.not_lt.mp h1, h5⟩
theorem shY {α : Type} {L1 L2 a b n : Int32} {x y : α} (h : (0 ≤ a ∧ 0 ≤ n ∧ a ≤ L1 - n) ∧ (0 ≤ b ∧ 0 ≤ n ∧ b ≤ L2 - n)) : (if n < 0 then x else if a < 0 then x else if b < 0 then x else if L1 - n < a then x else if b ≤ L2 - n then y else x) = y := by
  rw [if_neg (Int32.not_lt.mpr h.1.2.1), if_neg (Int32.not_lt.mpr h.1.1), if_neg (Int32.not_lt.mpr h.2.1), if_neg (Int32.not_lt.mpr h.1.2.2), if_pos h.2.2.2]
theorem jd_sum {j : Int32} {k : Nat} (hj : ¬ j < 0) (hk : k < 4) : (j.toInt64 + (nI k).toInt64).toInt = j.toInt + (k : Int) := by
  have h1 := Int32.not_lt.mp hj
  have h2 := j.toInt_lt
  rw [Int32.le_iff_toInt_le] at h1
  have h3 : (0 : Int32).toInt = 0 := rfl
  rw [Int64.toInt_add, Int32.toInt_toInt64, Int32.toInt_toInt64, nI_toInt (by omega)]
  exact Int.bmod_eq_of_le (by omega) (by omega)
theorem jd_lim {L : Int32} {k : Nat} (hL : 0 ≤ L ∧ L ≤ 60) (hk : k < 4) : (L - nI k - 1).toInt = L.toInt - k - 1 := by
  have h1 := hL.1
  have h2 := hL.2
  simp only [Int32.le_iff_toInt_le] at h1 h2
  simp at h1 h2
  have e : (L - nI k).toInt = L.toInt - k := by rw [fb_subI] <;> rw [nI_toInt (by omega)] <;> omega
  rw [fb_subI] <;> rw [e] <;> simp <;> omega
theorem jd_has {j L : Int32} {k : Nat} (hj : ¬ j < 0) (hL : 0 ≤ L ∧ L ≤ 60) (hk : k < 4) : (0 ≤ j.toInt64 + (nI k).toInt64 ∧ j.toInt64 + (nI k).toInt64 < L.toInt64) ↔ j ≤ L - nI k - 1 := by
  have h1 := Int32.not_lt.mp hj
  rw [Int32.le_iff_toInt_le] at h1
  have h3 : (0 : Int32).toInt = 0 := rfl
  rw [Int64.le_iff_toInt_le, Int64.lt_iff_toInt_lt, jd_sum hj hk, Int32.toInt_toInt64, Int32.le_iff_toInt_le, jd_lim hL hk, show (0 : Int64).toInt = 0 from rfl]
  omega
theorem jd_no {j L s p : Int32} {t k : Nat} (hL : 0 ≤ L ∧ L ≤ 60) (hz : s < 0 → L = 0) (_ : pz p = t) (hj : ¬ j < 0) (hk : k < 4) (h : ¬ (0 ≤ j.toInt64 + (nI k).toInt64 ∧ j.toInt64 + (nI k).toInt64 < L.toInt64)) : s < 0 ∨ j < 0 ∨ ¬ j ≤ L - nI k - 1 := Or.inr (Or.inr fun z => h ((jd_has hj hL hk).mpr z))
theorem jd_yes {j L s : Int32} {k : Nat} (hL : 0 ≤ L ∧ L ≤ 60) (hz : s < 0 → L = 0) (hj : ¬ j < 0) (hk : k < 4) (h : 0 ≤ j.toInt64 + (nI k).toInt64 ∧ j.toInt64 + (nI k).toInt64 < L.toInt64) : ¬ (s < 0 ∨ j < 0 ∨ ¬ j ≤ L - nI k - 1) := by
  rintro (z | z | z)
  · have e := hz z
    subst e
    have h2 := (jd_has hj hL hk).mp h
    have h1 := Int32.not_lt.mp hj
    rw [Int32.le_iff_toInt_le] at h1 h2
    rw [jd_lim hL hk] at h2
    have h3 : (0 : Int32).toInt = 0 := rfl
    omega
  · exact hj z
  · exact z ((jd_has hj hL hk).mp h)
theorem jd_at {j L p : Int32} {t k : Nat} (ht : t < 6) (hp : p = nI t) (hL : 0 ≤ L ∧ L ≤ 60) (hj : ¬ j < 0) (hk : k < 4) (h : 0 ≤ j.toInt64 + (nI k).toInt64 ∧ j.toInt64 + (nI k).toInt64 < L.toInt64) : (0 ≤ j + nI k ∧ j + nI k ≤ L - 1) ∧ 60 * t + pz (j + nI k) = pz (60 * p + j + nI k) := by
  have h2 := (jd_has hj hL hk).mp h
  have h1 := Int32.not_lt.mp hj
  have l1 := hL.1
  have l2 := hL.2
  have e : j = nI (pz j) := nI_pz h1
  rw [Int32.le_iff_toInt_le] at h2 h1
  rw [jd_lim hL hk] at h2
  simp only [Int32.le_iff_toInt_le] at l1 l2
  simp at l1 l2 h1
  have ej : j.toInt = (pz j : Int) := by conv => lhs; rw [e]
                                         exact nI_toInt (pz_2 j)
  have h59 : pz j + k ≤ 59 := by omega
  have h9 : (L - 1).toInt = L.toInt - 1 := by rw [fb_subI] <;> simp <;> omega
  rw [e, hp, show (60 : Int32) = nI 60 from rfl, nI_mul, nI_add, nI_add, nI_add, pz5 _ (by omega), pz5 _ (by omega)]
  refine ⟨⟨nI_pos' (by omega), ?_⟩, by omega⟩
  rw [Int32.le_iff_toInt_le, nI_toInt (by omega), h9]
  omega

theorem rd_eq {s L i p : Int32} {t : Nat} {f : Nat → Int64} {x : Int64} (hz : s < 0 → L = 0) (he : vp_in i 60 → pz (60 * p + i) = 60 * t + pz i) (hL : 0 ≤ L ∧ L ≤ 60) : (if 0 ≤ i ∧ i ≤ L - 1 then f (60 * t + pz i) else x) = if s < 0 then x else if 0 ≤ i ∧ i ≤ L - 1 then f (pz (60 * p + i)) else x := by
  by_cases h : 0 ≤ i ∧ i ≤ L - 1
  · have h6 : vp_in i 60 := by
      obtain ⟨j, hj, e⟩ := bw_of (m := 59) (n := 59) (by decide) ⟨h.1, Int32.le_trans h.2 (l59 hL)⟩
      rw [e]; exact vp_in_nI (by omega) (by decide)
    rw [if_pos h, if_pos h, he h6, if_neg]
    intro z
    have e := hz z
    subst e
    exact absurd (Int32.le_trans h.1 h.2) (by decide)
  · rw [if_neg h, if_neg h]
    split <;> rfl

set_option maxRecDepth 100000 in
set_option maxHeartbeats 800000 in
theorem x_tape (d : Nat) (X : XZ) (M : MZ) (D : HP) (hV : RV X) (hP : RP X M) (p s m : Int32) : Con (d + 2) qX11_tape 0 0 [.ref 0, .int p, .int s, .int m] (xh X M D) (PI fun y h => y = (sp_tape M p s m).1 ∧ ∃ X2, h = xh X2 M D ∧ FT X X2 ∧ RP X2 (sp_tape M p s m).2) := by
  refine Con.of (by decide +kernel) (Nat.le_of_ble_eq_true rfl) ?_
  show Sem (d + 2) qX11_tape 0 0 0 [(0, .ref 0), (1, .int p), (2, .int s), (3, .int m)] [] (xh X M D) _
  refine s_aload_nr (j := 0) dX11_tape_0 rfl ?_
  refine s_iload_n (j := 1) dX11_tape_1 rfl ?_
  refine s_V1r cv_X11_237 rfl dX11_tape_2 xg_X11 rfl (Nat.le_of_ble_eq_true rfl) (x_tapeAt _ _ M D hV _) (fun y2 h2 q2 => ?_)
  rcases q2 with ⟨⟨hp, t, ht, e, rfl⟩ | ⟨hp, rfl⟩, rfl⟩
  · skip
    refine s_astorer dX11_tape_5 (by decide) rfl ?_
    refine s_aloadr (j := 0) dX11_tape_7 rfl ?_
    refine s_ifnonnullr dX11_tape_9 (tgt := 14) (by decide) ?_
    have ep : pz p = t := by rw [e]; exact pz5 _ (by omega)
    refine s_iload_n (j := 3) dX11_tape_14 rfl ?_
    refine s_iconst (v := -1) dX11_tape_15 (by decide) ?_
    refine s_icmp_ne dX11_tape_16 (tgt := 28) (by decide) (fun c16 => ?_) (fun c16 => ?_)
    · refine s_iload_n (j := 3) dX11_tape_28 rfl ?_
      refine s_iconst (v := 5) dX11_tape_29 (by decide) ?_
      refine s_S2i cs_X11_67 rfl dX11_tape_30 (Nat.le_of_ble_eq_true rfl) (x_wC _ _ _ _ (4) (by decide)) (fun y30 h30 q30 => ?_)
      obtain ⟨rfl, rfl⟩ := q30
      refine s_if_eq dX11_tape_33 (tgt := 42) (by decide) (fun c33 => ?_) (fun c33 => ?_)
      · replace c33 := b2i_0.mp c33
        refine s_bipush (v := -2) dX11_tape_42 (by decide) ?_
        exact e_iret dX11_tape_44 rfl (by unfold sp_tape; rw [if_pos hp, if_neg (fun z => c33 ((sng1 c16).mp z))]; exact ⟨rfl, _, rfl, FT.rf X, hP⟩)
      · replace c33 := b2i_n0.mp c33
        refine s_iload_n (j := 4) dX11_tape_36 rfl ?_
        refine s_bipush (v := 60) dX11_tape_37 (by decide) ?_
        refine s_icmp_le dX11_tape_39 (tgt := 45) (by decide) (fun c39 => ?_) (fun c39 => ?_)
        · refine s_iload_n (j := 4) dX11_tape_45 rfl ?_
          refine s_if_ge dX11_tape_46 (tgt := 52) (by decide) (fun c46 => ?_) (fun c46 => ?_)
          · refine s_aloadr (j := 0) dX11_tape_52 rfl ?_
            refine s_iload_n (j := 3) dX11_tape_54 rfl ?_
            refine s_iload_n (j := 4) dX11_tape_55 rfl ?_
            refine s_V2v cv_X11_286 rfl dX11_tape_56 (xg_X6 (t := t) ht) rfl (Nat.le_of_ble_eq_true rfl) (x_become _ X M D ht s m ⟨c46, c39⟩) (fun h56 q56 => ?_)
            obtain ⟨f, hf, rfl⟩ := q56
            refine s_iconst (v := 1) dX11_tape_59 (by decide) ?_
            exact e_iret dX11_tape_60 rfl (by unfold sp_tape; rw [if_pos hp, if_pos ((sng1 c16).mpr c33), if_neg (Int32.not_lt.mpr c33.1), if_neg (Int32.not_lt.mpr c39), if_neg (Int32.not_lt.mpr c46), ep]; exact ⟨rfl, _, rfl, ⟨fun k hk => (if_neg (by omega)).trans (if_neg (by omega)), rfl, rfl⟩, hP.put ht ((sng1 c16).mpr c33) ⟨c46, c39⟩ (fun z => absurd c33.1 (Int32.not_le.mpr z)) hf⟩)
          · refine s_bipush (v := -14) dX11_tape_49 (by decide) ?_
            exact e_iret dX11_tape_51 rfl (by unfold sp_tape; rw [if_pos hp, if_pos ((sng1 c16).mpr c33), if_neg (Int32.not_lt.mpr c33.1), if_neg (Int32.not_lt.mpr c39), if_pos (Int32.not_le.mp c46)]; exact ⟨rfl, _, rfl, FT.rf X, hP⟩)
        · refine s_bipush (v := -2) dX11_tape_42 (by decide) ?_
          exact e_iret dX11_tape_44 rfl (by unfold sp_tape; rw [if_pos hp, if_pos ((sng1 c16).mpr c33), if_neg (Int32.not_lt.mpr c33.1), if_pos (Int32.not_le.mp c39)]; exact ⟨rfl, _, rfl, FT.rf X, hP⟩)
    · refine s_aloadr (j := 0) dX11_tape_19 rfl ?_
      refine s_iconst (v := -1) dX11_tape_21 (by decide) ?_
      refine s_iconst (v := 0) dX11_tape_22 (by decide) ?_
      refine s_V2v cv_X11_286 rfl dX11_tape_23 (xg_X6 (t := t) ht) rfl (Nat.le_of_ble_eq_true rfl) (x_become _ X M D ht (-1) 0 (by decide)) (fun h23 q23 => ?_)
      obtain ⟨f, hf, rfl⟩ := q23
      refine s_iconst (v := 1) dX11_tape_26 (by decide) ?_
      exact e_iret dX11_tape_27 rfl (by subst c16; unfold sp_tape; rw [if_pos hp, if_pos (by decide), if_pos (by decide), ep]; exact ⟨rfl, _, rfl, ⟨fun k hk => (if_neg (by omega)).trans (if_neg (by omega)), rfl, rfl⟩, hP.put ht (by decide) (by decide) (fun _ => rfl) hf⟩)
  · skip
    refine s_astore0 dX11_tape_5 (by decide) rfl ?_
    refine s_aload0 (j := 0) dX11_tape_7 rfl ?_
    refine s_ifnonnull0 dX11_tape_9 ?_
    refine s_iconst (v := -1) dX11_tape_12 (by decide) ?_
    exact e_iret dX11_tape_13 rfl (by unfold sp_tape; rw [if_neg hp]; exact ⟨rfl, _, rfl, FT.rf X, hP⟩)

set_option maxRecDepth 100000 in
set_option maxHeartbeats 800000 in
theorem x_item (d : Nat) (X : XZ) (M : MZ) (D : HP) (hV : RV X) (hP : RP X M) (p i : Int32) (z : Int64) : Con (d + 2) qX11_item 0 0 [.ref 0, .int p, .int i, .long z] (xh X M D) (PI fun y h => y = (sp_item M p i z).1 ∧ ∃ X2, h = xh X2 M D ∧ FT X X2 ∧ RP X2 (sp_item M p i z).2) := by
  refine Con.of (by decide +kernel) (Nat.le_of_ble_eq_true rfl) ?_
  show Sem (d + 2) qX11_item 0 0 0 [(0, .ref 0), (1, .int p), (2, .int i), (3, .long z)] [] (xh X M D) _
  refine s_aload_nr (j := 0) dX11_item_0 rfl ?_
  refine s_iload_n (j := 1) dX11_item_1 rfl ?_
  refine s_V1r cv_X11_237 rfl dX11_item_2 xg_X11 rfl (Nat.le_of_ble_eq_true rfl) (x_tapeAt _ _ M D hV _) (fun y2 h2 q2 => ?_)
  rcases q2 with ⟨⟨hp, t, ht, e, rfl⟩ | ⟨hp, rfl⟩, rfl⟩
  · skip
    refine s_astorer dX11_item_5 (by decide) rfl ?_
    refine s_aloadr (j := 0) dX11_item_7 rfl ?_
    refine s_ifnonnullr dX11_item_9 (tgt := 14) (by decide) ?_
    have ep : pz p = t := by rw [e]; exact pz5 _ (by omega)
    have hpT : vp_in p 6 := by rw [e]; exact vp_in_nI (by omega) (by decide)
    refine s_aloadr (j := 0) dX11_item_14 rfl ?_
    refine gX_X11_241 (t := t) ht dX11_item_16 rfl ?_
    refine s_topi (fun z ez => ?_)
    obtain rfl : z = M.2.1 36 t := ez.trans (hP t ht).1
    refine s_iconst (v := -1) dX11_item_19 (by decide) ?_
    refine s_icmp_ne dX11_item_20 (tgt := 26) (by decide) (fun c20 => ?_) (fun c20 => ?_)
    · have hs0 : ¬ M.2.1 36 t < 0 := fun w => c20 ((s_neg (hP t ht).2.2.1).mpr w)
      refine s_aloadr (j := 0) dX11_item_26 rfl ?_
      refine s_iload_n (j := 3) dX11_item_28 rfl ?_
      refine s_lload_n (j := 4) dX11_item_29 rfl ?_
      refine s_V2i cv_X11_290 rfl dX11_item_30 (xg_X6 (t := t) ht) rfl (Nat.le_of_ble_eq_true rfl) (x_puts _ X M D ht hP hs0 i z) (fun y30 h30 q30 => ?_)
      rcases q30 with ⟨h6, rfl, rfl⟩ | ⟨h6, hi60, rfl, rfl⟩
      · skip
        refine s_if_eq dX11_item_33 (tgt := 40) (by decide) (fun c33 => ?_) (fun c33 => ?_)
        · refine s_bipush (v := -13) dX11_item_40 (by decide) ?_
          exact e_iret dX11_item_42 rfl (by unfold sp_item; rw [if_pos hp, ep, if_neg hs0, if_neg h6]; exact ⟨rfl, _, rfl, FT.rf X, hP⟩)
        · exact absurd rfl c33
      · skip
        refine s_if_eq dX11_item_33 (tgt := 40) (by decide) (fun c33 => ?_) (fun c33 => ?_)
        · exact absurd c33 (by decide)
        · refine s_iconst (v := 1) dX11_item_36 (by decide) ?_
          refine s_goto dX11_item_37 (tgt := 42) (by decide) ?_
          exact e_iret dX11_item_42 rfl (by unfold sp_item; rw [if_pos hp, ep, if_neg hs0, if_pos h6, show pz (60 * p + i) = 60 * t + pz i from by rw [ix_pz (n := 6) (m := 60) (c := 60) hpT hi60 (by decide) (by decide), ep]]; exact ⟨rfl, _, rfl, ⟨fun _ _ => rfl, rfl, rfl⟩, hP.item ht (pz_lt hi60)⟩)
    · refine s_bipush (v := -11) dX11_item_23 (by decide) ?_
      exact e_iret dX11_item_25 rfl (by unfold sp_item; rw [if_pos hp, ep, if_pos ((s_neg (hP t ht).2.2.1).mp c20)]; exact ⟨rfl, _, rfl, FT.rf X, hP⟩)
  · skip
    refine s_astore0 dX11_item_5 (by decide) rfl ?_
    refine s_aload0 (j := 0) dX11_item_7 rfl ?_
    refine s_ifnonnull0 dX11_item_9 ?_
    refine s_iconst (v := -1) dX11_item_12 (by decide) ?_
    exact e_iret dX11_item_13 rfl (by unfold sp_item; rw [if_neg hp]; exact ⟨rfl, _, rfl, FT.rf X, hP⟩)

set_option maxRecDepth 100000 in
set_option maxHeartbeats 800000 in
theorem x_read (d : Nat) (X : XZ) (M : MZ) (D : HP) (hV : RV X) (hP : RP X M) (p i : Int32) : Con (d + 2) qX11_read 0 0 [.ref 0, .int p, .int i] (xh X M D) (XL (sp_read M p i) (xh X M D)) := by
  refine Con.of (by decide +kernel) (Nat.le_of_ble_eq_true rfl) ?_
  show Sem (d + 2) qX11_read 0 0 0 [(0, .ref 0), (1, .int p), (2, .int i)] [] (xh X M D) _
  refine s_aload_nr (j := 0) dX11_read_0 rfl ?_
  refine s_iload_n (j := 1) dX11_read_1 rfl ?_
  refine s_V1r cv_X11_237 rfl dX11_read_2 xg_X11 rfl (Nat.le_of_ble_eq_true rfl) (x_tapeAt _ _ M D hV _) (fun y2 h2 q2 => ?_)
  rcases q2 with ⟨⟨hp, t, ht, e, rfl⟩ | ⟨hp, rfl⟩, rfl⟩
  · skip
    refine s_astore_nr dX11_read_5 (by decide) rfl ?_
    refine s_aload_nr (j := 0) dX11_read_6 rfl ?_
    refine s_ifnonnullr dX11_read_7 (tgt := 16) (by decide) ?_
    have ep : pz p = t := by rw [e]; exact pz5 _ (by omega)
    have hpT : vp_in p 6 := by rw [e]; exact vp_in_nI (by omega) (by decide)
    refine s_aload_nr (j := 0) dX11_read_16 rfl ?_
    refine s_iload_n (j := 3) dX11_read_17 rfl ?_
    refine s_V1l cv_X11_248 rfl dX11_read_18 (xg_X6 (t := t) ht) rfl (Nat.le_of_ble_eq_true rfl) (x_at _ X M D ht hP i) (fun y18 h18 q18 => ?_)
    obtain ⟨rfl, rfl⟩ := q18
    exact e_lret dX11_read_21 rfl (by unfold sp_read; rw [if_pos hp, ep]; exact ⟨rd_eq (hP t ht).2.2.2.2.1 (fun h6 => by rw [ix_pz (n := 6) (m := 60) (c := 60) hpT h6 (by decide) (by decide), ep]) (hP t ht).2.2.2.1, rfl⟩)
  · skip
    refine s_astore_n0 dX11_read_5 (by decide) rfl ?_
    refine s_aload_n0 (j := 0) dX11_read_6 rfl ?_
    refine s_ifnonnull0 dX11_read_7 ?_
    refine s_ldc2 dX11_read_10 rfl m860 ?_
    refine s_goto dX11_read_13 (tgt := 21) (by decide) ?_
    exact e_lret dX11_read_21 rfl (by unfold sp_read; rw [if_neg hp]; exact ⟨rfl, rfl⟩)

set_option maxRecDepth 100000 in
set_option maxHeartbeats 800000 in
theorem x_spans (d : Nat) (X : XZ) (M : MZ) (D : HP) {t : Nat} (ht : t < 6) (i m : Int32) : Con d qX6_spans 0 0 [.ref (83 + 2 * t), .int i, .int m] (xh X M D) (XI (b2i (0 ≤ i ∧ 0 ≤ m ∧ i ≤ X.1 (40 + 2 * t) - m)) (xh X M D)) := by
  refine Con.of (by decide +kernel) (Nat.le_of_ble_eq_true rfl) ?_
  show Sem d qX6_spans 0 0 0 [(0, .ref (83 + 2 * t)), (1, .int i), (2, .int m)] [] (xh X M D) _
  refine s_iload_n (j := 1) dX6_spans_0 rfl ?_
  refine s_if_lt dX6_spans_1 (tgt := 22) (by decide) (fun c1 => ?_) (fun c1 => ?_)
  · refine s_iconst (v := 0) dX6_spans_22 (by decide) ?_
    exact e_zret dX6_spans_23 rfl (by first | rfl | exact b2i_z | decide) (by first | exact ⟨(b2i_f (fun z => absurd c1 (Int32.not_lt.mpr z.1))).symm, rfl⟩ | exact ⟨(b2i_f (fun z => absurd c5 (Int32.not_lt.mpr z.2.1))).symm, rfl⟩ | exact ⟨(b2i_f (fun z => absurd z.2.2 (Int32.not_le.mpr c15))).symm, rfl⟩ | exact ⟨(b2i_t ⟨Int32.not_lt.mp c1, Int32.not_lt.mp c5, Int32.not_lt.mp c15⟩).symm, rfl⟩)
  · refine s_iload_n (j := 2) dX6_spans_4 rfl ?_
    refine s_if_lt dX6_spans_5 (tgt := 22) (by decide) (fun c5 => ?_) (fun c5 => ?_)
    · refine s_iconst (v := 0) dX6_spans_22 (by decide) ?_
      exact e_zret dX6_spans_23 rfl (by first | rfl | exact b2i_z | decide) (by first | exact ⟨(b2i_f (fun z => absurd c1 (Int32.not_lt.mpr z.1))).symm, rfl⟩ | exact ⟨(b2i_f (fun z => absurd c5 (Int32.not_lt.mpr z.2.1))).symm, rfl⟩ | exact ⟨(b2i_f (fun z => absurd z.2.2 (Int32.not_le.mpr c15))).symm, rfl⟩ | exact ⟨(b2i_t ⟨Int32.not_lt.mp c1, Int32.not_lt.mp c5, Int32.not_lt.mp c15⟩).symm, rfl⟩)
    · refine s_iload_n (j := 1) dX6_spans_8 rfl ?_
      refine s_aload_nr (j := 0) dX6_spans_9 rfl ?_
      refine gX_X6_28 (t := t) ht dX6_spans_10 rfl ?_
      refine s_iload_n (j := 2) dX6_spans_13 rfl ?_
      refine s_isub dX6_spans_14 ?_
      refine s_icmp_gt dX6_spans_15 (tgt := 22) (by decide) (fun c15 => ?_) (fun c15 => ?_)
      · refine s_iconst (v := 0) dX6_spans_22 (by decide) ?_
        exact e_zret dX6_spans_23 rfl (by first | rfl | exact b2i_z | decide) (by first | exact ⟨(b2i_f (fun z => absurd c1 (Int32.not_lt.mpr z.1))).symm, rfl⟩ | exact ⟨(b2i_f (fun z => absurd c5 (Int32.not_lt.mpr z.2.1))).symm, rfl⟩ | exact ⟨(b2i_f (fun z => absurd z.2.2 (Int32.not_le.mpr c15))).symm, rfl⟩ | exact ⟨(b2i_t ⟨Int32.not_lt.mp c1, Int32.not_lt.mp c5, Int32.not_lt.mp c15⟩).symm, rfl⟩)
      · refine s_iconst (v := 1) dX6_spans_18 (by decide) ?_
        refine s_goto dX6_spans_19 (tgt := 23) (by decide) ?_
        exact e_zret dX6_spans_23 rfl (by first | rfl | exact b2i_z | decide) (by first | exact ⟨(b2i_f (fun z => absurd c1 (Int32.not_lt.mpr z.1))).symm, rfl⟩ | exact ⟨(b2i_f (fun z => absurd c5 (Int32.not_lt.mpr z.2.1))).symm, rfl⟩ | exact ⟨(b2i_f (fun z => absurd z.2.2 (Int32.not_le.mpr c15))).symm, rfl⟩ | exact ⟨(b2i_t ⟨Int32.not_lt.mp c1, Int32.not_lt.mp c5, Int32.not_lt.mp c15⟩).symm, rfl⟩)

set_option maxRecDepth 100000 in
set_option maxHeartbeats 800000 in
theorem x_ttakes (d : Nat) (X : XZ) (M : MZ) (D : HP) {t : Nat} (ht : t < 6) {u : Nat} (hu : u < 6) (hP : RP X M) (j i m : Int32) : Con (d + 1) qX6_takes 0 0 [.ref (83 + 2 * u), .int j, .ref (83 + 2 * t), .int i, .int m] (xh X M D) (PI fun y h => (¬ ((0 ≤ i ∧ 0 ≤ m ∧ i ≤ X.1 (40 + 2 * t) - m) ∧ (0 ≤ j ∧ 0 ≤ m ∧ j ≤ X.1 (40 + 2 * u) - m)) ∧ y = 0 ∧ h = xh X M D) ∨ (((0 ≤ i ∧ 0 ≤ m ∧ i ≤ X.1 (40 + 2 * t) - m) ∧ (0 ≤ j ∧ 0 ≤ m ∧ j ≤ X.1 (40 + 2 * u) - m)) ∧ (pz i + pz m ≤ 60 ∧ pz j + pz m ≤ 60) ∧ y = 1 ∧ h = xh (xrl X u (va_cpy (X.2.2.1 t) (X.2.2.1 u) (pz i) (pz j) (pz m))) M D)) := by
  refine Con.of (by decide +kernel) (Nat.le_of_ble_eq_true rfl) ?_
  show Sem (d + 1) qX6_takes 0 0 0 [(0, .ref (83 + 2 * u)), (1, .int j), (2, .ref (83 + 2 * t)), (3, .int i), (4, .int m)] [] (xh X M D) _
  refine s_aload_nr (j := 2) dX6_takes_0 rfl ?_
  refine s_iload_n (j := 3) dX6_takes_1 rfl ?_
  refine s_iload (j := 4) dX6_takes_2 rfl ?_
  refine s_V2i cv_X6_47 rfl dX6_takes_4 (xg_X6 (t := t) ht) rfl (Nat.le_of_ble_eq_true rfl) (x_spans _ X M D ht _ _) (fun y4 h4 q4 => ?_)
  obtain ⟨rfl, rfl⟩ := q4
  refine s_if_eq dX6_takes_7 (tgt := 20) (by decide) (fun c7 => ?_) (fun c7 => ?_)
  · replace c7 := b2i_0.mp c7
    refine s_iconst (v := 0) dX6_takes_20 (by decide) ?_
    exact e_zret dX6_takes_21 rfl (by first | rfl | exact b2i_z | decide) (by exact Or.inl ⟨fun z => c7 z.1, rfl, rfl⟩)
  · replace c7 := b2i_n0.mp c7
    refine s_aload_nr (j := 0) dX6_takes_10 rfl ?_
    refine s_iload_n (j := 1) dX6_takes_11 rfl ?_
    refine s_iload (j := 4) dX6_takes_12 rfl ?_
    refine s_V2i cv_X6_47 rfl dX6_takes_14 (xg_X6 (t := u) hu) rfl (Nat.le_of_ble_eq_true rfl) (x_spans _ X M D hu _ _) (fun y14 h14 q14 => ?_)
    obtain ⟨rfl, rfl⟩ := q14
    refine s_if_ne dX6_takes_17 (tgt := 22) (by decide) (fun c17 => ?_) (fun c17 => ?_)
    · replace c17 := b2i_n0.mp c17
      refine s_aload_nr (j := 2) dX6_takes_22 rfl ?_
      refine gX_X6_9 (t := t) ht dX6_takes_23 rfl ?_
      refine s_iload_n (j := 3) dX6_takes_26 rfl ?_
      refine s_aload_nr (j := 0) dX6_takes_27 rfl ?_
      refine gX_X6_9 (t := u) hu dX6_takes_28 rfl ?_
      refine s_iload_n (j := 1) dX6_takes_31 rfl ?_
      refine s_iload (j := 4) dX6_takes_32 rfl ?_
      obtain ⟨hi0, hn0, hin⟩ := c7
      obtain ⟨hj0, _, hjn⟩ := c17
      have k1 : pz i + pz m ≤ 60 := sh_le (L := X.1 (40 + 2 * t)) (by rw [(hP t ht).2.1]; exact (hP t ht).2.2.2.1) (pz_2 i) (pz_2 m) (by rw [← nI_pz hi0, ← nI_pz hn0]; exact hin)
      have k2 : pz j + pz m ≤ 60 := sh_le (L := X.1 (40 + 2 * u)) (by rw [(hP u hu).2.1]; exact (hP u hu).2.2.2.1) (pz_2 j) (pz_2 m) (by rw [← nI_pz hj0, ← nI_pz hn0]; exact hjn)
      refine s_copy (own := RX6) (t := 1) (n0 := 60) (n1 := 60) (a2 := .inr (.inl (va_cpy (X.2.2.1 t) (X.2.2.1 u) (pz i) (pz j) (pz m)))) rfl dX6_takes_34 mAC_X6 mACn mACs mSys (xg_X6_items ht) (xg_X6_items hu) rfl rfl (Int32.not_lt.mpr hi0) (Int32.not_lt.mpr hj0) (Int32.not_lt.mpr hn0) k1 k2 (fun _ _ => rfl) (Or.inr ⟨_, rfl⟩) (Nat.le_of_ble_eq_true rfl) (fun w9 k hk => cpy_l w9 _ _ _ _ _ k) (s_heq (xr_items hu) ?_)
      refine s_iconst (v := 1) dX6_takes_37 (by decide) ?_
      exact e_zret dX6_takes_38 rfl (by first | rfl | exact b2i_z | decide) (by exact Or.inr ⟨⟨⟨hi0, hn0, hin⟩, hj0, hn0, hjn⟩, ⟨k1, k2⟩, rfl, rfl⟩)
    · replace c17 := b2i_0.mp c17
      refine s_iconst (v := 0) dX6_takes_20 (by decide) ?_
      exact e_zret dX6_takes_21 rfl (by first | rfl | exact b2i_z | decide) (by exact Or.inl ⟨fun z => c17 z.2, rfl, rfl⟩)

set_option maxRecDepth 100000 in
set_option maxHeartbeats 800000 in
theorem x_shift (d : Nat) (X : XZ) (M : MZ) (D : HP) (hV : RV X) (hP : RP X M) (p i p2 j m : Int32) : Con (d + 2) qX11_shift 0 0 [.ref 0, .int p, .int i, .int p2, .int j, .int m] (xh X M D) (PI fun y h => y = (sp_shift M p i p2 j m).1 ∧ ∃ X2, h = xh X2 M D ∧ FT X X2 ∧ RP X2 (sp_shift M p i p2 j m).2) := by
  refine Con.of (by decide +kernel) (Nat.le_of_ble_eq_true rfl) ?_
  show Sem (d + 2) qX11_shift 0 0 0 [(0, .ref 0), (1, .int p), (2, .int i), (3, .int p2), (4, .int j), (5, .int m)] [] (xh X M D) _
  refine s_aload_nr (j := 0) dX11_shift_0 rfl ?_
  refine s_iload_n (j := 1) dX11_shift_1 rfl ?_
  refine s_V1r cv_X11_237 rfl dX11_shift_2 xg_X11 rfl (Nat.le_of_ble_eq_true rfl) (x_tapeAt _ _ M D hV _) (fun y2 h2 q2 => ?_)
  rcases q2 with ⟨⟨hp, t, ht, e, rfl⟩ | ⟨hp, rfl⟩, rfl⟩
  · skip
    refine s_astorer dX11_shift_5 (by decide) rfl ?_
    refine s_aload_nr (j := 1) dX11_shift_7 rfl ?_
    refine s_iload_n (j := 4) dX11_shift_8 rfl ?_
    refine s_V1r cv_X11_237 rfl dX11_shift_9 xg_X11 rfl (Nat.le_of_ble_eq_true rfl) (x_tapeAt _ _ M D hV _) (fun y9 h9 q9 => ?_)
    rcases q9 with ⟨⟨hp2, t2, ht2, e2, rfl⟩ | ⟨hp2, rfl⟩, rfl⟩
    · skip
      refine s_astorer dX11_shift_12 (by decide) rfl ?_
      refine s_aloadr (j := 1) dX11_shift_14 rfl ?_
      refine s_ifnullr dX11_shift_16 ?_
      refine s_aloadr (j := 0) dX11_shift_19 rfl ?_
      refine s_ifnonnullr dX11_shift_21 (tgt := 26) (by decide) ?_
      have ep : pz p = t := by rw [e]; exact pz5 _ (by omega)
      have ep2 : pz p2 = t2 := by rw [e2]; exact pz5 _ (by omega)
      refine s_aloadr (j := 1) dX11_shift_26 rfl ?_
      refine gX_X11_241 (t := t) ht dX11_shift_28 rfl ?_
      refine s_topi (fun z ez => ?_)
      obtain rfl : z = M.2.1 36 t := ez.trans (hP t ht).1
      refine s_iconst (v := -1) dX11_shift_31 (by decide) ?_
      refine s_icmp_eq dX11_shift_32 (tgt := 44) (by decide) (fun c32 => ?_) (fun c32 => ?_)
      · refine s_bipush (v := -11) dX11_shift_44 (by decide) ?_
        exact e_iret dX11_shift_46 rfl (by unfold sp_shift; rw [if_pos hp, if_pos hp2, ep, ep2, if_pos ((s_neg (hP t ht).2.2.1).mp c32)]; exact ⟨rfl, _, rfl, FT.rf X, hP⟩)
      · refine s_aloadr (j := 0) dX11_shift_35 rfl ?_
        refine gX_X11_241 (t := t2) ht2 dX11_shift_37 rfl ?_
        refine s_topi (fun z ez => ?_)
        obtain rfl : z = M.2.1 36 t2 := ez.trans (hP t2 ht2).1
        refine s_iconst (v := -1) dX11_shift_40 (by decide) ?_
        refine s_icmp_ne dX11_shift_41 (tgt := 47) (by decide) (fun c41 => ?_) (fun c41 => ?_)
        · refine s_aloadr (j := 1) dX11_shift_47 rfl ?_
          refine gX_X11_241 (t := t) ht dX11_shift_49 rfl ?_
          refine s_topi (fun z ez => ?_)
          obtain rfl : z = M.2.1 36 t := ez.trans (hP t ht).1
          refine s_aloadr (j := 0) dX11_shift_52 rfl ?_
          refine gX_X11_241 (t := t2) ht2 dX11_shift_54 rfl ?_
          refine s_topi (fun z ez => ?_)
          obtain rfl : z = M.2.1 36 t2 := ez.trans (hP t2 ht2).1
          refine s_icmp_eq dX11_shift_57 (tgt := 63) (by decide) (fun c57 => ?_) (fun c57 => ?_)
          · refine s_aloadr (j := 0) dX11_shift_63 rfl ?_
            refine s_iload (j := 6) dX11_shift_65 rfl ?_
            refine s_aloadr (j := 1) dX11_shift_67 rfl ?_
            refine s_iload_n (j := 4) dX11_shift_69 rfl ?_
            refine s_iload (j := 7) dX11_shift_70 rfl ?_
            refine s_V4i cv_X11_294 rfl dX11_shift_72 (xg_X6 (t := t2) ht2) rfl (Nat.le_of_ble_eq_true rfl) (x_ttakes _ X M D ht ht2 hP j i m) (fun y72 h72 q72 => ?_)
            rw [(hP t ht).2.1, (hP t2 ht2).2.1] at q72; rcases q72 with ⟨h6, rfl, rfl⟩ | ⟨h6, ⟨k1, k2⟩, rfl, rfl⟩
            · skip
              refine s_if_eq dX11_shift_75 (tgt := 83) (by decide) (fun c75 => ?_) (fun c75 => ?_)
              · refine s_bipush (v := -13) dX11_shift_83 (by decide) ?_
                exact e_iret dX11_shift_85 rfl (by unfold sp_shift; rw [if_pos hp, if_pos hp2, ep, ep2, if_neg (fun z => c32 ((s_neg (hP t ht).2.2.1).mpr z)), if_pos (Int32.not_lt.mp (fun z => c41 ((s_neg (hP t2 ht2).2.2.1).mpr z))), if_pos c57]; rw [shN h6]; exact ⟨rfl, _, rfl, FT.rf X, hP⟩)
              · exact absurd rfl c75
            · skip
              refine s_if_eq dX11_shift_75 (tgt := 83) (by decide) (fun c75 => ?_) (fun c75 => ?_)
              · exact absurd c75 (by decide)
              · refine s_iload (j := 7) dX11_shift_78 rfl ?_
                refine s_goto dX11_shift_80 (tgt := 85) (by decide) ?_
                exact e_iret dX11_shift_85 rfl (by unfold sp_shift; rw [if_pos hp, if_pos hp2, ep, ep2, if_neg (fun z => c32 ((s_neg (hP t ht).2.2.1).mpr z)), if_pos (Int32.not_lt.mp (fun z => c41 ((s_neg (hP t2 ht2).2.2.1).mpr z))), if_pos c57]; rw [shY h6]; exact ⟨rfl, _, rfl, ⟨fun _ _ => rfl, rfl, rfl⟩, hP.shift ht ht2 (fun _ _ => rfl) k1 k2⟩)
          · refine s_bipush (v := -12) dX11_shift_60 (by decide) ?_
            exact e_iret dX11_shift_62 rfl (by unfold sp_shift; rw [if_pos hp, if_pos hp2, ep, ep2, if_neg (fun z => c32 ((s_neg (hP t ht).2.2.1).mpr z)), if_pos (Int32.not_lt.mp (fun z => c41 ((s_neg (hP t2 ht2).2.2.1).mpr z))), if_neg c57]; exact ⟨rfl, _, rfl, FT.rf X, hP⟩)
        · refine s_bipush (v := -11) dX11_shift_44 (by decide) ?_
          exact e_iret dX11_shift_46 rfl (by unfold sp_shift; rw [if_pos hp, if_pos hp2, ep, ep2, if_neg (fun z => c32 ((s_neg (hP t ht).2.2.1).mpr z)), if_neg (Int32.not_le.mpr ((s_neg (hP t2 ht2).2.2.1).mp c41))]; exact ⟨rfl, _, rfl, FT.rf X, hP⟩)
    · skip
      refine s_astore0 dX11_shift_12 (by decide) rfl ?_
      refine s_aloadr (j := 1) dX11_shift_14 rfl ?_
      refine s_ifnullr dX11_shift_16 ?_
      refine s_aload0 (j := 0) dX11_shift_19 rfl ?_
      refine s_ifnonnull0 dX11_shift_21 ?_
      refine s_iconst (v := -1) dX11_shift_24 (by decide) ?_
      exact e_iret dX11_shift_25 rfl (by unfold sp_shift; rw [if_pos hp, if_neg hp2]; exact ⟨rfl, _, rfl, FT.rf X, hP⟩)
  · skip
    refine s_astore0 dX11_shift_5 (by decide) rfl ?_
    refine s_aload_nr (j := 1) dX11_shift_7 rfl ?_
    refine s_iload_n (j := 4) dX11_shift_8 rfl ?_
    refine s_V1r cv_X11_237 rfl dX11_shift_9 xg_X11 rfl (Nat.le_of_ble_eq_true rfl) (x_tapeAt _ _ M D hV _) (fun y9 h9 q9 => ?_)
    rcases q9 with ⟨⟨hp2, t2, ht2, e2, rfl⟩ | ⟨hp2, rfl⟩, rfl⟩
    · skip
      refine s_astorer dX11_shift_12 (by decide) rfl ?_
      refine s_aload0 (j := 1) dX11_shift_14 rfl ?_
      refine s_ifnull0 dX11_shift_16 (tgt := 24) (by decide) ?_
      refine s_iconst (v := -1) dX11_shift_24 (by decide) ?_
      exact e_iret dX11_shift_25 rfl (by unfold sp_shift; rw [if_neg hp]; exact ⟨rfl, _, rfl, FT.rf X, hP⟩)
    · skip
      refine s_astore0 dX11_shift_12 (by decide) rfl ?_
      refine s_aload0 (j := 1) dX11_shift_14 rfl ?_
      refine s_ifnull0 dX11_shift_16 (tgt := 24) (by decide) ?_
      refine s_iconst (v := -1) dX11_shift_24 (by decide) ?_
      exact e_iret dX11_shift_25 rfl (by unfold sp_shift; rw [if_neg hp]; exact ⟨rfl, _, rfl, FT.rf X, hP⟩)

set_option maxRecDepth 100000 in
set_option maxHeartbeats 800000 in
theorem x_judge (d : Nat) (X : XZ) (M : MZ) (D : HP) (hR : SR X D 0 M) (hK : KI M) (hV : RV X) (hP : RP X M) (p j : Int32) : Con (d + 2) qX11_judge 0 0 [.ref 0, .int p, .int j] (xh X M D) (XI (sp_judge M p j) (xh X M D)) := by
  refine Con.of (by decide +kernel) (Nat.le_of_ble_eq_true rfl) ?_
  show Sem (d + 2) qX11_judge 0 0 0 [(0, .ref 0), (1, .int p), (2, .int j)] [] (xh X M D) _
  refine s_aload_nr (j := 0) dX11_judge_0 rfl ?_
  refine s_iload_n (j := 1) dX11_judge_1 rfl ?_
  refine s_V1r cv_X11_237 rfl dX11_judge_2 xg_X11 rfl (Nat.le_of_ble_eq_true rfl) (x_tapeAt _ _ M D hV _) (fun y2 h2 q2 => ?_)
  rcases q2 with ⟨⟨hp, t, ht, e, rfl⟩ | ⟨hp, rfl⟩, rfl⟩
  · skip
    refine s_astore_nr dX11_judge_5 (by decide) rfl ?_
    refine s_aload_nr (j := 0) dX11_judge_6 rfl ?_
    refine s_ifnonnullr dX11_judge_7 (tgt := 12) (by decide) ?_
    have ep : pz p = t := by rw [e]; exact pz5 _ (by omega)
    have hz4 := (bw_of (m := 4) (n := 4) (by decide) hK.1.1).nz (by decide)
    refine s_aload_nr (j := 0) dX11_judge_12 rfl ?_
    refine gX_X11_241 (t := t) ht dX11_judge_13 rfl ?_
    refine s_topi (fun z ez => ?_)
    obtain rfl : z = M.2.1 36 t := ez.trans (hP t ht).1
    refine s_iconst (v := -1) dX11_judge_16 (by decide) ?_
    refine s_icmp_eq dX11_judge_17 (tgt := 31) (by decide) (fun c17 => ?_) (fun c17 => ?_)
    · refine s_iconst (v := 0) dX11_judge_31 (by decide) ?_
      refine s_istore dX11_judge_32 (by decide) rfl ?_
      have LP : ∀ (fu : Nat) (r k : Nat), r < fu → k + r = pz (M.1 0) → jdT M p j r k = jdT M p j (pz (M.1 0)) 0 → Sem (d + 2) qX11_judge 0 0 34 [(0, .ref 0), (1, .int p), (2, .int j), (3, .ref (83 + 2 * t)), (4, .int (nI k))] [] (xh X M D) (XI (sp_judge M p j) (xh X M D)) := by
        intro fu
        induction fu with
        | zero => intro r k hm; exact absurd hm (Nat.not_lt_zero _)
        | succ fu ih =>
          intro r k hm g1 g2
          refine s_iload (j := 4) dX11_judge_34 rfl ?_
          refine s_aload_nr (j := 0) dX11_judge_36 rfl ?_
          refine gX_X11_12 dX11_judge_37 rfl ?_
          refine gX_X11_71 (w := 0) (by decide) dX11_judge_40 rfl ?_
          rw [hR.1.1]
          refine s_icmp_ge dX11_judge_43 (tgt := 101) (by decide) (fun c43 => ?_) (fun c43 => ?_)
          · obtain rfl : k = pz (M.1 0) := by have h9 : ¬ k < pz (M.1 0) := fun z => Int32.not_lt.mpr c43 (by rw [hz4.1]; exact nI_lt z (by omega)); omega
            obtain rfl : r = 0 := by omega
            refine s_bipush (v := -5) dX11_judge_101 (by decide) ?_
            exact e_iret dX11_judge_103 rfl (by unfold sp_judge; rw [if_pos hp, ep, if_pos ((s_neg (hP t ht).2.2.1).mp c17)]; rw [← g2]; exact ⟨rfl, rfl⟩)
          · have hk9 : k < pz (M.1 0) := Nat.not_le.mp fun z => c43 (by rw [hz4.1]; exact nI_le z (by omega))
            obtain ⟨r, rfl⟩ : ∃ x, r = x + 1 := ⟨r - 1, by omega⟩
            have hk4 : k < 4 := by omega
            refine s_iload_n (j := 2) dX11_judge_46 rfl ?_
            refine s_if_lt dX11_judge_47 (tgt := 63) (by decide) (fun c47 => ?_) (fun c47 => ?_)
            · refine s_bipush (v := 100) dX11_judge_63 (by decide) ?_
              refine s_iload (j := 4) dX11_judge_65 rfl ?_
              refine s_iadd dX11_judge_67 ?_
              exact e_iret dX11_judge_68 rfl (by unfold sp_judge; rw [if_pos hp, ep, if_pos ((s_neg (hP t ht).2.2.1).mp c17)]; rw [← g2, jdT, if_pos (Or.inr (Or.inl c47))]; exact ⟨rfl, rfl⟩)
            · refine s_aload_nr (j := 3) dX11_judge_50 rfl ?_
              refine s_iload_n (j := 2) dX11_judge_51 rfl ?_
              refine s_i2l dX11_judge_52 ?_
              refine s_iload (j := 4) dX11_judge_53 rfl ?_
              refine s_i2l dX11_judge_55 ?_
              refine s_ladd dX11_judge_56 ?_
              refine s_V1i cv_X11_244 rfl dX11_judge_57 (xg_X6 (t := t) ht) rfl (Nat.le_of_ble_eq_true rfl) (x_has _ X M D ht _) (fun y57 h57 q57 => ?_)
              obtain ⟨rfl, rfl⟩ := q57
              refine s_if_ne dX11_judge_60 (tgt := 69) (by decide) (fun c60 => ?_) (fun c60 => ?_)
              · replace c60 := b2i_n0.mp c60
                rw [(hP t ht).2.1] at c60
                have hnc := jd_yes (hP t ht).2.2.2.1 (hP t ht).2.2.2.2.1 c47 hk4 c60
                have hat := jd_at ht e (hP t ht).2.2.2.1 c47 hk4 c60
                refine s_aload_nr (j := 3) dX11_judge_69 rfl ?_
                refine s_iload_n (j := 2) dX11_judge_70 rfl ?_
                refine s_iload (j := 4) dX11_judge_71 rfl ?_
                refine s_iadd dX11_judge_73 ?_
                refine s_V1l cv_X11_248 rfl dX11_judge_74 (xg_X6 (t := t) ht) rfl (Nat.le_of_ble_eq_true rfl) (x_at _ X M D ht hP _) (fun y74 h74 q74 => ?_)
                obtain ⟨rfl, rfl⟩ := q74
                rw [if_pos hat.1, hat.2]
                refine s_aload_nr (j := 0) dX11_judge_77 rfl ?_
                refine gX_X11_12 dX11_judge_78 rfl ?_
                refine gX_X11_111 (w := 0) (by decide) dX11_judge_81 rfl ?_
                refine s_iload (j := 4) dX11_judge_84 rfl ?_
                refine lX_X4_served (w := 0) (by decide) dX11_judge_86 (by exact vp_in_nI (by omega) (by decide)) ?_
                rw [pz5 k (by omega), hR.2.1.2.2.1 k hk4]
                refine s_i2l dX11_judge_87 ?_
                refine s_lcmp dX11_judge_88 ?_
                refine s_if_eq dX11_judge_89 (tgt := 95) (by decide) (fun c89 => ?_) (fun c89 => ?_)
                · have heq := lgc.mp c89
                  rw [← ep] at hnc
                  refine s_iinc (j := 4) (v := _ + (1)) dX11_judge_95 rfl rfl (by decide) rfl ?_
                  refine s_goto dX11_judge_98 (tgt := 34) (by decide) ?_
                  refine s_locals [1, 2, 3, 4, 0] rfl ?_
                  simp only [nI_1]
                  exact ih r (k + 1) (by omega) (by omega) (by rw [← g2, jdT, if_neg hnc, if_pos heq])
                · have heq := fun z => c89 (lgc.mpr z)
                  rw [← ep] at hnc
                  refine s_iload (j := 4) dX11_judge_92 rfl ?_
                  exact e_iret dX11_judge_94 rfl (by unfold sp_judge; rw [if_pos hp, ep, if_pos ((s_neg (hP t ht).2.2.1).mp c17)]; rw [← g2, jdT, if_neg hnc, if_neg heq]; exact ⟨rfl, rfl⟩)
              · replace c60 := b2i_0.mp c60
                rw [(hP t ht).2.1] at c60
                refine s_bipush (v := 100) dX11_judge_63 (by decide) ?_
                refine s_iload (j := 4) dX11_judge_65 rfl ?_
                refine s_iadd dX11_judge_67 ?_
                exact e_iret dX11_judge_68 rfl (by unfold sp_judge; rw [if_pos hp, ep, if_pos ((s_neg (hP t ht).2.2.1).mp c17)]; rw [← g2, jdT, ep, if_pos (jd_no (hP t ht).2.2.2.1 (hP t ht).2.2.2.2.1 ep c47 hk4 c60)]; exact ⟨rfl, rfl⟩)
      refine s_locals [2, 3, 4, 1, 0] rfl ?_
      exact LP (pz (M.1 0) + 1) (pz (M.1 0)) 0 (Nat.lt_succ_self _) (Nat.zero_add _) rfl
    · refine s_aload_nr (j := 0) dX11_judge_20 rfl ?_
      refine gX_X11_241 (t := t) ht dX11_judge_21 rfl ?_
      refine s_topi (fun z ez => ?_)
      obtain rfl : z = M.2.1 36 t := ez.trans (hP t ht).1
      refine s_iconst (v := 1) dX11_judge_24 (by decide) ?_
      refine s_icmp_eq dX11_judge_25 (tgt := 31) (by decide) (fun c25 => ?_) (fun c25 => ?_)
      · refine s_iconst (v := 0) dX11_judge_31 (by decide) ?_
        refine s_istore dX11_judge_32 (by decide) rfl ?_
        have LP : ∀ (fu : Nat) (r k : Nat), r < fu → k + r = pz (M.1 0) → jdT M p j r k = jdT M p j (pz (M.1 0)) 0 → Sem (d + 2) qX11_judge 0 0 34 [(0, .ref 0), (1, .int p), (2, .int j), (3, .ref (83 + 2 * t)), (4, .int (nI k))] [] (xh X M D) (XI (sp_judge M p j) (xh X M D)) := by
          intro fu
          induction fu with
          | zero => intro r k hm; exact absurd hm (Nat.not_lt_zero _)
          | succ fu ih =>
            intro r k hm g1 g2
            refine s_iload (j := 4) dX11_judge_34 rfl ?_
            refine s_aload_nr (j := 0) dX11_judge_36 rfl ?_
            refine gX_X11_12 dX11_judge_37 rfl ?_
            refine gX_X11_71 (w := 0) (by decide) dX11_judge_40 rfl ?_
            rw [hR.1.1]
            refine s_icmp_ge dX11_judge_43 (tgt := 101) (by decide) (fun c43 => ?_) (fun c43 => ?_)
            · obtain rfl : k = pz (M.1 0) := by have h9 : ¬ k < pz (M.1 0) := fun z => Int32.not_lt.mpr c43 (by rw [hz4.1]; exact nI_lt z (by omega)); omega
              obtain rfl : r = 0 := by omega
              refine s_bipush (v := -5) dX11_judge_101 (by decide) ?_
              exact e_iret dX11_judge_103 rfl (by unfold sp_judge; rw [if_pos hp, ep, if_neg (fun z => c17 ((s_neg (hP t ht).2.2.1).mpr z)), if_pos c25]; rw [← g2]; exact ⟨rfl, rfl⟩)
            · have hk9 : k < pz (M.1 0) := Nat.not_le.mp fun z => c43 (by rw [hz4.1]; exact nI_le z (by omega))
              obtain ⟨r, rfl⟩ : ∃ x, r = x + 1 := ⟨r - 1, by omega⟩
              have hk4 : k < 4 := by omega
              refine s_iload_n (j := 2) dX11_judge_46 rfl ?_
              refine s_if_lt dX11_judge_47 (tgt := 63) (by decide) (fun c47 => ?_) (fun c47 => ?_)
              · refine s_bipush (v := 100) dX11_judge_63 (by decide) ?_
                refine s_iload (j := 4) dX11_judge_65 rfl ?_
                refine s_iadd dX11_judge_67 ?_
                exact e_iret dX11_judge_68 rfl (by unfold sp_judge; rw [if_pos hp, ep, if_neg (fun z => c17 ((s_neg (hP t ht).2.2.1).mpr z)), if_pos c25]; rw [← g2, jdT, if_pos (Or.inr (Or.inl c47))]; exact ⟨rfl, rfl⟩)
              · refine s_aload_nr (j := 3) dX11_judge_50 rfl ?_
                refine s_iload_n (j := 2) dX11_judge_51 rfl ?_
                refine s_i2l dX11_judge_52 ?_
                refine s_iload (j := 4) dX11_judge_53 rfl ?_
                refine s_i2l dX11_judge_55 ?_
                refine s_ladd dX11_judge_56 ?_
                refine s_V1i cv_X11_244 rfl dX11_judge_57 (xg_X6 (t := t) ht) rfl (Nat.le_of_ble_eq_true rfl) (x_has _ X M D ht _) (fun y57 h57 q57 => ?_)
                obtain ⟨rfl, rfl⟩ := q57
                refine s_if_ne dX11_judge_60 (tgt := 69) (by decide) (fun c60 => ?_) (fun c60 => ?_)
                · replace c60 := b2i_n0.mp c60
                  rw [(hP t ht).2.1] at c60
                  have hnc := jd_yes (hP t ht).2.2.2.1 (hP t ht).2.2.2.2.1 c47 hk4 c60
                  have hat := jd_at ht e (hP t ht).2.2.2.1 c47 hk4 c60
                  refine s_aload_nr (j := 3) dX11_judge_69 rfl ?_
                  refine s_iload_n (j := 2) dX11_judge_70 rfl ?_
                  refine s_iload (j := 4) dX11_judge_71 rfl ?_
                  refine s_iadd dX11_judge_73 ?_
                  refine s_V1l cv_X11_248 rfl dX11_judge_74 (xg_X6 (t := t) ht) rfl (Nat.le_of_ble_eq_true rfl) (x_at _ X M D ht hP _) (fun y74 h74 q74 => ?_)
                  obtain ⟨rfl, rfl⟩ := q74
                  rw [if_pos hat.1, hat.2]
                  refine s_aload_nr (j := 0) dX11_judge_77 rfl ?_
                  refine gX_X11_12 dX11_judge_78 rfl ?_
                  refine gX_X11_111 (w := 0) (by decide) dX11_judge_81 rfl ?_
                  refine s_iload (j := 4) dX11_judge_84 rfl ?_
                  refine lX_X4_served (w := 0) (by decide) dX11_judge_86 (by exact vp_in_nI (by omega) (by decide)) ?_
                  rw [pz5 k (by omega), hR.2.1.2.2.1 k hk4]
                  refine s_i2l dX11_judge_87 ?_
                  refine s_lcmp dX11_judge_88 ?_
                  refine s_if_eq dX11_judge_89 (tgt := 95) (by decide) (fun c89 => ?_) (fun c89 => ?_)
                  · have heq := lgc.mp c89
                    rw [← ep] at hnc
                    refine s_iinc (j := 4) (v := _ + (1)) dX11_judge_95 rfl rfl (by decide) rfl ?_
                    refine s_goto dX11_judge_98 (tgt := 34) (by decide) ?_
                    refine s_locals [1, 2, 3, 4, 0] rfl ?_
                    simp only [nI_1]
                    exact ih r (k + 1) (by omega) (by omega) (by rw [← g2, jdT, if_neg hnc, if_pos heq])
                  · have heq := fun z => c89 (lgc.mpr z)
                    rw [← ep] at hnc
                    refine s_iload (j := 4) dX11_judge_92 rfl ?_
                    exact e_iret dX11_judge_94 rfl (by unfold sp_judge; rw [if_pos hp, ep, if_neg (fun z => c17 ((s_neg (hP t ht).2.2.1).mpr z)), if_pos c25]; rw [← g2, jdT, if_neg hnc, if_neg heq]; exact ⟨rfl, rfl⟩)
                · replace c60 := b2i_0.mp c60
                  rw [(hP t ht).2.1] at c60
                  refine s_bipush (v := 100) dX11_judge_63 (by decide) ?_
                  refine s_iload (j := 4) dX11_judge_65 rfl ?_
                  refine s_iadd dX11_judge_67 ?_
                  exact e_iret dX11_judge_68 rfl (by unfold sp_judge; rw [if_pos hp, ep, if_neg (fun z => c17 ((s_neg (hP t ht).2.2.1).mpr z)), if_pos c25]; rw [← g2, jdT, ep, if_pos (jd_no (hP t ht).2.2.2.1 (hP t ht).2.2.2.2.1 ep c47 hk4 c60)]; exact ⟨rfl, rfl⟩)
        refine s_locals [2, 3, 4, 1, 0] rfl ?_
        exact LP (pz (M.1 0) + 1) (pz (M.1 0)) 0 (Nat.lt_succ_self _) (Nat.zero_add _) rfl
      · refine s_bipush (v := -12) dX11_judge_28 (by decide) ?_
        exact e_iret dX11_judge_30 rfl (by unfold sp_judge; rw [if_pos hp, ep, if_neg (fun z => c17 ((s_neg (hP t ht).2.2.1).mpr z)), if_neg c25]; exact ⟨rfl, rfl⟩)
  · skip
    refine s_astore_n0 dX11_judge_5 (by decide) rfl ?_
    refine s_aload_n0 (j := 0) dX11_judge_6 rfl ?_
    refine s_ifnonnull0 dX11_judge_7 ?_
    refine s_iconst (v := -1) dX11_judge_10 (by decide) ?_
    exact e_iret dX11_judge_11 rfl (by unfold sp_judge; rw [if_neg hp]; exact ⟨rfl, rfl⟩)
