set_option maxRecDepth 100000 in
set_option maxHeartbeats 800000 in
theorem x_game (d : Nat) (X : XZ) (M : MZ) (D : HP) (hR : SR X D 0 M) (hK : KI M) {cl : CLs} (hC : CX X M cl) (hV : RV X) (p w : Int32) : Con (d + 7) qX11_game 0 0 [.ref 0, .int p, .int w] (xh X M D) (PI fun y h => y = sp_game M cl p w ∧ ∃ X2, h = xh X2 M D ∧ FQ X X2) := by
  refine Con.of (by decide +kernel) (Nat.le_of_ble_eq_true rfl) ?_
  show Sem (d + 7) qX11_game 0 0 0 [(0, .ref 0), (1, .int p), (2, .int w)] [] (xh X M D) _
  refine s_aload_nr (j := 0) dX11_game_0 rfl ?_
  refine s_iload_n (j := 1) dX11_game_1 rfl ?_
  refine s_V1r cv_X11_83 rfl dX11_game_2 xg_X11 rfl (Nat.le_of_ble_eq_true rfl) (x_serverAt _ _ M D hR hK.1.1 _) (fun y2 h2 q2 => ?_)
  rcases q2 with ⟨⟨hp, n, rfl, hs⟩ | ⟨hp, rfl⟩, rfl⟩
  · skip
    refine s_astore_nr dX11_game_5 (by decide) rfl ?_
    refine s_aload_nr (j := 0) dX11_game_6 rfl ?_
    refine s_ifnullr dX11_game_7 ?_
    refine s_iload_n (j := 3) dX11_game_10 rfl ?_
    refine s_iconst (v := 2) dX11_game_11 (by decide) ?_
    refine s_S2i cs_X11_67 rfl dX11_game_12 (Nat.le_of_ble_eq_true rfl) (x_wC _ _ _ _ (1) (by decide)) (fun y12 h12 q12 => ?_)
    obtain ⟨rfl, rfl⟩ := q12
    refine s_if_ne dX11_game_15 (tgt := 20) (by decide) (fun c15 => ?_) (fun c15 => ?_)
    · replace c15 := b2i_n0.mp c15
      have hp4 := in4_of hK.1.1 hp
      have hw4 := (bw_of (m := 4) (n := 4) (by decide) hK.1.2.1).nz (by decide)
      have hl4 := (bw_of (m := 4) (n := 4) (by decide) hK.1.2.2).nz (by decide)
      refine s_iload_n (j := 3) dX11_game_20 rfl ?_
      refine s_if_ne dX11_game_21 (tgt := 46) (by decide) (fun c21 => ?_) (fun c21 => ?_)
      · refine s_aload_nr (j := 1) dX11_game_46 rfl ?_
        refine s_aload_nr (j := 0) dX11_game_47 rfl ?_
        refine s_iconst (v := 0) dX11_game_48 (by decide) ?_
        refine s_iconst (v := 0) dX11_game_49 (by decide) ?_
        refine s_V3i cv_X11_192 rfl dX11_game_50 xg_X11 rfl (Nat.le_of_ble_eq_true rfl) (x_gameOf _ X M D hR hK hC hV hs hp4 0 0 (by decide) (by decide)) (fun y50 h50 q50 => ?_)
        obtain ⟨rfl, X2, rfl, hq⟩ := q50
        exact e_iret dX11_game_53 rfl (by unfold sp_game; rw [if_pos hp, if_pos c15, if_neg c21]; exact ⟨rfl, _, rfl, hq⟩)
      · refine s_aload_nr (j := 1) dX11_game_24 rfl ?_
        refine s_aload_nr (j := 0) dX11_game_25 rfl ?_
        refine s_aload_nr (j := 1) dX11_game_26 rfl ?_
        refine gX_X11_12 dX11_game_27 rfl ?_
        refine gX_X11_148 (w := 0) (by decide) dX11_game_30 rfl ?_
        refine s_topi (fun z ez => ?_)
        obtain rfl : z = nI (pz (M.1 1)) := ez.trans (hR.1.2.1.trans (nI_pz hK.1.2.1.1))
        refine s_aload_nr (j := 1) dX11_game_33 rfl ?_
        refine gX_X11_12 dX11_game_34 rfl ?_
        refine gX_X11_151 (w := 0) (by decide) dX11_game_37 rfl ?_
        refine s_topi (fun z ez => ?_)
        obtain rfl : z = nI (pz (M.1 2)) := ez.trans (hR.1.2.2.1.trans (nI_pz hK.1.2.2.1))
        refine s_V3i cv_X11_192 rfl dX11_game_40 xg_X11 rfl (Nat.le_of_ble_eq_true rfl) (x_gameOf _ X M D hR hK hC hV hs hp4 _ _ hw4.2 hl4.2) (fun y40 h40 q40 => ?_)
        obtain ⟨rfl, X2, rfl, hq⟩ := q40
        refine s_goto dX11_game_43 (tgt := 53) (by decide) ?_
        exact e_iret dX11_game_53 rfl (by unfold sp_game; rw [if_pos hp, if_pos c15, if_pos c21]; exact ⟨rfl, _, rfl, hq⟩)
    · replace c15 := b2i_0.mp c15
      refine s_iconst (v := -1) dX11_game_18 (by decide) ?_
      exact e_iret dX11_game_19 rfl (by unfold sp_game; (first | rw [if_pos hp] | rw [if_neg hp] | skip); (first | rw [if_pos c15] | rw [if_neg c15] | skip); exact ⟨rfl, _, rfl, FQ.rf _⟩)
  · skip
    refine s_astore_n0 dX11_game_5 (by decide) rfl ?_
    refine s_aload_n0 (j := 0) dX11_game_6 rfl ?_
    refine s_ifnull0 dX11_game_7 (tgt := 18) (by decide) ?_
    refine s_iconst (v := -1) dX11_game_18 (by decide) ?_
    exact e_iret dX11_game_19 rfl (by unfold sp_game; (first | rw [if_pos hp] | rw [if_neg hp] | skip); exact ⟨rfl, _, rfl, FQ.rf _⟩)

set_option maxRecDepth 100000 in
set_option maxHeartbeats 800000 in
theorem x_swing (d : Nat) (X : XZ) (M : MZ) (D : HP) (hR : SR X D 0 M) (hK : KI M) {cl : CLs} (hC : CX X M cl) (hV : RV X) (p : Int32) : Con (d + 7) qX11_swing 0 0 [.ref 0, .int p] (xh X M D) (PI fun y h => y = sp_swing M cl p ∧ ∃ X2, h = xh X2 M D ∧ FQ X X2) := by
  refine Con.of (by decide +kernel) (Nat.le_of_ble_eq_true rfl) ?_
  show Sem (d + 7) qX11_swing 0 0 0 [(0, .ref 0), (1, .int p)] [] (xh X M D) _
  refine s_aload_nr (j := 0) dX11_swing_0 rfl ?_
  refine s_iload_n (j := 1) dX11_swing_1 rfl ?_
  refine s_V1r cv_X11_83 rfl dX11_swing_2 xg_X11 rfl (Nat.le_of_ble_eq_true rfl) (x_serverAt _ _ M D hR hK.1.1 _) (fun y2 h2 q2 => ?_)
  rcases q2 with ⟨⟨hp, n, rfl, hs⟩ | ⟨hp, rfl⟩, rfl⟩
  · skip
    refine s_astore_nr dX11_swing_5 (by decide) rfl ?_
    refine s_aload_nr (j := 0) dX11_swing_6 rfl ?_
    refine s_ifnonnullr dX11_swing_7 (tgt := 13) (by decide) ?_
    have hp4 := in4_of hK.1.1 hp
    have hw4 := (bw_of (m := 4) (n := 4) (by decide) hK.1.2.1).nz (by decide)
    have hl4 := (bw_of (m := 4) (n := 4) (by decide) hK.1.2.2).nz (by decide)
    refine s_aload_nr (j := 1) dX11_swing_13 rfl ?_
    refine gX_X11_12 dX11_swing_14 rfl ?_
    refine s_V0i cv_X11_163 rfl dX11_swing_17 (xg_X4 (w := 0) (by decide)) rfl (Nat.le_of_ble_eq_true rfl) (x_isOver _ X M D (w := 0) (by decide) hR hK) (fun y17 h17 q17 => ?_)
    obtain ⟨rfl, rfl⟩ := q17
    refine s_if_eq dX11_swing_20 (tgt := 25) (by decide) (fun c20 => ?_) (fun c20 => ?_)
    · replace c20 := b2i_0.mp c20
      have hw3 : pz (M.1 1) + 1 ≤ 4 := by have : ¬ pz (M.1 1) = 4 := fun z => c20 (Or.inl (by rw [hw4.1, z]; rfl)); omega
      have hl3 : pz (M.1 2) + 1 ≤ 4 := by have : ¬ pz (M.1 2) = 4 := fun z => c20 (Or.inr (by rw [hl4.1, z]; rfl)); omega
      refine s_aload_nr (j := 1) dX11_swing_25 rfl ?_
      refine s_aload_nr (j := 0) dX11_swing_26 rfl ?_
      refine s_aload_nr (j := 1) dX11_swing_27 rfl ?_
      refine gX_X11_12 dX11_swing_28 rfl ?_
      refine gX_X11_148 (w := 0) (by decide) dX11_swing_31 rfl ?_
      refine s_topi (fun z ez => ?_)
      obtain rfl : z = nI (pz (M.1 1)) := ez.trans (hR.1.2.1.trans (nI_pz hK.1.2.1.1))
      refine s_iconst (v := 1) dX11_swing_34 (by decide) ?_
      refine s_iadd dX11_swing_35 ?_
      rw [nI_1]
      refine s_aload_nr (j := 1) dX11_swing_36 rfl ?_
      refine gX_X11_12 dX11_swing_37 rfl ?_
      refine gX_X11_151 (w := 0) (by decide) dX11_swing_40 rfl ?_
      refine s_topi (fun z ez => ?_)
      obtain rfl : z = nI (pz (M.1 2)) := ez.trans (hR.1.2.2.1.trans (nI_pz hK.1.2.2.1))
      refine s_V3i cv_X11_192 rfl dX11_swing_43 xg_X11 rfl (Nat.le_of_ble_eq_true rfl) (x_gameOf _ X M D hR hK hC hV hs hp4 _ _ hw3 hl4.2) (fun y43 h43 q43 => ?_)
      obtain ⟨rfl, X2, rfl, hq⟩ := q43
      refine s_aload_nr (j := 1) dX11_swing_46 rfl ?_
      refine s_aload_nr (j := 0) dX11_swing_47 rfl ?_
      refine s_aload_nr (j := 1) dX11_swing_48 rfl ?_
      refine gX_X11_12 dX11_swing_49 rfl ?_
      refine gX_X11_148 (w := 0) (by decide) dX11_swing_52 rfl ?_
      refine s_topi (fun z ez => ?_)
      obtain rfl : z = nI (pz (M.1 1)) := ez.trans ((hq.sr (by decide) hR).1.2.1.trans (nI_pz hK.1.2.1.1))
      refine s_aload_nr (j := 1) dX11_swing_55 rfl ?_
      refine gX_X11_12 dX11_swing_56 rfl ?_
      refine gX_X11_151 (w := 0) (by decide) dX11_swing_59 rfl ?_
      refine s_topi (fun z ez => ?_)
      obtain rfl : z = nI (pz (M.1 2)) := ez.trans ((hq.sr (by decide) hR).1.2.2.1.trans (nI_pz hK.1.2.2.1))
      refine s_iconst (v := 1) dX11_swing_62 (by decide) ?_
      refine s_iadd dX11_swing_63 ?_
      rw [nI_1]
      refine s_V3i cv_X11_192 rfl dX11_swing_64 xg_X11 rfl (Nat.le_of_ble_eq_true rfl) (x_gameOf _ X2 M D (hq.sr (by decide) hR) hK (hq.cx hC) (hq.rv hV) hs hp4 _ _ hw4.2 hl3) (fun y64 h64 q64 => ?_)
      obtain ⟨rfl, X3, rfl, hq3⟩ := q64
      refine s_isub dX11_swing_67 ?_
      exact e_iret dX11_swing_68 rfl (by unfold sp_swing; (first | rw [if_pos hp] | rw [if_neg hp] | skip); (first | rw [if_pos c20] | rw [if_neg c20] | skip); exact ⟨rfl, _, rfl, hq.tr hq3⟩)
    · replace c20 := b2i_n0.mp c20
      refine s_iconst (v := 0) dX11_swing_23 (by decide) ?_
      exact e_iret dX11_swing_24 rfl (by unfold sp_swing; (first | rw [if_pos hp] | rw [if_neg hp] | skip); (first | rw [if_pos c20] | rw [if_neg c20] | skip); exact ⟨rfl, _, rfl, FQ.rf _⟩)
  · skip
    refine s_astore_n0 dX11_swing_5 (by decide) rfl ?_
    refine s_aload_n0 (j := 0) dX11_swing_6 rfl ?_
    refine s_ifnonnull0 dX11_swing_7 ?_
    refine s_ldc dX11_swing_10 rfl m785 ?_
    exact e_iret dX11_swing_12 rfl (by unfold sp_swing; (first | rw [if_pos hp] | rw [if_neg hp] | skip); exact ⟨rfl, _, rfl, FQ.rf _⟩)

set_option maxRecDepth 100000 in
set_option maxHeartbeats 800000 in
theorem x_matchOf (d : Nat) (X : XZ) (M : MZ) (D : HP) (hV : RV X) (c e : Int32) (m : Nat) (hm0 : m ≤ 4) : Con (d + 1) qX11_matchOf 0 0 [.ref 0, .int c, .int e, .int (nI m)] (xh X M D) (PI fun y h => y = mG c.toInt64 (1000000 - e).toInt64 m 0 0 ∧ ∃ X2, h = xh X2 M D ∧ FQ X X2) := by
  refine Con.of (by decide +kernel) (Nat.le_of_ble_eq_true rfl) ?_
  show Sem (d + 1) qX11_matchOf 0 0 0 [(0, .ref 0), (1, .int c), (2, .int e), (3, .int (nI m))] [] (xh X M D) _
  refine s_iload_n (j := 3) dX11_matchOf_0 rfl ?_
  refine s_istore dX11_matchOf_1 (by decide) rfl ?_
  have LP : ∀ (fu : Nat) (k : Nat) (X2 : XZ), k < fu → k ≤ m + 1 → FQ X X2 → GW X2 (mG c.toInt64 (1000000 - e).toInt64 m) 35 m 0 k → Sem (d + 1) qX11_matchOf 0 0 3 [(0, .ref 0), (1, .int c), (2, .int e), (3, .int (nI m)), (4, .int (nI k - 1))] [] (xh X2 M D) (PI fun y h => y = mG c.toInt64 (1000000 - e).toInt64 m 0 0 ∧ ∃ X2, h = xh X2 M D ∧ FQ X X2) := by
    intro fu
    induction fu with
    | zero => intro k X2 hm; exact absurd hm (Nat.not_lt_zero _)
    | succ fu ih1 =>
      intro k X2 hm1 g2 hq hT
      refine s_iload (j := 4) dX11_matchOf_3 rfl ?_
      refine s_if_lt dX11_matchOf_5 (tgt := 125) (by decide) (fun c5 => ?_) (fun c5 => ?_)
      · obtain rfl : k = 0 := by have := (nm1_lt (k := k) (a := 0) (by omega) (by omega)).mp c5; omega
        refine s_aload_nr (j := 0) dX11_matchOf_125 rfl ?_
        refine gX_X11_62 dX11_matchOf_126 rfl ?_
        refine s_iconst (v := 0) dX11_matchOf_129 (by decide) ?_
        refine lX_X11_matches dX11_matchOf_130 (by exact (by decide : ¬ ((0 : Int32) < 0 ∨ 5 ≤ (0 : Int32).toNatClampNeg))) (v := .ref (48 + 0)) ((hq.rv hV).2.2.2 0 (by decide)) ?_
        refine s_iconst (v := 0) dX11_matchOf_131 (by decide) ?_
        refine lX_matches (a := 0) (by omega) dX11_matchOf_132 (by exact (by decide : ¬ ((0 : Int32) < 0 ∨ 5 ≤ (0 : Int32).toNatClampNeg))) ?_
        exact e_iret dX11_matchOf_133 rfl (by exact ⟨hT 0 0 (by omega) (by omega) (by omega) (by omega), _, rfl, hq⟩)
      · obtain ⟨k, rfl⟩ : ∃ x, k = x + 1 := ⟨k - 1, by have : ¬ k ≤ 0 := fun z => c5 ((nm1_lt (k := k) (a := 0) (by omega) (by omega)).mpr z); omega⟩
        simp only [nI_pred]
        refine s_iload_n (j := 3) dX11_matchOf_8 rfl ?_
        refine s_istore dX11_matchOf_9 (by decide) rfl ?_
        have LQ : ∀ (fu : Nat) (j : Nat) (X2 : XZ), j < fu → j ≤ m + 1 → FQ X X2 → GV X2 (mG c.toInt64 (1000000 - e).toInt64 m) 35 m 0 k j → Sem (d + 1) qX11_matchOf 0 0 11 [(0, .ref 0), (1, .int c), (2, .int e), (3, .int (nI m)), (4, .int (nI k)), (5, .int (nI j - 1))] [] (xh X2 M D) (PI fun y h => y = mG c.toInt64 (1000000 - e).toInt64 m 0 0 ∧ ∃ X2, h = xh X2 M D ∧ FQ X X2) := by
          intro fu
          induction fu with
          | zero => intro j X2 hm; exact absurd hm (Nat.not_lt_zero _)
          | succ fu ih2 =>
            intro j X2 hm2 g4 hq hT
            refine s_iload (j := 5) dX11_matchOf_11 rfl ?_
            refine s_if_lt dX11_matchOf_13 (tgt := 119) (by decide) (fun c13 => ?_) (fun c13 => ?_)
            · refine s_iinc (j := 4) (v := _ + (-1)) dX11_matchOf_119 rfl rfl (by decide) rfl ?_
              refine s_goto dX11_matchOf_122 (tgt := 3) (by decide) ?_
              refine s_locals [1, 2, 3, 4, 0] rfl ?_
              rw [← Int32.sub_eq_add_neg]
              obtain rfl : j = 0 := by have := (nm1_lt (k := j) (a := 0) (by omega) (by omega)).mp c13; omega
              exact ih1 k _ (by omega) (by omega) hq hT.fin
            · obtain ⟨j, rfl⟩ : ∃ x, j = x + 1 := ⟨j - 1, by have : ¬ j ≤ 0 := fun z => c13 ((nm1_lt (k := j) (a := 0) (by omega) (by omega)).mpr z); omega⟩
              simp only [nI_pred]
              have hkm : k ≤ m := by omega
              have hjm : j ≤ m := by omega
              refine s_iload (j := 4) dX11_matchOf_16 rfl ?_
              refine s_iload_n (j := 3) dX11_matchOf_18 rfl ?_
              refine s_icmp_eq dX11_matchOf_19 (tgt := 28) (by decide) (fun c19 => ?_) (fun c19 => ?_)
              · refine s_aload_nr (j := 0) dX11_matchOf_28 rfl ?_
                refine gX_X11_62 dX11_matchOf_29 rfl ?_
                refine s_iload (j := 4) dX11_matchOf_32 rfl ?_
                refine lX_X11_matches dX11_matchOf_34 (by exact vp_in_nI (by omega) (by decide)) (v := .ref (48 + k)) ((by rw [pz5 _ (by omega)]; exact (hq.rv hV).2.2.2 _ (by omega))) ?_
                refine s_iload (j := 5) dX11_matchOf_35 rfl ?_
                refine s_iload (j := 4) dX11_matchOf_37 rfl ?_
                refine s_iload_n (j := 3) dX11_matchOf_39 rfl ?_
                refine s_icmp_ne dX11_matchOf_40 (tgt := 48) (by decide) (fun c40 => ?_) (fun c40 => ?_)
                · refine s_iconst (v := 0) dX11_matchOf_48 (by decide) ?_
                  have hv9 : (0 : Int32) = mG c.toInt64 (1000000 - e).toInt64 m k j := by rw [mG_s _ _ _ (show k ≤ 4 by omega) (show j ≤ 4 by omega), if_neg (fun z => c40 (by rw [z])), if_pos ((nI_eq (by omega) (by omega)).mp (by first | exact c25 | exact absurd c19 c40))]
                  · skip
                    refine sX_matches (a := k) (by omega) dX11_matchOf_49 (by exact vp_in_nI (by omega) (by decide)) ?_
                    refine s_goto dX11_matchOf_50 (tgt := 113) (by decide) ?_
                    refine s_iinc (j := 5) (v := _ + (-1)) dX11_matchOf_113 rfl rfl (by decide) rfl ?_
                    refine s_goto dX11_matchOf_116 (tgt := 11) (by decide) ?_
                    refine s_locals [1, 2, 3, 4, 5, 0] rfl ?_
                    rw [pz5 j (by omega)]
                    rw [← Int32.sub_eq_add_neg]
                    exact ih2 j _ (by omega) (by omega) (hq.pa (by omega)) (hT.put hv9)
                · refine s_ldc dX11_matchOf_43 rfl m822 ?_
                  refine s_goto dX11_matchOf_45 (tgt := 49) (by decide) ?_
                  have hv9 : (1000000 : Int32) = mG c.toInt64 (1000000 - e).toInt64 m k j := by rw [mG_s _ _ _ (show k ≤ 4 by omega) (show j ≤ 4 by omega), if_pos ((nI_eq (by omega) (by omega)).mp c40)]
                  · skip
                    refine sX_matches (a := k) (by omega) dX11_matchOf_49 (by exact vp_in_nI (by omega) (by decide)) ?_
                    refine s_goto dX11_matchOf_50 (tgt := 113) (by decide) ?_
                    refine s_iinc (j := 5) (v := _ + (-1)) dX11_matchOf_113 rfl rfl (by decide) rfl ?_
                    refine s_goto dX11_matchOf_116 (tgt := 11) (by decide) ?_
                    refine s_locals [1, 2, 3, 4, 5, 0] rfl ?_
                    rw [pz5 j (by omega)]
                    rw [← Int32.sub_eq_add_neg]
                    exact ih2 j _ (by omega) (by omega) (hq.pa (by omega)) (hT.put hv9)
              · have ek : ¬ k = m := fun z => c19 (by rw [z])
                refine s_iload (j := 5) dX11_matchOf_22 rfl ?_
                refine s_iload_n (j := 3) dX11_matchOf_24 rfl ?_
                refine s_icmp_ne dX11_matchOf_25 (tgt := 53) (by decide) (fun c25 => ?_) (fun c25 => ?_)
                · have ej : ¬ j = m := fun z => c25 (by rw [z])
                  refine s_iload (j := 4) dX11_matchOf_53 rfl ?_
                  refine s_iload (j := 5) dX11_matchOf_55 rfl ?_
                  refine s_iadd dX11_matchOf_57 ?_
                  refine s_iconst (v := 2) dX11_matchOf_58 (by decide) ?_
                  refine s_irem dX11_matchOf_59 (by decide) ?_
                  refine s_if_ne dX11_matchOf_60 (tgt := 67) (by decide) (fun c60 => ?_) (fun c60 => ?_)
                  · refine s_ldc dX11_matchOf_67 rfl m822 ?_
                    refine s_iload_n (j := 2) dX11_matchOf_69 rfl ?_
                    refine s_isub dX11_matchOf_70 ?_
                    refine s_istore dX11_matchOf_71 (by decide) rfl ?_
                    refine s_aload_nr (j := 1) dX11_matchOf_73 rfl ?_
                    refine gX_X11_62 dX11_matchOf_74 rfl ?_
                    refine s_iload (j := 5) dX11_matchOf_77 rfl ?_
                    refine lX_X11_matches dX11_matchOf_79 (by exact vp_in_nI (by omega) (by decide)) (v := .ref (48 + k)) ((by rw [pz5 _ (by omega)]; exact (hq.rv hV).2.2.2 _ (by omega))) ?_
                    refine s_iload (j := 6) dX11_matchOf_80 rfl ?_
                    refine s_iload (j := 0) dX11_matchOf_82 rfl ?_
                    refine s_i2l dX11_matchOf_84 ?_
                    refine s_aload_nr (j := 1) dX11_matchOf_85 rfl ?_
                    refine gX_X11_62 dX11_matchOf_86 rfl ?_
                    refine s_iload (j := 5) dX11_matchOf_89 rfl ?_
                    refine s_iconst (v := 1) dX11_matchOf_91 (by decide) ?_
                    refine s_iadd dX11_matchOf_92 ?_
                    rw [nI_1]
                    refine lX_X11_matches dX11_matchOf_93 (by exact vp_in_nI (by omega) (by decide)) (v := .ref (48 + (k + 1))) ((by rw [pz5 _ (by omega)]; exact (hq.rv hV).2.2.2 _ (by omega))) ?_
                    refine s_iload (j := 6) dX11_matchOf_94 rfl ?_
                    refine lX_matches (a := (k + 1)) (by omega) dX11_matchOf_96 (by exact vp_in_nI (by omega) (by decide)) ?_
                    rw [pz5 j (by omega), hT.1 (k + 1) j (by omega) (by omega) (by omega) (by omega)]
                    refine s_aload_nr (j := 1) dX11_matchOf_97 rfl ?_
                    refine gX_X11_62 dX11_matchOf_98 rfl ?_
                    refine s_iload (j := 5) dX11_matchOf_101 rfl ?_
                    refine lX_X11_matches dX11_matchOf_103 (by exact vp_in_nI (by omega) (by decide)) (v := .ref (48 + k)) ((by rw [pz5 _ (by omega)]; exact (hq.rv hV).2.2.2 _ (by omega))) ?_
                    refine s_iload (j := 6) dX11_matchOf_104 rfl ?_
                    refine s_iconst (v := 1) dX11_matchOf_106 (by decide) ?_
                    refine s_iadd dX11_matchOf_107 ?_
                    rw [nI_1]
                    refine lX_matches (a := k) (by omega) dX11_matchOf_108 (by exact vp_in_nI (by omega) (by decide)) ?_
                    rw [pz5 (j + 1) (by omega), hT.2 (j + 1) (by omega) (by omega)]
                    refine s_S3i cs_X11_324 rfl dX11_matchOf_109 (Nat.le_of_ble_eq_true rfl) (x_mixed _ _ _ _ _) (fun y109 h109 q109 => ?_)
                    obtain ⟨rfl, rfl⟩ := q109
                    have ep : ¬ (k + j) % 2 = 0 := fun z => c60 (by rw [nI_add, show (2 : Int32) = nI 2 from rfl, nI_mod (by omega) (by decide), z]; rfl)
                    have hv9 : gmL (1000000 - e).toInt64 (mG c.toInt64 (1000000 - e).toInt64 m (k + 1) j) (mG c.toInt64 (1000000 - e).toInt64 m k (j + 1)) = mG c.toInt64 (1000000 - e).toInt64 m k j := by rw [mG_s _ _ _ (show k ≤ 4 by omega) (show j ≤ 4 by omega), if_neg ek, if_neg ej, if_neg ep]
                    · skip
                      refine sX_matches (a := k) (by omega) dX11_matchOf_112 (by exact vp_in_nI (by omega) (by decide)) ?_
                      refine s_iinc (j := 6) (v := _ + (-1)) dX11_matchOf_113 rfl rfl (by decide) rfl ?_
                      refine s_goto dX11_matchOf_116 (tgt := 11) (by decide) ?_
                      refine s_locals [2, 3, 4, 5, 6, 0] rfl ?_
                      rw [pz5 j (by omega)]
                      rw [← Int32.sub_eq_add_neg]
                      exact ih2 j _ (by omega) (by omega) (hq.pa (by omega)) (hT.put hv9)
                  · refine s_iload_n (j := 1) dX11_matchOf_63 rfl ?_
                    refine s_goto dX11_matchOf_64 (tgt := 71) (by decide) ?_
                    refine s_istore dX11_matchOf_71 (by decide) rfl ?_
                    refine s_aload_nr (j := 1) dX11_matchOf_73 rfl ?_
                    refine gX_X11_62 dX11_matchOf_74 rfl ?_
                    refine s_iload (j := 5) dX11_matchOf_77 rfl ?_
                    refine lX_X11_matches dX11_matchOf_79 (by exact vp_in_nI (by omega) (by decide)) (v := .ref (48 + k)) ((by rw [pz5 _ (by omega)]; exact (hq.rv hV).2.2.2 _ (by omega))) ?_
                    refine s_iload (j := 6) dX11_matchOf_80 rfl ?_
                    refine s_iload (j := 0) dX11_matchOf_82 rfl ?_
                    refine s_i2l dX11_matchOf_84 ?_
                    refine s_aload_nr (j := 1) dX11_matchOf_85 rfl ?_
                    refine gX_X11_62 dX11_matchOf_86 rfl ?_
                    refine s_iload (j := 5) dX11_matchOf_89 rfl ?_
                    refine s_iconst (v := 1) dX11_matchOf_91 (by decide) ?_
                    refine s_iadd dX11_matchOf_92 ?_
                    rw [nI_1]
                    refine lX_X11_matches dX11_matchOf_93 (by exact vp_in_nI (by omega) (by decide)) (v := .ref (48 + (k + 1))) ((by rw [pz5 _ (by omega)]; exact (hq.rv hV).2.2.2 _ (by omega))) ?_
                    refine s_iload (j := 6) dX11_matchOf_94 rfl ?_
                    refine lX_matches (a := (k + 1)) (by omega) dX11_matchOf_96 (by exact vp_in_nI (by omega) (by decide)) ?_
                    rw [pz5 j (by omega), hT.1 (k + 1) j (by omega) (by omega) (by omega) (by omega)]
                    refine s_aload_nr (j := 1) dX11_matchOf_97 rfl ?_
                    refine gX_X11_62 dX11_matchOf_98 rfl ?_
                    refine s_iload (j := 5) dX11_matchOf_101 rfl ?_
                    refine lX_X11_matches dX11_matchOf_103 (by exact vp_in_nI (by omega) (by decide)) (v := .ref (48 + k)) ((by rw [pz5 _ (by omega)]; exact (hq.rv hV).2.2.2 _ (by omega))) ?_
                    refine s_iload (j := 6) dX11_matchOf_104 rfl ?_
                    refine s_iconst (v := 1) dX11_matchOf_106 (by decide) ?_
                    refine s_iadd dX11_matchOf_107 ?_
                    rw [nI_1]
                    refine lX_matches (a := k) (by omega) dX11_matchOf_108 (by exact vp_in_nI (by omega) (by decide)) ?_
                    rw [pz5 (j + 1) (by omega), hT.2 (j + 1) (by omega) (by omega)]
                    refine s_S3i cs_X11_324 rfl dX11_matchOf_109 (Nat.le_of_ble_eq_true rfl) (x_mixed _ _ _ _ _) (fun y109 h109 q109 => ?_)
                    obtain ⟨rfl, rfl⟩ := q109
                    have ep : (k + j) % 2 = 0 := by rw [nI_add, show (2 : Int32) = nI 2 from rfl, nI_mod (by omega) (by decide)] at c60; exact (nI_eq (b := 0) (by omega) (by decide)).mp c60
                    have hv9 : gmL c.toInt64 (mG c.toInt64 (1000000 - e).toInt64 m (k + 1) j) (mG c.toInt64 (1000000 - e).toInt64 m k (j + 1)) = mG c.toInt64 (1000000 - e).toInt64 m k j := by rw [mG_s _ _ _ (show k ≤ 4 by omega) (show j ≤ 4 by omega), if_neg ek, if_neg ej, if_pos ep]
                    · skip
                      refine sX_matches (a := k) (by omega) dX11_matchOf_112 (by exact vp_in_nI (by omega) (by decide)) ?_
                      refine s_iinc (j := 6) (v := _ + (-1)) dX11_matchOf_113 rfl rfl (by decide) rfl ?_
                      refine s_goto dX11_matchOf_116 (tgt := 11) (by decide) ?_
                      refine s_locals [2, 3, 4, 5, 6, 0] rfl ?_
                      rw [pz5 j (by omega)]
                      rw [← Int32.sub_eq_add_neg]
                      exact ih2 j _ (by omega) (by omega) (hq.pa (by omega)) (hT.put hv9)
                · refine s_aload_nr (j := 0) dX11_matchOf_28 rfl ?_
                  refine gX_X11_62 dX11_matchOf_29 rfl ?_
                  refine s_iload (j := 4) dX11_matchOf_32 rfl ?_
                  refine lX_X11_matches dX11_matchOf_34 (by exact vp_in_nI (by omega) (by decide)) (v := .ref (48 + k)) ((by rw [pz5 _ (by omega)]; exact (hq.rv hV).2.2.2 _ (by omega))) ?_
                  refine s_iload (j := 5) dX11_matchOf_35 rfl ?_
                  refine s_iload (j := 4) dX11_matchOf_37 rfl ?_
                  refine s_iload_n (j := 3) dX11_matchOf_39 rfl ?_
                  refine s_icmp_ne dX11_matchOf_40 (tgt := 48) (by decide) (fun c40 => ?_) (fun c40 => ?_)
                  · refine s_iconst (v := 0) dX11_matchOf_48 (by decide) ?_
                    have hv9 : (0 : Int32) = mG c.toInt64 (1000000 - e).toInt64 m k j := by rw [mG_s _ _ _ (show k ≤ 4 by omega) (show j ≤ 4 by omega), if_neg (fun z => c40 (by rw [z])), if_pos ((nI_eq (by omega) (by omega)).mp (by first | exact c25 | exact absurd c19 c40))]
                    · skip
                      refine sX_matches (a := k) (by omega) dX11_matchOf_49 (by exact vp_in_nI (by omega) (by decide)) ?_
                      refine s_goto dX11_matchOf_50 (tgt := 113) (by decide) ?_
                      refine s_iinc (j := 5) (v := _ + (-1)) dX11_matchOf_113 rfl rfl (by decide) rfl ?_
                      refine s_goto dX11_matchOf_116 (tgt := 11) (by decide) ?_
                      refine s_locals [1, 2, 3, 4, 5, 0] rfl ?_
                      rw [pz5 j (by omega)]
                      rw [← Int32.sub_eq_add_neg]
                      exact ih2 j _ (by omega) (by omega) (hq.pa (by omega)) (hT.put hv9)
                  · refine s_ldc dX11_matchOf_43 rfl m822 ?_
                    refine s_goto dX11_matchOf_45 (tgt := 49) (by decide) ?_
                    have hv9 : (1000000 : Int32) = mG c.toInt64 (1000000 - e).toInt64 m k j := by rw [mG_s _ _ _ (show k ≤ 4 by omega) (show j ≤ 4 by omega), if_pos ((nI_eq (by omega) (by omega)).mp c40)]
                    · skip
                      refine sX_matches (a := k) (by omega) dX11_matchOf_49 (by exact vp_in_nI (by omega) (by decide)) ?_
                      refine s_goto dX11_matchOf_50 (tgt := 113) (by decide) ?_
                      refine s_iinc (j := 5) (v := _ + (-1)) dX11_matchOf_113 rfl rfl (by decide) rfl ?_
                      refine s_goto dX11_matchOf_116 (tgt := 11) (by decide) ?_
                      refine s_locals [1, 2, 3, 4, 5, 0] rfl ?_
                      rw [pz5 j (by omega)]
                      rw [← Int32.sub_eq_add_neg]
                      exact ih2 j _ (by omega) (by omega) (hq.pa (by omega)) (hT.put hv9)
        refine s_locals [1, 2, 3, 4, 5, 0] rfl ?_
        have e8 := LQ (m + 2) (m + 1) X2 (by omega) (by omega) hq hT.beg
        rw [nI_pred] at e8
        exact e8
  refine s_locals [1, 2, 3, 4, 0] rfl ?_
  have e8 := LP (m + 2) (m + 1) X (by omega) (by omega) (FQ.rf X) (fun a b h1 h2 => absurd h1 (by omega))
  rw [nI_pred] at e8
  exact e8

set_option maxRecDepth 100000 in
set_option maxHeartbeats 800000 in
theorem x_lowest (d : Nat) (hp : HP) (x y : Nat) (w : Int32) (hx : x < 2 ^ 31) (hy : y < 2 ^ 31) : Con (d + 1) qX11_lowest 0 0 [.long (lN x), .long (lN y), .int w] (hp) (PL fun z h => z = (if 0 < y ∧ (0 ≤ w ∧ w ≤ 1) then lwN x y w else -9223372036854775808) ∧ h = hp) := by
  refine Con.of (by decide +kernel) (Nat.le_of_ble_eq_true rfl) ?_
  show Sem (d + 1) qX11_lowest 0 0 0 [(0, .long (lN x)), (2, .long (lN y)), (4, .int w)] [] (hp) _
  refine s_lload_n (j := 1) dX11_lowest_0 rfl ?_
  refine s_lconst (v := 0) dX11_lowest_1 (by decide) ?_
  refine s_lcmp dX11_lowest_2 ?_
  refine s_if_le dX11_lowest_3 (tgt := 15) (by decide) (fun c3 => ?_) (fun c3 => ?_)
  · have hy0 : ¬ 0 < y := fun z => lg_le.mp c3 ((lN_lt (a := 0) (by decide) hy).mpr z)
    refine s_ldc2 dX11_lowest_15 rfl m860 ?_
    exact e_lret dX11_lowest_18 rfl (by exact ⟨by rw [if_neg]; exact fun z => by first | exact hy0 z.1 | exact c12 z.2, rfl⟩)
  · have hy0 : 0 < y := Nat.pos_of_ne_zero fun z => c3 (lg_le.mpr (by rw [z]; decide))
    refine s_iload (j := 2) dX11_lowest_6 rfl ?_
    refine s_iconst (v := 2) dX11_lowest_8 (by decide) ?_
    refine s_S2i cs_X11_67 rfl dX11_lowest_9 (Nat.le_of_ble_eq_true rfl) (x_wC _ _ _ _ 1 (by decide)) (fun y9 h9 q9 => ?_)
    obtain ⟨rfl, eh⟩ := q9
    rw [eh]
    refine s_if_ne dX11_lowest_12 (tgt := 19) (by decide) (fun c12 => ?_) (fun c12 => ?_)
    · replace c12 := b2i_n0.mp c12
      refine s_lload_n (j := 1) dX11_lowest_19 rfl ?_
      refine s_lstore dX11_lowest_20 (by decide) rfl ?_
      refine s_lload_n (j := 1) dX11_lowest_22 rfl ?_
      refine s_lstore dX11_lowest_23 (by decide) rfl ?_
      refine s_iconst (v := 0) dX11_lowest_25 (by decide) ?_
      refine s_istore dX11_lowest_26 (by decide) rfl ?_
      have LP : ∀ (fu : Nat) (r j u v : Nat), r < fu → j + r = 200 → u < 2 ^ 31 → v < 2 ^ 31 → 0 < u → Nat.gcd u v = Nat.gcd x y → EB u v r → Sem (d + 1) qX11_lowest 0 0 28 [(0, .long (lN x)), (2, .long (lN y)), (4, .int w), (5, .long (lN u)), (7, .long (lN v)), (9, .int (nI j))] [] (hp) (PL fun z h => z = (if 0 < y ∧ (0 ≤ w ∧ w ≤ 1) then lwN x y w else -9223372036854775808) ∧ h = hp) := by
        intro fu
        induction fu with
        | zero => intro r j u v hm; exact absurd hm (Nat.not_lt_zero _)
        | succ fu ih =>
          intro r j u v hm g1 g2 g3 g4 g5 g6
          refine s_iload (j := 5) dX11_lowest_28 rfl ?_
          refine s_sipush (v := 200) dX11_lowest_30 (by decide) ?_
          refine s_icmp_ge dX11_lowest_33 (tgt := 64) (by decide) (fun c33 => ?_) (fun c33 => ?_)
          · obtain rfl : r = 0 := by have h9 : ¬ j < 200 := fun z => absurd (nI_lt (b := 200) z (by decide)) (Int32.not_lt.mpr c33); omega
            have hv0 : v = 0 := g6.end
            subst hv0
            refine s_lload (j := 3) dX11_lowest_64 rfl ?_
            refine s_lconst (v := 0) dX11_lowest_66 (by decide) ?_
            refine s_lcmp dX11_lowest_67 ?_
            refine s_if_gt dX11_lowest_68 (tgt := 75) (by decide) (fun c68 => ?_) (fun c68 => ?_)
            · refine s_iload (j := 2) dX11_lowest_75 rfl ?_
              refine s_if_ne dX11_lowest_77 (tgt := 84) (by decide) (fun c77 => ?_) (fun c77 => ?_)
              · refine s_lload_n (j := 1) dX11_lowest_84 rfl ?_
                refine s_lload (j := 3) dX11_lowest_85 rfl ?_
                refine s_ldiv dX11_lowest_87 (fun z => absurd ((lN_eq (b := 0) g2 (by decide)).mp z) (by omega)) ?_
                exact e_lret dX11_lowest_88 rfl (by exact ⟨by rw [if_pos ⟨hy0, c12⟩, lwN, if_neg c77, ← g5, Nat.gcd_zero_right, lN_div (by assumption) g2], rfl⟩)
              · refine s_lload_n (j := 0) dX11_lowest_80 rfl ?_
                refine s_goto dX11_lowest_81 (tgt := 85) (by decide) ?_
                refine s_lload (j := 3) dX11_lowest_85 rfl ?_
                refine s_ldiv dX11_lowest_87 (fun z => absurd ((lN_eq (b := 0) g2 (by decide)).mp z) (by omega)) ?_
                exact e_lret dX11_lowest_88 rfl (by exact ⟨by rw [if_pos ⟨hy0, c12⟩, lwN, if_pos c77, ← g5, Nat.gcd_zero_right, lN_div (by assumption) g2], rfl⟩)
            · exact absurd (lg_le.mp (Int32.not_lt.mp c68)) (fun z => z ((lN_lt (a := 0) (by decide) g2).mpr g4))
          · obtain ⟨r, rfl⟩ : ∃ z, r = z + 1 := ⟨r - 1, by have h9 : j < 200 := Nat.not_le.mp fun z => c33 (nI_le (a := 200) z (by omega)); omega⟩
            refine s_lload (j := 4) dX11_lowest_36 rfl ?_
            refine s_lconst (v := 0) dX11_lowest_38 (by decide) ?_
            refine s_lcmp dX11_lowest_39 ?_
            refine s_if_eq dX11_lowest_40 (tgt := 64) (by decide) (fun c40 => ?_) (fun c40 => ?_)
            · have hv0 : v = 0 := (lN_eq (b := 0) g3 (by decide)).mp (lgc.mp c40)
              subst hv0
              refine s_lload (j := 3) dX11_lowest_64 rfl ?_
              refine s_lconst (v := 0) dX11_lowest_66 (by decide) ?_
              refine s_lcmp dX11_lowest_67 ?_
              refine s_if_gt dX11_lowest_68 (tgt := 75) (by decide) (fun c68 => ?_) (fun c68 => ?_)
              · refine s_iload (j := 2) dX11_lowest_75 rfl ?_
                refine s_if_ne dX11_lowest_77 (tgt := 84) (by decide) (fun c77 => ?_) (fun c77 => ?_)
                · refine s_lload_n (j := 1) dX11_lowest_84 rfl ?_
                  refine s_lload (j := 3) dX11_lowest_85 rfl ?_
                  refine s_ldiv dX11_lowest_87 (fun z => absurd ((lN_eq (b := 0) g2 (by decide)).mp z) (by omega)) ?_
                  exact e_lret dX11_lowest_88 rfl (by exact ⟨by rw [if_pos ⟨hy0, c12⟩, lwN, if_neg c77, ← g5, Nat.gcd_zero_right, lN_div (by assumption) g2], rfl⟩)
                · refine s_lload_n (j := 0) dX11_lowest_80 rfl ?_
                  refine s_goto dX11_lowest_81 (tgt := 85) (by decide) ?_
                  refine s_lload (j := 3) dX11_lowest_85 rfl ?_
                  refine s_ldiv dX11_lowest_87 (fun z => absurd ((lN_eq (b := 0) g2 (by decide)).mp z) (by omega)) ?_
                  exact e_lret dX11_lowest_88 rfl (by exact ⟨by rw [if_pos ⟨hy0, c12⟩, lwN, if_pos c77, ← g5, Nat.gcd_zero_right, lN_div (by assumption) g2], rfl⟩)
              · exact absurd (lg_le.mp (Int32.not_lt.mp c68)) (fun z => z ((lN_lt (a := 0) (by decide) g2).mpr g4))
            · refine s_lload (j := 3) dX11_lowest_43 rfl ?_
              refine s_lload (j := 4) dX11_lowest_45 rfl ?_
              refine s_lrem dX11_lowest_47 (fun z => c40 (lgc.mpr z)) ?_
              refine s_lstore dX11_lowest_48 (by decide) rfl ?_
              refine s_lload (j := 5) dX11_lowest_50 rfl ?_
              refine s_lstore dX11_lowest_52 (by decide) rfl ?_
              refine s_lload (j := 1) dX11_lowest_54 rfl ?_
              refine s_lstore dX11_lowest_56 (by decide) rfl ?_
              refine s_iinc (j := 6) (v := _ + (1)) dX11_lowest_58 rfl rfl (by decide) rfl ?_
              refine s_goto dX11_lowest_61 (tgt := 28) (by decide) ?_
              refine s_locals [4, 5, 6, 2, 1, 0] rfl ?_
              have h0 : ¬ v = 0 := fun z => c40 (lgc.mpr (by rw [z]; rfl))
              rw [lN_rem g2 g3]
              simp only [nI_1]
              exact ih r (j + 1) v (u % v) (by omega) (by omega) g3 (Nat.lt_of_le_of_lt (Nat.mod_le _ _) g2) (by omega) (by rw [gcd_s]; exact g5) (g6.step h0 g4)
      refine s_locals [3, 4, 5, 2, 1, 0] rfl ?_
      exact LP 201 200 0 y x (by decide) (by rfl) hy hx hy0 (Nat.gcd_comm y x) (Or.inr ⟨62, by have h9 : y * x < 2 ^ 31 * 2 ^ 31 := Nat.mul_lt_mul_of_lt_of_le hy (Nat.le_of_lt hx) (by decide); exact h9, by split <;> decide⟩)
    · replace c12 := b2i_0.mp c12
      refine s_ldc2 dX11_lowest_15 rfl m860 ?_
      exact e_lret dX11_lowest_18 rfl (by exact ⟨by rw [if_neg]; exact fun z => by first | exact hy0 z.1 | exact c12 z.2, rfl⟩)
