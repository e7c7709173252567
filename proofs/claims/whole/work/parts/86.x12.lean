set_option maxRecDepth 100000 in
set_option maxHeartbeats 800000 in
theorem x_match (d : Nat) (X : XZ) (M : MZ) (D : HP) (hR : SR X D 0 M) (hK : KI M) {cl : CLs} (hC : CX X M cl) (hV : RV X) (p q m : Int32) : Con (d + 7) qX11_match 0 0 [.ref 0, .int p, .int q, .int m] (xh X M D) (PI fun y h => y = sp_match M cl p q m ∧ ∃ X2, h = xh X2 M D ∧ FQ X X2) := by
  refine Con.of (by decide +kernel) (Nat.le_of_ble_eq_true rfl) ?_
  show Sem (d + 7) qX11_match 0 0 0 [(0, .ref 0), (1, .int p), (2, .int q), (3, .int m)] [] (xh X M D) _
  refine s_aload_nr (j := 0) dX11_match_0 rfl ?_
  refine s_iload_n (j := 1) dX11_match_1 rfl ?_
  refine s_V1r cv_X11_83 rfl dX11_match_2 xg_X11 rfl (Nat.le_of_ble_eq_true rfl) (x_serverAt _ _ M D hR hK.1.1 _) (fun y2 h2 q2 => ?_)
  rcases q2 with ⟨⟨hp, n, rfl, hs⟩ | ⟨hp, rfl⟩, rfl⟩
  · skip
    refine s_astorer dX11_match_5 (by decide) rfl ?_
    refine s_aload_nr (j := 1) dX11_match_7 rfl ?_
    refine s_iload_n (j := 3) dX11_match_8 rfl ?_
    refine s_V1r cv_X11_83 rfl dX11_match_9 xg_X11 rfl (Nat.le_of_ble_eq_true rfl) (x_serverAt _ _ M D hR hK.1.1 _) (fun y9 h9 q9 => ?_)
    rcases q9 with ⟨⟨hp2, n2, rfl, hs2⟩ | ⟨hp2, rfl⟩, rfl⟩
    · skip
      refine s_astorer dX11_match_12 (by decide) rfl ?_
      refine s_aloadr (j := 1) dX11_match_14 rfl ?_
      refine s_ifnullr dX11_match_16 ?_
      refine s_aloadr (j := 0) dX11_match_19 rfl ?_
      refine s_ifnonnullr dX11_match_21 (tgt := 26) (by decide) ?_
      refine s_iload_n (j := 3) dX11_match_26 rfl ?_
      refine s_iload_n (j := 4) dX11_match_27 rfl ?_
      refine s_icmp_eq dX11_match_28 (tgt := 41) (by decide) (fun c28 => ?_) (fun c28 => ?_)
      · refine s_bipush (v := -2) dX11_match_41 (by decide) ?_
        exact e_iret dX11_match_43 rfl (by unfold sp_match; (first | rw [if_pos hp] | rw [if_neg hp] | skip); (first | rw [if_pos hp2] | rw [if_neg hp2] | skip); (first | rw [if_pos c28] | rw [if_neg c28] | skip); exact ⟨rfl, _, rfl, FQ.rf _⟩)
      · refine s_iload_n (j := 5) dX11_match_31 rfl ?_
        refine s_iconst (v := 1) dX11_match_32 (by decide) ?_
        refine s_isub dX11_match_33 ?_
        refine s_iconst (v := 4) dX11_match_34 (by decide) ?_
        refine s_S2i cs_X11_67 rfl dX11_match_35 (Nat.le_of_ble_eq_true rfl) (x_wC _ _ _ _ (3) (by decide)) (fun y35 h35 q35 => ?_)
        obtain ⟨rfl, rfl⟩ := q35
        refine s_if_ne dX11_match_38 (tgt := 44) (by decide) (fun c38 => ?_) (fun c38 => ?_)
        · rw [b2i_c w1] at c38
          replace c38 := b2i_n0.mp c38
          have hp4 := in4_of hK.1.1 hp
          have hp42 := in4_of hK.1.1 hp2
          have hn4 := (bw_14 c38).nz (by decide)
          refine s_aload_nr (j := 2) dX11_match_44 rfl ?_
          refine s_aload_nr (j := 2) dX11_match_45 rfl ?_
          refine s_aloadr (j := 1) dX11_match_46 rfl ?_
          refine s_iconst (v := 0) dX11_match_48 (by decide) ?_
          refine s_iconst (v := 0) dX11_match_49 (by decide) ?_
          refine s_V3i cv_X11_192 rfl dX11_match_50 xg_X11 rfl (Nat.le_of_ble_eq_true rfl) (x_gameOf _ X M D hR hK hC hV hs hp4 0 0 (by decide) (by decide)) (fun y50 h50 q50 => ?_)
          obtain ⟨rfl, X2, rfl, hq⟩ := q50
          refine s_aload_nr (j := 2) dX11_match_53 rfl ?_
          refine s_aloadr (j := 0) dX11_match_54 rfl ?_
          refine s_iconst (v := 0) dX11_match_56 (by decide) ?_
          refine s_iconst (v := 0) dX11_match_57 (by decide) ?_
          refine s_V3i cv_X11_192 rfl dX11_match_58 xg_X11 rfl (Nat.le_of_ble_eq_true rfl) (x_gameOf _ X2 M D (hq.sr (by decide) hR) hK (hq.cx hC) (hq.rv hV) hs2 hp42 0 0 (by decide) (by decide)) (fun y58 h58 q58 => ?_)
          obtain ⟨rfl, X3, rfl, hq3⟩ := q58
          refine s_iload_n (j := 5) dX11_match_61 rfl ?_
          refine s_topi (fun z ez => ?_)
          obtain rfl : z = nI (pz m) := ez.trans hn4.1
          refine s_V3i cv_X11_195 rfl dX11_match_62 xg_X11 rfl (Nat.le_of_ble_eq_true rfl) (x_matchOf _ X3 M D ((hq.tr hq3).rv hV) _ _ _ hn4.2) (fun y62 h62 q62 => ?_)
          obtain ⟨rfl, X4, rfl, hq4⟩ := q62
          exact e_iret dX11_match_65 rfl (by unfold sp_match; (first | rw [if_pos hp] | rw [if_neg hp] | skip); (first | rw [if_pos hp2] | rw [if_neg hp2] | skip); (first | rw [if_pos c28] | rw [if_neg c28] | skip); (first | rw [if_pos c38] | rw [if_neg c38] | skip); exact ⟨rfl, _, rfl, (hq.tr hq3).tr hq4⟩)
        · rw [b2i_c w1] at c38
          replace c38 := b2i_0.mp c38
          refine s_bipush (v := -2) dX11_match_41 (by decide) ?_
          exact e_iret dX11_match_43 rfl (by unfold sp_match; (first | rw [if_pos hp] | rw [if_neg hp] | skip); (first | rw [if_pos hp2] | rw [if_neg hp2] | skip); (first | rw [if_pos c28] | rw [if_neg c28] | skip); (first | rw [if_pos c38] | rw [if_neg c38] | skip); exact ⟨rfl, _, rfl, FQ.rf _⟩)
    · skip
      refine s_astore0 dX11_match_12 (by decide) rfl ?_
      refine s_aloadr (j := 1) dX11_match_14 rfl ?_
      refine s_ifnullr dX11_match_16 ?_
      refine s_aload0 (j := 0) dX11_match_19 rfl ?_
      refine s_ifnonnull0 dX11_match_21 ?_
      refine s_iconst (v := -1) dX11_match_24 (by decide) ?_
      exact e_iret dX11_match_25 rfl (by unfold sp_match; (first | rw [if_pos hp] | rw [if_neg hp] | skip); (first | rw [if_pos hp2] | rw [if_neg hp2] | skip); exact ⟨rfl, _, rfl, FQ.rf _⟩)
  · skip
    refine s_astore0 dX11_match_5 (by decide) rfl ?_
    refine s_aload_nr (j := 1) dX11_match_7 rfl ?_
    refine s_iload_n (j := 3) dX11_match_8 rfl ?_
    refine s_V1r cv_X11_83 rfl dX11_match_9 xg_X11 rfl (Nat.le_of_ble_eq_true rfl) (x_serverAt _ _ M D hR hK.1.1 _) (fun y9 h9 q9 => ?_)
    rcases q9 with ⟨⟨hp2, n2, rfl, hs2⟩ | ⟨hp2, rfl⟩, rfl⟩
    · skip
      refine s_astorer dX11_match_12 (by decide) rfl ?_
      refine s_aload0 (j := 1) dX11_match_14 rfl ?_
      refine s_ifnull0 dX11_match_16 (tgt := 24) (by decide) ?_
      refine s_iconst (v := -1) dX11_match_24 (by decide) ?_
      exact e_iret dX11_match_25 rfl (by unfold sp_match; (first | rw [if_pos hp] | rw [if_neg hp] | skip); (first | rw [if_pos hp2] | rw [if_neg hp2] | skip); exact ⟨rfl, _, rfl, FQ.rf _⟩)
    · skip
      refine s_astore0 dX11_match_12 (by decide) rfl ?_
      refine s_aload0 (j := 1) dX11_match_14 rfl ?_
      refine s_ifnull0 dX11_match_16 (tgt := 24) (by decide) ?_
      refine s_iconst (v := -1) dX11_match_24 (by decide) ?_
      exact e_iret dX11_match_25 rfl (by unfold sp_match; (first | rw [if_pos hp] | rw [if_neg hp] | skip); (first | rw [if_pos hp2] | rw [if_neg hp2] | skip); exact ⟨rfl, _, rfl, FQ.rf _⟩)

set_option maxRecDepth 100000 in
set_option maxHeartbeats 800000 in
theorem x_ahead (d : Nat) (X : XZ) (M : MZ) (D : HP) (hR : SR X D 0 M) (hK : KI M) {cl : CLs} (hC : CX X M cl) (hV : RV X) (p q m : Int32) : Con (d + 7) qX11_ahead 0 0 [.ref 0, .int p, .int q, .int m] (xh X M D) (PI fun y h => y = sp_ahead M cl p q m ∧ ∃ X2, h = xh X2 M D ∧ FQ X X2) := by
  refine Con.of (by decide +kernel) (Nat.le_of_ble_eq_true rfl) ?_
  show Sem (d + 7) qX11_ahead 0 0 0 [(0, .ref 0), (1, .int p), (2, .int q), (3, .int m)] [] (xh X M D) _
  refine s_aload_nr (j := 0) dX11_ahead_0 rfl ?_
  refine s_iload_n (j := 1) dX11_ahead_1 rfl ?_
  refine s_V1r cv_X11_83 rfl dX11_ahead_2 xg_X11 rfl (Nat.le_of_ble_eq_true rfl) (x_serverAt _ _ M D hR hK.1.1 _) (fun y2 h2 q2 => ?_)
  rcases q2 with ⟨⟨hp, n, rfl, hs⟩ | ⟨hp, rfl⟩, rfl⟩
  · skip
    refine s_astorer dX11_ahead_5 (by decide) rfl ?_
    refine s_aload_nr (j := 1) dX11_ahead_7 rfl ?_
    refine s_iload_n (j := 3) dX11_ahead_8 rfl ?_
    refine s_V1r cv_X11_83 rfl dX11_ahead_9 xg_X11 rfl (Nat.le_of_ble_eq_true rfl) (x_serverAt _ _ M D hR hK.1.1 _) (fun y9 h9 q9 => ?_)
    rcases q9 with ⟨⟨hp2, n2, rfl, hs2⟩ | ⟨hp2, rfl⟩, rfl⟩
    · skip
      refine s_astorer dX11_ahead_12 (by decide) rfl ?_
      refine s_aloadr (j := 1) dX11_ahead_14 rfl ?_
      refine s_ifnullr dX11_ahead_16 ?_
      refine s_aloadr (j := 0) dX11_ahead_19 rfl ?_
      refine s_ifnonnullr dX11_ahead_21 (tgt := 27) (by decide) ?_
      refine s_iload_n (j := 3) dX11_ahead_27 rfl ?_
      refine s_iload_n (j := 4) dX11_ahead_28 rfl ?_
      refine s_icmp_eq dX11_ahead_29 (tgt := 42) (by decide) (fun c29 => ?_) (fun c29 => ?_)
      · refine s_ldc dX11_ahead_42 rfl m843 ?_
        exact e_iret dX11_ahead_44 rfl (by unfold sp_ahead; (first | rw [if_pos hp] | rw [if_neg hp] | skip); (first | rw [if_pos hp2] | rw [if_neg hp2] | skip); (first | rw [if_pos c29] | rw [if_neg c29] | skip); exact ⟨rfl, _, rfl, FQ.rf _⟩)
      · refine s_iload_n (j := 5) dX11_ahead_32 rfl ?_
        refine s_iconst (v := 1) dX11_ahead_33 (by decide) ?_
        refine s_isub dX11_ahead_34 ?_
        refine s_iconst (v := 4) dX11_ahead_35 (by decide) ?_
        refine s_S2i cs_X11_67 rfl dX11_ahead_36 (Nat.le_of_ble_eq_true rfl) (x_wC _ _ _ _ (3) (by decide)) (fun y36 h36 q36 => ?_)
        obtain ⟨rfl, rfl⟩ := q36
        refine s_if_ne dX11_ahead_39 (tgt := 45) (by decide) (fun c39 => ?_) (fun c39 => ?_)
        · rw [b2i_c w1] at c39
          replace c39 := b2i_n0.mp c39
          have hp4 := in4_of hK.1.1 hp
          have hp42 := in4_of hK.1.1 hp2
          have hn4 := (bw_14 c39).nz (by decide)
          refine s_aload_nr (j := 2) dX11_ahead_45 rfl ?_
          refine s_aloadr (j := 1) dX11_ahead_46 rfl ?_
          refine s_iconst (v := 0) dX11_ahead_48 (by decide) ?_
          refine s_iconst (v := 0) dX11_ahead_49 (by decide) ?_
          refine s_V3i cv_X11_192 rfl dX11_ahead_50 xg_X11 rfl (Nat.le_of_ble_eq_true rfl) (x_gameOf _ X M D hR hK hC hV hs hp4 0 0 (by decide) (by decide)) (fun y50 h50 q50 => ?_)
          obtain ⟨rfl, X2, rfl, hq⟩ := q50
          refine s_istore dX11_ahead_53 (by decide) rfl ?_
          refine s_aload_nr (j := 3) dX11_ahead_55 rfl ?_
          refine s_aloadr (j := 1) dX11_ahead_56 rfl ?_
          refine s_iconst (v := 0) dX11_ahead_58 (by decide) ?_
          refine s_iconst (v := 0) dX11_ahead_59 (by decide) ?_
          refine s_V3i cv_X11_192 rfl dX11_ahead_60 xg_X11 rfl (Nat.le_of_ble_eq_true rfl) (x_gameOf _ X2 M D (hq.sr (by decide) hR) hK (hq.cx hC) (hq.rv hV) hs2 hp42 0 0 (by decide) (by decide)) (fun y60 h60 q60 => ?_)
          obtain ⟨rfl, X3, rfl, hq3⟩ := q60
          refine s_istore dX11_ahead_63 (by decide) rfl ?_
          refine s_aload_nr (j := 4) dX11_ahead_65 rfl ?_
          refine s_iload (j := 1) dX11_ahead_66 rfl ?_
          refine s_iload (j := 0) dX11_ahead_68 rfl ?_
          refine s_iload_n (j := 7) dX11_ahead_70 rfl ?_
          refine s_topi (fun z ez => ?_)
          obtain rfl : z = nI (pz m) := ez.trans hn4.1
          refine s_V3i cv_X11_195 rfl dX11_ahead_71 xg_X11 rfl (Nat.le_of_ble_eq_true rfl) (x_matchOf _ X3 M D ((hq.tr hq3).rv hV) _ _ _ hn4.2) (fun y71 h71 q71 => ?_)
          obtain ⟨rfl, X4, rfl, hq4⟩ := q71
          refine s_ldc dX11_ahead_74 rfl m822 ?_
          refine s_aload_nr (j := 4) dX11_ahead_76 rfl ?_
          refine s_iload (j := 0) dX11_ahead_77 rfl ?_
          refine s_iload (j := 1) dX11_ahead_79 rfl ?_
          refine s_iload_n (j := 7) dX11_ahead_81 rfl ?_
          refine s_topi (fun z ez => ?_)
          obtain rfl : z = nI (pz m) := ez.trans hn4.1
          refine s_V3i cv_X11_195 rfl dX11_ahead_82 xg_X11 rfl (Nat.le_of_ble_eq_true rfl) (x_matchOf _ X4 M D (((hq.tr hq3).tr hq4).rv hV) _ _ _ hn4.2) (fun y82 h82 q82 => ?_)
          obtain ⟨rfl, X5, rfl, hq5⟩ := q82
          refine s_isub dX11_ahead_85 ?_
          refine s_isub dX11_ahead_86 ?_
          exact e_iret dX11_ahead_87 rfl (by unfold sp_ahead; (first | rw [if_pos hp] | rw [if_neg hp] | skip); (first | rw [if_pos hp2] | rw [if_neg hp2] | skip); (first | rw [if_pos c29] | rw [if_neg c29] | skip); (first | rw [if_pos c39] | rw [if_neg c39] | skip); exact ⟨rfl, _, rfl, ((hq.tr hq3).tr hq4).tr hq5⟩)
        · rw [b2i_c w1] at c39
          replace c39 := b2i_0.mp c39
          refine s_ldc dX11_ahead_42 rfl m843 ?_
          exact e_iret dX11_ahead_44 rfl (by unfold sp_ahead; (first | rw [if_pos hp] | rw [if_neg hp] | skip); (first | rw [if_pos hp2] | rw [if_neg hp2] | skip); (first | rw [if_pos c29] | rw [if_neg c29] | skip); (first | rw [if_pos c39] | rw [if_neg c39] | skip); exact ⟨rfl, _, rfl, FQ.rf _⟩)
    · skip
      refine s_astore0 dX11_ahead_12 (by decide) rfl ?_
      refine s_aloadr (j := 1) dX11_ahead_14 rfl ?_
      refine s_ifnullr dX11_ahead_16 ?_
      refine s_aload0 (j := 0) dX11_ahead_19 rfl ?_
      refine s_ifnonnull0 dX11_ahead_21 ?_
      refine s_ldc dX11_ahead_24 rfl m785 ?_
      exact e_iret dX11_ahead_26 rfl (by unfold sp_ahead; (first | rw [if_pos hp] | rw [if_neg hp] | skip); (first | rw [if_pos hp2] | rw [if_neg hp2] | skip); exact ⟨rfl, _, rfl, FQ.rf _⟩)
  · skip
    refine s_astore0 dX11_ahead_5 (by decide) rfl ?_
    refine s_aload_nr (j := 1) dX11_ahead_7 rfl ?_
    refine s_iload_n (j := 3) dX11_ahead_8 rfl ?_
    refine s_V1r cv_X11_83 rfl dX11_ahead_9 xg_X11 rfl (Nat.le_of_ble_eq_true rfl) (x_serverAt _ _ M D hR hK.1.1 _) (fun y9 h9 q9 => ?_)
    rcases q9 with ⟨⟨hp2, n2, rfl, hs2⟩ | ⟨hp2, rfl⟩, rfl⟩
    · skip
      refine s_astorer dX11_ahead_12 (by decide) rfl ?_
      refine s_aload0 (j := 1) dX11_ahead_14 rfl ?_
      refine s_ifnull0 dX11_ahead_16 (tgt := 24) (by decide) ?_
      refine s_ldc dX11_ahead_24 rfl m785 ?_
      exact e_iret dX11_ahead_26 rfl (by unfold sp_ahead; (first | rw [if_pos hp] | rw [if_neg hp] | skip); (first | rw [if_pos hp2] | rw [if_neg hp2] | skip); exact ⟨rfl, _, rfl, FQ.rf _⟩)
    · skip
      refine s_astore0 dX11_ahead_12 (by decide) rfl ?_
      refine s_aload0 (j := 1) dX11_ahead_14 rfl ?_
      refine s_ifnull0 dX11_ahead_16 (tgt := 24) (by decide) ?_
      refine s_ldc dX11_ahead_24 rfl m785 ?_
      exact e_iret dX11_ahead_26 rfl (by unfold sp_ahead; (first | rw [if_pos hp] | rw [if_neg hp] | skip); (first | rw [if_pos hp2] | rw [if_neg hp2] | skip); exact ⟨rfl, _, rfl, FQ.rf _⟩)

set_option maxRecDepth 100000 in
set_option maxHeartbeats 800000 in
theorem x_odds (d : Nat) (X : XZ) (M : MZ) (D : HP) (hR : SR X D 0 M) (hK : KI M) {cl : CLs} (hC : CX X M cl) (p w : Int32) : Con (d + 7) qX11_odds 0 0 [.ref 0, .int p, .int w] (xh X M D) (PL fun y h => y = sp_odds M cl p w ∧ ∃ X2, h = xh X2 M D ∧ FQ X X2) := by
  refine Con.of (by decide +kernel) (Nat.le_of_ble_eq_true rfl) ?_
  show Sem (d + 7) qX11_odds 0 0 0 [(0, .ref 0), (1, .int p), (2, .int w)] [] (xh X M D) _
  refine s_aload_nr (j := 0) dX11_odds_0 rfl ?_
  refine s_iload_n (j := 1) dX11_odds_1 rfl ?_
  refine s_V1r cv_X11_83 rfl dX11_odds_2 xg_X11 rfl (Nat.le_of_ble_eq_true rfl) (x_serverAt _ _ M D hR hK.1.1 _) (fun y2 h2 q2 => ?_)
  rcases q2 with ⟨⟨hp, n, rfl, hs⟩ | ⟨hp, rfl⟩, rfl⟩
  · skip
    refine s_astore_nr dX11_odds_5 (by decide) rfl ?_
    refine s_aload_nr (j := 0) dX11_odds_6 rfl ?_
    refine s_ifnonnullr dX11_odds_7 (tgt := 14) (by decide) ?_
    have hp4 := in4_of hK.1.1 hp
    refine s_lconst (v := 0) dX11_odds_14 (by decide) ?_
    refine s_lstore dX11_odds_15 (by decide) rfl ?_
    refine s_iconst (v := 0) dX11_odds_17 (by decide) ?_
    refine s_istore dX11_odds_18 (by decide) rfl ?_
    have LP : ∀ (fu : Nat) (r k : Nat) (X2 : XZ), r < fu → k + r = 3 → FQ X X2 → Sem (d + 7) qX11_odds 0 0 20 [(0, .ref 0), (1, .int p), (2, .int w), (3, .ref n), (4, .long (lN (odS M cl p k))), (6, .int (nI k))] [] (xh X2 M D) (PL fun y h => y = sp_odds M cl p w ∧ ∃ X2, h = xh X2 M D ∧ FQ X X2) := by
      intro fu
      induction fu with
      | zero => intro r k X2 hm; exact absurd hm (Nat.not_lt_zero _)
      | succ fu ih =>
        intro r k X2 hm g1 hq
        refine s_iload (j := 5) dX11_odds_20 rfl ?_
        refine s_iconst (v := 3) dX11_odds_22 (by decide) ?_
        refine s_icmp_ge dX11_odds_23 (tgt := 45) (by decide) (fun c23 => ?_) (fun c23 => ?_)
        · obtain rfl : k = 3 := by have h9 : ¬ k < 3 := fun z => absurd (nI_lt (b := 3) z (by omega)) (Int32.not_lt.mpr c23); omega
          obtain rfl : r = 0 := by omega
          refine s_lload (j := 4) dX11_odds_45 rfl ?_
          refine s_ldc2 dX11_odds_47 rfl m861 ?_
          refine s_topl (fun z ez => ?_)
          obtain rfl : z = lN (3 * MIL) := ez.trans (by decide)
          refine s_iload_n (j := 2) dX11_odds_50 rfl ?_
          refine s_S3l cs_X11_217 rfl dX11_odds_51 (Nat.le_of_ble_eq_true rfl) (x_lowest _ _ _ _ _ (Nat.lt_of_le_of_lt (odS_le M cl p 3) (by decide)) (by decide)) (fun y51 h51 q51 => ?_)
          obtain ⟨rfl, rfl⟩ := q51
          exact e_lret dX11_odds_54 rfl (by exact ⟨by unfold sp_odds; rw [if_pos hp]; by_cases c : 0 ≤ w ∧ w ≤ 1; (rw [if_pos c, if_pos ⟨by decide, c⟩]); (rw [if_neg c, if_neg (fun z => c z.2)]), _, rfl, hq⟩)
        · have hk9 : k < 3 := Nat.not_le.mp fun z => c23 (nI_le (a := 3) z (by omega))
          obtain ⟨r, rfl⟩ : ∃ x, r = x + 1 := ⟨r - 1, by omega⟩
          refine s_lload (j := 4) dX11_odds_26 rfl ?_
          refine s_aload_nr (j := 0) dX11_odds_28 rfl ?_
          refine s_aload_nr (j := 3) dX11_odds_29 rfl ?_
          refine s_iload (j := 5) dX11_odds_30 rfl ?_
          refine s_V2i cv_X11_189 rfl dX11_odds_32 xg_X11 rfl (Nat.le_of_ble_eq_true rfl) (x_against _ X2 M D (hq.sr (by decide) hR) hK (hq.cx hC) hs hp4 _) (fun y32 h32 q32 => ?_)
          obtain ⟨rfl, X3, rfl, hq3⟩ := q32
          refine s_i2l dX11_odds_35 ?_
          refine s_ladd dX11_odds_36 ?_
          refine s_lstore dX11_odds_37 (by decide) rfl ?_
          refine s_iinc (j := 5) (v := _ + (1)) dX11_odds_39 rfl rfl (by decide) rfl ?_
          refine s_goto dX11_odds_42 (tgt := 20) (by decide) ?_
          refine s_locals [2, 3, 4, 5, 1, 0] rfl ?_
          rw [odS_s M cl p (by omega)]
          simp only [nI_1]
          exact ih r (k + 1) _ (by omega) (by omega) (hq.tr hq3)
    refine s_locals [3, 4, 5, 2, 1, 0] rfl ?_
    exact LP 4 3 0 X (by decide) (by rfl) (FQ.rf X)
  · skip
    refine s_astore_n0 dX11_odds_5 (by decide) rfl ?_
    refine s_aload_n0 (j := 0) dX11_odds_6 rfl ?_
    refine s_ifnonnull0 dX11_odds_7 ?_
    refine s_ldc2 dX11_odds_10 rfl m860 ?_
    exact e_lret dX11_odds_13 rfl (by unfold sp_odds; rw [if_neg hp]; exact ⟨rfl, _, rfl, FQ.rf _⟩)

set_option maxRecDepth 100000 in
set_option maxHeartbeats 800000 in
theorem x_mean (d : Nat) (X : XZ) (M : MZ) (D : HP) (hR : SR X D 0 M) (hK : KI M) {cl : CLs} (hC : CX X M cl) (hV : RV X) (w : Int32) : Con (d + 7) qX11_mean 0 0 [.ref 0, .int w] (xh X M D) (PL fun y h => y = sp_mean M cl w ∧ ∃ X2, h = xh X2 M D ∧ FQ X X2) := by
  refine Con.of (by decide +kernel) (Nat.le_of_ble_eq_true rfl) ?_
  show Sem (d + 7) qX11_mean 0 0 0 [(0, .ref 0), (1, .int w)] [] (xh X M D) _
  have hz4 := (bw_of (m := 4) (n := 4) (by decide) hK.1.1).nz (by decide)
  have hw4 := (bw_of (m := 4) (n := 4) (by decide) hK.1.2.1).nz (by decide)
  have hl4 := (bw_of (m := 4) (n := 4) (by decide) hK.1.2.2).nz (by decide)
  refine s_lconst (v := 0) dX11_mean_0 (by decide) ?_
  refine s_lstore_n dX11_mean_1 (by decide) rfl ?_
  refine s_iconst (v := 0) dX11_mean_2 (by decide) ?_
  refine s_istore dX11_mean_3 (by decide) rfl ?_
  have LP : ∀ (fu : Nat) (r k : Nat) (X2 : XZ), r < fu → k + r = pz (M.1 0) → FQ X X2 → Sem (d + 7) qX11_mean 0 0 5 [(0, .ref 0), (1, .int w), (2, .long (lN (meS M cl k))), (4, .int (nI k))] [] (xh X2 M D) (PL fun y h => y = sp_mean M cl w ∧ ∃ X2, h = xh X2 M D ∧ FQ X X2) := by
    intro fu
    induction fu with
    | zero => intro r k X2 hm; exact absurd hm (Nat.not_lt_zero _)
    | succ fu ih =>
      intro r k X2 hm g1 hq
      refine s_iload (j := 3) dX11_mean_5 rfl ?_
      refine s_aload_nr (j := 0) dX11_mean_7 rfl ?_
      refine gX_X11_12 dX11_mean_8 rfl ?_
      refine gX_X11_71 (w := 0) (by decide) dX11_mean_11 rfl ?_
      rw [(hq.sr (by decide) hR).1.1]
      refine s_icmp_ge dX11_mean_14 (tgt := 60) (by decide) (fun c14 => ?_) (fun c14 => ?_)
      · obtain rfl : k = pz (M.1 0) := by have h9 : ¬ k < pz (M.1 0) := fun z => Int32.not_lt.mpr c14 (by rw [hz4.1]; exact nI_lt z (by omega)); omega
        refine s_lload_n (j := 2) dX11_mean_60 rfl ?_
        refine s_aload_nr (j := 0) dX11_mean_61 rfl ?_
        refine gX_X11_12 dX11_mean_62 rfl ?_
        refine gX_X11_71 (w := 0) (by decide) dX11_mean_65 rfl ?_
        refine s_topi (fun z ez => ?_)
        obtain rfl : z = nI (pz (M.1 0)) := ez.trans ((hq.sr (by decide) hR).1.1.trans hz4.1)
        refine s_i2l dX11_mean_68 ?_
        rw [nI_l (by omega)]
        refine s_iload_n (j := 1) dX11_mean_69 rfl ?_
        refine s_S3l cs_X11_217 rfl dX11_mean_70 (Nat.le_of_ble_eq_true rfl) (x_lowest _ _ _ _ _ (Nat.lt_of_le_of_lt (meS_le M cl _) (by have := hz4.2; have : MIL = 1000000 := rfl; have h9 : pz (M.1 0) * MIL ≤ 4 * MIL := Nat.mul_le_mul_right _ hz4.2; omega)) (by omega)) (fun y70 h70 q70 => ?_)
        obtain ⟨rfl, rfl⟩ := q70
        exact e_lret dX11_mean_73 rfl (by exact ⟨by unfold sp_mean; by_cases c : 0 ≤ w ∧ w ≤ 1; (rw [if_pos c]; by_cases c2 : M.1 0 = 0; (rw [if_pos c2, if_neg (fun z => absurd z.1 (by rw [c2]; decide))]); (rw [if_neg c2, if_pos ⟨Nat.pos_of_ne_zero fun z => c2 (by rw [hz4.1, z]; rfl), c⟩])); (rw [if_neg c, if_neg (fun z => c z.2)]), _, rfl, hq⟩)
      · have hk9 : k < pz (M.1 0) := Nat.not_le.mp fun z => c14 (by rw [hz4.1]; exact nI_le z (by omega))
        have hkS : isS M (nI k) := (isS_lt hK.1.1).mp ⟨nI_pos' (by omega), Int32.not_le.mp c14⟩
        obtain ⟨r, rfl⟩ : ∃ x, r = x + 1 := ⟨r - 1, by omega⟩
        have hp4 := in4_of hK.1.1 hkS
        refine s_aload_nr (j := 0) dX11_mean_17 rfl ?_
        refine s_iload (j := 3) dX11_mean_18 rfl ?_
        refine s_V1r cv_X11_83 rfl dX11_mean_20 xg_X11 rfl (Nat.le_of_ble_eq_true rfl) (x_serverAt _ _ M D (hq.sr (by decide) hR) hK.1.1 _) (fun y20 h20 q20 => ?_)
        rcases q20 with ⟨⟨hp, n, rfl, hs⟩ | ⟨hp, rfl⟩, rfl⟩
        · skip
          refine s_astorer dX11_mean_23 (by decide) rfl ?_
          refine s_aloadr (j := 0) dX11_mean_25 rfl ?_
          refine s_ifnullr dX11_mean_27 ?_
          refine s_lload_n (j := 3) dX11_mean_30 rfl ?_
          refine s_aload_nr (j := 1) dX11_mean_31 rfl ?_
          refine s_aloadr (j := 0) dX11_mean_32 rfl ?_
          refine s_aload_nr (j := 1) dX11_mean_34 rfl ?_
          refine gX_X11_12 dX11_mean_35 rfl ?_
          refine gX_X11_148 (w := 0) (by decide) dX11_mean_38 rfl ?_
          refine s_topi (fun z ez => ?_)
          obtain rfl : z = nI (pz (M.1 1)) := ez.trans ((hq.sr (by decide) hR).1.2.1.trans (nI_pz hK.1.2.1.1))
          refine s_aload_nr (j := 1) dX11_mean_41 rfl ?_
          refine gX_X11_12 dX11_mean_42 rfl ?_
          refine gX_X11_151 (w := 0) (by decide) dX11_mean_45 rfl ?_
          refine s_topi (fun z ez => ?_)
          obtain rfl : z = nI (pz (M.1 2)) := ez.trans ((hq.sr (by decide) hR).1.2.2.1.trans (nI_pz hK.1.2.2.1))
          refine s_V3i cv_X11_192 rfl dX11_mean_48 xg_X11 rfl (Nat.le_of_ble_eq_true rfl) (x_gameOf _ X2 M D (hq.sr (by decide) hR) hK (hq.cx hC) (hq.rv hV) hs hp4 _ _ hw4.2 hl4.2) (fun y48 h48 q48 => ?_)
          obtain ⟨rfl, X3, rfl, hq3⟩ := q48
          refine s_i2l dX11_mean_51 ?_
          refine s_ladd dX11_mean_52 ?_
          refine s_lstore_n dX11_mean_53 (by decide) rfl ?_
          refine s_iinc (j := 4) (v := _ + (1)) dX11_mean_54 rfl rfl (by decide) rfl ?_
          refine s_goto dX11_mean_57 (tgt := 5) (by decide) ?_
          refine s_locals [3, 4, 1, 0] rfl ?_
          rw [show gG M cl (nI k) (pz (M.1 1)) (pz (M.1 2)) = sGm M cl (nI k) from rfl, meS_s M cl]
          simp only [nI_1]
          exact ih r (k + 1) _ (by omega) (by omega) (hq.tr hq3)
        · exact absurd (hkS) hp
  refine s_locals [2, 3, 1, 0] rfl ?_
  exact LP (pz (M.1 0) + 1) (pz (M.1 0)) 0 X (Nat.lt_succ_self _) (Nat.zero_add _) (FQ.rf X)

set_option maxRecDepth 100000 in
set_option maxHeartbeats 800000 in
theorem x_hasSeen (d : Nat) (X : XZ) (M : MZ) (D : HP) {w : Nat} (hw : w < 3) {K : MZ} (hR : SR X D w K) (f : Int32) (h12 : K.1 12 = nI (pz (K.1 12)) ∧ pz (K.1 12) ≤ 6) : Con d qX4_hasSeen 0 0 [.ref (1 + 11 * w), .int f] (xh X M D) (XI (b2i (hsU K f (pz (K.1 12)) 0 = true)) (xh X M D)) := by
  refine Con.of (by decide +kernel) (Nat.le_of_ble_eq_true rfl) ?_
  show Sem d qX4_hasSeen 0 0 0 [(0, .ref (1 + 11 * w)), (1, .int f)] [] (xh X M D) _
  refine s_iconst (v := 0) dX4_hasSeen_0 (by decide) ?_
  refine s_istore_n dX4_hasSeen_1 (by decide) rfl ?_
  have LP : ∀ (fu : Nat) (r k : Nat), r < fu → k + r = pz (K.1 12) → hsU K f r k = hsU K f (pz (K.1 12)) 0 → Sem d qX4_hasSeen 0 0 2 [(0, .ref (1 + 11 * w)), (1, .int f), (2, .int (nI k))] [] (xh X M D) (XI (b2i (hsU K f (pz (K.1 12)) 0 = true)) (xh X M D)) := by
    intro fu
    induction fu with
    | zero => intro r k hm; exact absurd hm (Nat.not_lt_zero _)
    | succ fu ih =>
      intro r k hm g1 g2
      refine s_iload_n (j := 2) dX4_hasSeen_2 rfl ?_
      refine s_aload_nr (j := 0) dX4_hasSeen_3 rfl ?_
      refine gX_X4_74 (w := w) hw dX4_hasSeen_4 rfl ?_
      rw [hR.1.2.2.2.2.1]
      refine s_icmp_ge dX4_hasSeen_7 (tgt := 34) (by decide) (fun c7 => ?_) (fun c7 => ?_)
      · obtain rfl : r = 0 := by have h9 : ¬ k < pz (K.1 12) := fun z => Int32.not_lt.mpr c7 (by rw [h12.1]; exact nI_lt z (by omega)); omega
        refine s_iconst (v := 0) dX4_hasSeen_34 (by decide) ?_
        exact e_zret dX4_hasSeen_35 rfl (by first | rfl | exact b2i_z | decide) (by exact ⟨(b2i_f (by rw [← g2]; simp [hsU])).symm, rfl⟩)
      · have hk9 : k < pz (K.1 12) := Nat.not_le.mp fun z => c7 (by rw [h12.1]; exact nI_le z (by omega))
        obtain ⟨r, rfl⟩ : ∃ x, r = x + 1 := ⟨r - 1, by omega⟩
        refine s_iload_n (j := 2) dX4_hasSeen_10 rfl ?_
        refine s_bipush (v := 6) dX4_hasSeen_11 (by decide) ?_
        refine s_icmp_ge dX4_hasSeen_13 (tgt := 34) (by decide) (fun c13 => ?_) (fun c13 => ?_)
        · exact absurd (nI_lt (a := k) (b := 6) (by omega) (by decide)) (Int32.not_lt.mpr c13)
        · refine s_aload_nr (j := 0) dX4_hasSeen_16 rfl ?_
          refine gX_X4_34 (w := w) hw dX4_hasSeen_17 rfl ?_
          refine s_iload_n (j := 2) dX4_hasSeen_20 rfl ?_
          refine lX_X4_seen (w := w) hw dX4_hasSeen_21 (by exact vp_in_nI (by omega) (by decide)) ?_
          rw [pz5 k (by omega), hR.2.1.2.2.2.2.1 k (by omega)]
          refine s_iload_n (j := 1) dX4_hasSeen_22 rfl ?_
          refine s_icmp_ne dX4_hasSeen_23 (tgt := 28) (by decide) (fun c23 => ?_) (fun c23 => ?_)
          · refine s_iinc (j := 2) (v := _ + (1)) dX4_hasSeen_28 rfl rfl (by decide) rfl ?_
            refine s_goto dX4_hasSeen_31 (tgt := 2) (by decide) ?_
            refine s_locals [1, 2, 0] rfl ?_
            simp only [nI_1]
            exact ih r (k + 1) (by omega) (by omega) (by rw [← g2, hsU, if_neg c23])
          · refine s_iconst (v := 1) dX4_hasSeen_26 (by decide) ?_
            exact e_zret dX4_hasSeen_27 rfl (by first | rfl | exact b2i_z | decide) (by exact ⟨(b2i_t (by rw [← g2, hsU, if_pos c23])).symm, rfl⟩)
  refine s_locals [1, 2, 0] rfl ?_
  exact LP (pz (K.1 12) + 1) (pz (K.1 12)) 0 (Nat.lt_succ_self _) (Nat.zero_add _) rfl

set_option maxRecDepth 100000 in
set_option maxHeartbeats 800000 in
theorem x_who (d : Nat) (X : XZ) (M : MZ) (D : HP) (hR : SR X D 0 M) (hK : KI M) (h12 : M.1 12 = nI (pz (M.1 12)) ∧ pz (M.1 12) ≤ 6) (hrow : ∀ i, i < 16 → 0 ≤ M.2.1 5 i ∧ M.2.1 5 i ≤ 9) (hsn : ∀ j, j < 6 → (0 ≤ M.2.1 18 j ∧ M.2.1 18 j ≤ 9) ∧ (0 ≤ M.2.1 19 j ∧ M.2.1 19 j ≤ 9)) : Con (d + 3) qX11_who 0 0 [.ref 0] (xh X M D) (XI (sp_who M) (xh X M D)) := by
  refine Con.of (by decide +kernel) (Nat.le_of_ble_eq_true rfl) ?_
  show Sem (d + 3) qX11_who 0 0 0 [(0, .ref 0)] [] (xh X M D) _
  have hz4 := (bw_of (m := 4) (n := 4) (by decide) hK.1.1).nz (by decide)
  refine s_iconst (v := 0) dX11_who_0 (by decide) ?_
  refine s_istore_n dX11_who_1 (by decide) rfl ?_
  refine s_iconst (v := 0) dX11_who_2 (by decide) ?_
  refine s_istore_n dX11_who_3 (by decide) rfl ?_
  have LP : ∀ (fu : Nat) (r k : Nat), r < fu → k + r = pz (M.1 0) → Sem (d + 3) qX11_who 0 0 4 [(0, .ref 0), (1, .int (whO M (pz (M.1 12)) k)), (2, .int (nI k))] [] (xh X M D) (XI (sp_who M) (xh X M D)) := by
    intro fu
    induction fu with
    | zero => intro r k hm; exact absurd hm (Nat.not_lt_zero _)
    | succ fu ih =>
      intro r k hm g1
      refine s_iload_n (j := 2) dX11_who_4 rfl ?_
      refine s_aload_nr (j := 0) dX11_who_5 rfl ?_
      refine gX_X11_12 dX11_who_6 rfl ?_
      refine gX_X11_71 (w := 0) (by decide) dX11_who_9 rfl ?_
      rw [hR.1.1]
      refine s_icmp_ge dX11_who_12 (tgt := 66) (by decide) (fun c12 => ?_) (fun c12 => ?_)
      · obtain rfl : k = pz (M.1 0) := by have h9 : ¬ k < pz (M.1 0) := fun z => Int32.not_lt.mpr c12 (by rw [hz4.1]; exact nI_lt z (by omega)); omega
        refine s_iload_n (j := 1) dX11_who_66 rfl ?_
        exact e_iret dX11_who_67 rfl (by exact ⟨rfl, rfl⟩)
      · have hk9 : k < pz (M.1 0) := Nat.not_le.mp fun z => c12 (by rw [hz4.1]; exact nI_le z (by omega))
        have hkS : isS M (nI k) := (isS_lt hK.1.1).mp ⟨nI_pos' (by omega), Int32.not_le.mp c12⟩
        obtain ⟨r, rfl⟩ : ∃ x, r = x + 1 := ⟨r - 1, by omega⟩
        have hp4 := in4_of hK.1.1 hkS
        refine s_aload_nr (j := 0) dX11_who_15 rfl ?_
        refine s_iload_n (j := 2) dX11_who_16 rfl ?_
        refine s_V1r cv_X11_83 rfl dX11_who_17 xg_X11 rfl (Nat.le_of_ble_eq_true rfl) (x_serverAt _ _ M D hR hK.1.1 _) (fun y17 h17 q17 => ?_)
        rcases q17 with ⟨⟨hp, n, rfl, hs⟩ | ⟨hp, rfl⟩, rfl⟩
        · skip
          refine s_astore_nr dX11_who_20 (by decide) rfl ?_
          refine s_aload_nr (j := 0) dX11_who_21 rfl ?_
          refine s_ifnullr dX11_who_22 ?_
          refine s_aload_nr (j := 1) dX11_who_25 rfl ?_
          refine gX_X11_12 dX11_who_26 rfl ?_
          refine s_aload_nr (j := 0) dX11_who_29 rfl ?_
          refine s_aload_nr (j := 1) dX11_who_30 rfl ?_
          refine gX_X11_12 dX11_who_31 rfl ?_
          refine u1i_X11_114 hs dX11_who_34 rfl (Nat.le_of_ble_eq_true rfl) (x_first _ X M D (w := 0) (by decide) hR hK hs hp4) (fun y34 h34 q34 => ?_)
          obtain ⟨rfl, rfl⟩ := q34
          refine s_aload_nr (j := 0) dX11_who_37 rfl ?_
          refine s_aload_nr (j := 1) dX11_who_38 rfl ?_
          refine gX_X11_12 dX11_who_39 rfl ?_
          refine u1i_X11_118 hs dX11_who_42 rfl (Nat.le_of_ble_eq_true rfl) (x_second _ X M D (w := 0) (by decide) hR hs hp4) (fun y42 h42 q42 => ?_)
          obtain ⟨rfl, rfl⟩ := q42
          refine s_S2i cs_X11_207 rfl dX11_who_45 (Nat.le_of_ble_eq_true rfl) (x_pair _ _ _ _) (fun y45 h45 q45 => ?_)
          obtain ⟨rfl, rfl⟩ := q45
          refine s_V1i cv_X11_210 rfl dX11_who_48 (xg_X4 (w := 0) (by decide)) rfl (Nat.le_of_ble_eq_true rfl) (x_hasSeen _ X M D (w := 0) (by decide) hR _ h12) (fun y48 h48 q48 => ?_)
          obtain ⟨rfl, rfl⟩ := q48
          refine s_if_eq dX11_who_51 (tgt := 60) (by decide) (fun c51 => ?_) (fun c51 => ?_)
          · replace c51 := b2i_0.mp c51
            refine s_iinc (j := 3) (v := _ + (1)) dX11_who_60 rfl rfl (by decide) rfl ?_
            refine s_goto dX11_who_63 (tgt := 4) (by decide) ?_
            refine s_locals [2, 3, 0] rfl ?_
            simp only [nI_1]
            have e8 := ih r (k + 1) (by omega) (by omega)
            rw [whO, whI_hs hK hrow hp4 hsn _ _ h12.2, if_neg c51] at e8
            exact e8
          · replace c51 := b2i_n0.mp c51
            refine s_iload_n (j := 2) dX11_who_54 rfl ?_
            refine s_iconst (v := 1) dX11_who_55 (by decide) ?_
            refine s_iload_n (j := 3) dX11_who_56 rfl ?_
            refine s_ishl dX11_who_57 ?_
            refine s_ior dX11_who_58 ?_
            refine s_istore_n dX11_who_59 (by decide) rfl ?_
            refine s_iinc (j := 3) (v := _ + (1)) dX11_who_60 rfl rfl (by decide) rfl ?_
            refine s_goto dX11_who_63 (tgt := 4) (by decide) ?_
            refine s_locals [3, 1, 0] rfl ?_
            simp only [nI_1]
            have e8 := ih r (k + 1) (by omega) (by omega)
            rw [whO, whI_hs hK hrow hp4 hsn _ _ h12.2, if_pos c51] at e8
            exact e8
        · exact absurd (hkS) hp
  refine s_locals [2, 1, 0] rfl ?_
  exact LP (pz (M.1 0) + 1) (pz (M.1 0)) 0 (Nat.lt_succ_self _) (Nat.zero_add _)

set_option maxRecDepth 100000 in
set_option maxHeartbeats 800000 in
theorem x_looked (d : Nat) (X : XZ) (M : MZ) (D : HP) (hR : SR X D 0 M) (hK : KI M) {cl : CLs} (hC : CX X M cl) (h13 : M.1 13 = nI (pz (M.1 13)) ∧ pz (M.1 13) ≤ 10) (hbk : ∀ j, j < pz (M.1 13) → isS M (M.2.1 20 j)) : Con (d + 7) qX11_looked 0 0 [.ref 0] (xh X M D) (PI fun y h => y = lkT cl M (pz (M.1 13)) 0 ∧ ∃ X2, h = xh X2 M D ∧ FQ X X2) := by
  refine Con.of (by decide +kernel) (Nat.le_of_ble_eq_true rfl) ?_
  show Sem (d + 7) qX11_looked 0 0 0 [(0, .ref 0)] [] (xh X M D) _
  refine s_aload_nr (j := 0) dX11_looked_0 rfl ?_
  refine gX_X11_21 dX11_looked_1 rfl ?_
  refine s_aload_nr (j := 0) dX11_looked_4 rfl ?_
  refine gX_X11_12 dX11_looked_5 rfl ?_
  refine s_V1v cv_X11_179 rfl dX11_looked_8 (xg_X4 (w := 2) (by decide)) rfl (Nat.le_of_ble_eq_true rfl) (x_takeFrom _ X M D (w := 2) (u := 0) (by decide) (by decide) (by decide) hR) (fun h8 q8 => ?_)
  obtain ⟨X2, rfl, hf, hR2⟩ := q8
  refine s_iconst (v := 0) dX11_looked_11 (by decide) ?_
  refine s_istore_n dX11_looked_12 (by decide) rfl ?_
  have LP : ∀ (fu : Nat) (r k : Nat) (X2 : XZ) (N : MZ), r < fu → k + r = pz (M.1 13) → FQ X X2 → SR X2 D 2 N → KI N → AG N M → lkT cl N r k = lkT cl M (pz (M.1 13)) 0 → Sem (d + 7) qX11_looked 0 0 13 [(0, .ref 0), (1, .int (nI k))] [] (xh X2 M D) (PI fun y h => y = lkT cl M (pz (M.1 13)) 0 ∧ ∃ X2, h = xh X2 M D ∧ FQ X X2) := by
    intro fu
    induction fu with
    | zero => intro r k X2 N hm; exact absurd hm (Nat.not_lt_zero _)
    | succ fu ih =>
      intro r k X2 N hm g1 hq hR2 hKN hA g6
      refine s_iload_n (j := 1) dX11_looked_13 rfl ?_
      refine s_aload_nr (j := 0) dX11_looked_14 rfl ?_
      refine gX_X11_12 dX11_looked_15 rfl ?_
      refine gX_X11_221 (w := 0) (by decide) dX11_looked_18 rfl ?_
      rw [(hq.sr (by decide) hR).1.2.2.2.2.2]
      refine s_icmp_ge dX11_looked_21 (tgt := 111) (by decide) (fun c21 => ?_) (fun c21 => ?_)
      · obtain rfl : r = 0 := by have h9 : ¬ k < pz (M.1 13) := fun z => Int32.not_lt.mpr c21 (by rw [h13.1]; exact nI_lt z (by omega)); omega
        refine s_bipush (v := -5) dX11_looked_111 (by decide) ?_
        exact e_iret dX11_looked_113 rfl (by exact ⟨by rw [← g6]; rfl, _, rfl, hq⟩)
      · have hk9 : k < pz (M.1 13) := Nat.not_le.mp fun z => c21 (by rw [h13.1]; exact nI_le z (by omega))
        obtain ⟨r, rfl⟩ : ∃ x, r = x + 1 := ⟨r - 1, by omega⟩
        refine s_iload_n (j := 1) dX11_looked_24 rfl ?_
        refine s_bipush (v := 10) dX11_looked_25 (by decide) ?_
        refine s_icmp_ge dX11_looked_27 (tgt := 111) (by decide) (fun c27 => ?_) (fun c27 => ?_)
        · exact absurd (nI_lt (a := k) (b := 10) (by omega) (by decide)) (Int32.not_lt.mpr c27)
        · refine s_aload_nr (j := 0) dX11_looked_30 rfl ?_
          refine s_aload_nr (j := 0) dX11_looked_31 rfl ?_
          refine gX_X11_12 dX11_looked_32 rfl ?_
          refine gX_X11_228 (w := 0) (by decide) dX11_looked_35 rfl ?_
          refine s_iload_n (j := 1) dX11_looked_38 rfl ?_
          refine lX_X4_bookServer (w := 0) (by decide) dX11_looked_39 (by exact vp_in_nI (by omega) (by decide)) ?_
          refine s_topi (fun z ez => ?_)
          obtain rfl : z = M.2.1 20 k := ez.trans ((by rw [pz5 k (by omega)]; exact (hq.sr (by decide) hR).2.1.2.2.2.2.2.1 k (by omega)))
          refine s_V1r cv_X11_83 rfl dX11_looked_40 xg_X11 rfl (Nat.le_of_ble_eq_true rfl) (x_serverAt _ _ M D (hq.sr (by decide) hR) hK.1.1 _) (fun y40 h40 q40 => ?_)
          rcases q40 with ⟨⟨hp, n, rfl, hs⟩ | ⟨hp, rfl⟩, rfl⟩
          · skip
            refine s_astore_nr dX11_looked_43 (by decide) rfl ?_
            refine s_aload_nr (j := 1) dX11_looked_44 rfl ?_
            refine gX_X11_21 dX11_looked_45 rfl ?_
            refine s_V0i cv_X11_163 rfl dX11_looked_48 (xg_X4 (w := 2) (by decide)) rfl (Nat.le_of_ble_eq_true rfl) (x_isOver _ X2 M D (w := 2) (by decide) hR2 hKN) (fun y48 h48 q48 => ?_)
            obtain ⟨rfl, rfl⟩ := q48
            refine s_if_eq dX11_looked_51 (tgt := 70) (by decide) (fun c51 => ?_) (fun c51 => ?_)
            · replace c51 := b2i_0.mp c51
              have hR3 : SR X2 D 2 (lkN N) := by unfold lkN; rw [if_neg c51]; exact hR2
              have hq3 : FQ X X2 := hq
              have hKL := (KI.lk hKN).1
              have hAL := hA.lk
              have hp4 := in4_of hK.1.1 hp
              have hs3 : SV D n ((lkN N).2.1 0 (pz (M.2.1 20 k))) (M.2.1 20 k) ((lkN N).2.1 1 (pz (M.2.1 20 k))) := by rw [hAL.2 0 (by decide), hAL.2 1 (by decide)]; exact hs
              · skip
                refine s_aload_nr (j := 0) dX11_looked_70 rfl ?_
                refine s_ifnullr dX11_looked_71 ?_
                refine s_aload_nr (j := 1) dX11_looked_74 rfl ?_
                refine gX_X11_21 dX11_looked_75 rfl ?_
                refine s_aload_nr (j := 0) dX11_looked_78 rfl ?_
                refine s_aload_nr (j := 1) dX11_looked_79 rfl ?_
                refine gX_X11_12 dX11_looked_80 rfl ?_
                refine gX_X11_231 (w := 0) (by decide) dX11_looked_83 rfl ?_
                refine s_iload_n (j := 2) dX11_looked_86 rfl ?_
                refine lX_X4_bookD (w := 0) (by decide) dX11_looked_87 (by exact vp_in_nI (by omega) (by decide)) ?_
                refine s_topi (fun z ez => ?_)
                obtain rfl : z = M.2.1 21 k := ez.trans ((by rw [pz5 k (by omega)]; exact (hq3.sr (by decide) hR).2.1.2.2.2.2.2.2.1 k (by omega)))
                refine s_aload_nr (j := 1) dX11_looked_88 rfl ?_
                refine gX_X11_12 dX11_looked_89 rfl ?_
                refine gX_X11_234 (w := 0) (by decide) dX11_looked_92 rfl ?_
                refine s_iload_n (j := 2) dX11_looked_95 rfl ?_
                refine lX_X4_bookE (w := 0) (by decide) dX11_looked_96 (by exact vp_in_nI (by omega) (by decide)) ?_
                refine s_topi (fun z ez => ?_)
                obtain rfl : z = M.2.1 22 k := ez.trans ((by rw [pz5 k (by omega)]; exact (hq3.sr (by decide) hR).2.1.2.2.2.2.2.2.2 k (by omega)))
                refine s_V3i cv_X11_167 rfl dX11_looked_97 (xg_X4 (w := 2) (by decide)) rfl (Nat.le_of_ble_eq_true rfl) (x_plays _ X2 M D (w := 2) (K := lkN N) (cl := cl) (by decide) hR3 hKL (hq3.cx (hC.kk (hAL.1 5 (by decide) (by decide)))) hs3 hp4 _ _) (fun y97 h97 q97 => ?_)
                obtain ⟨rfl, X4, rfl, hR4, hf4⟩ := q97
                refine s_if_ne dX11_looked_100 (tgt := 105) (by decide) (fun c100 => ?_) (fun c100 => ?_)
                · replace c100 := b2i_n0.mp c100
                  refine s_iinc (j := 2) (v := _ + (1)) dX11_looked_105 rfl rfl (by decide) rfl ?_
                  refine s_goto dX11_looked_108 (tgt := 13) (by decide) ?_
                  refine s_locals [2, 0] rfl ?_
                  rw [c100] at hR4
                  simp only [nI_1]
                  exact ih r (k + 1) _ _ (by omega) (by omega) (hq3.fx hf4) hR4 (hKL.go (KI.lk hKN).2 hp4 true) (hAL.go _ true) (by rw [← g6, lkT, hA.2 20 (by decide), hA.2 21 (by decide), hA.2 22 (by decide), if_pos c100])
                · replace c100 := b2i_0.mp c100
                  refine s_iload_n (j := 2) dX11_looked_103 rfl ?_
                  exact e_iret dX11_looked_104 rfl (by exact ⟨by rw [← g6, lkT, hA.2 20 (by decide), hA.2 21 (by decide), hA.2 22 (by decide), if_neg c100], _, rfl, hq3.fx hf4⟩)
            · replace c51 := b2i_n0.mp c51
              refine s_aload_nr (j := 1) dX11_looked_54 rfl ?_
              refine gX_X11_21 dX11_looked_55 rfl ?_
              refine s_iconst (v := 0) dX11_looked_58 (by decide) ?_
              refine pX_X11_148 (w := 2) (by decide) dX11_looked_59 rfl ?_
              refine s_aload_nr (j := 1) dX11_looked_62 rfl ?_
              refine gX_X11_21 dX11_looked_63 rfl ?_
              refine s_iconst (v := 0) dX11_looked_66 (by decide) ?_
              refine pX_X11_151 (w := 2) (by decide) dX11_looked_67 rfl ?_
              have hR3 : SR (x1 (x1 X2 (8 * 2 + 3) 0) (8 * 2 + 4) 0) D 2 (lkN N) := by unfold lkN; rw [if_pos c51]; exact (hR2.p1 (Or.inl ⟨rfl, rfl⟩)).p1 (Or.inr (Or.inl ⟨rfl, rfl⟩))
              have hq3 : FQ X (x1 (x1 X2 (8 * 2 + 3) 0) (8 * 2 + 4) 0) := hq.fx (((FX.rf X2 2).p1 (by decide)).p1 (by decide))
              have hKL := (KI.lk hKN).1
              have hAL := hA.lk
              have hp4 := in4_of hK.1.1 hp
              have hs3 : SV D n ((lkN N).2.1 0 (pz (M.2.1 20 k))) (M.2.1 20 k) ((lkN N).2.1 1 (pz (M.2.1 20 k))) := by rw [hAL.2 0 (by decide), hAL.2 1 (by decide)]; exact hs
              · skip
                refine s_aload_nr (j := 0) dX11_looked_70 rfl ?_
                refine s_ifnullr dX11_looked_71 ?_
                refine s_aload_nr (j := 1) dX11_looked_74 rfl ?_
                refine gX_X11_21 dX11_looked_75 rfl ?_
                refine s_aload_nr (j := 0) dX11_looked_78 rfl ?_
                refine s_aload_nr (j := 1) dX11_looked_79 rfl ?_
                refine gX_X11_12 dX11_looked_80 rfl ?_
                refine gX_X11_231 (w := 0) (by decide) dX11_looked_83 rfl ?_
                refine s_iload_n (j := 2) dX11_looked_86 rfl ?_
                refine lX_X4_bookD (w := 0) (by decide) dX11_looked_87 (by exact vp_in_nI (by omega) (by decide)) ?_
                refine s_topi (fun z ez => ?_)
                obtain rfl : z = M.2.1 21 k := ez.trans ((by rw [pz5 k (by omega)]; exact (hq3.sr (by decide) hR).2.1.2.2.2.2.2.2.1 k (by omega)))
                refine s_aload_nr (j := 1) dX11_looked_88 rfl ?_
                refine gX_X11_12 dX11_looked_89 rfl ?_
                refine gX_X11_234 (w := 0) (by decide) dX11_looked_92 rfl ?_
                refine s_iload_n (j := 2) dX11_looked_95 rfl ?_
                refine lX_X4_bookE (w := 0) (by decide) dX11_looked_96 (by exact vp_in_nI (by omega) (by decide)) ?_
                refine s_topi (fun z ez => ?_)
                obtain rfl : z = M.2.1 22 k := ez.trans ((by rw [pz5 k (by omega)]; exact (hq3.sr (by decide) hR).2.1.2.2.2.2.2.2.2 k (by omega)))
                refine s_V3i cv_X11_167 rfl dX11_looked_97 (xg_X4 (w := 2) (by decide)) rfl (Nat.le_of_ble_eq_true rfl) (x_plays _ (x1 (x1 X2 (8 * 2 + 3) 0) (8 * 2 + 4) 0) M D (w := 2) (K := lkN N) (cl := cl) (by decide) hR3 hKL (hq3.cx (hC.kk (hAL.1 5 (by decide) (by decide)))) hs3 hp4 _ _) (fun y97 h97 q97 => ?_)
                obtain ⟨rfl, X4, rfl, hR4, hf4⟩ := q97
                refine s_if_ne dX11_looked_100 (tgt := 105) (by decide) (fun c100 => ?_) (fun c100 => ?_)
                · replace c100 := b2i_n0.mp c100
                  refine s_iinc (j := 2) (v := _ + (1)) dX11_looked_105 rfl rfl (by decide) rfl ?_
                  refine s_goto dX11_looked_108 (tgt := 13) (by decide) ?_
                  refine s_locals [2, 0] rfl ?_
                  rw [c100] at hR4
                  simp only [nI_1]
                  exact ih r (k + 1) _ _ (by omega) (by omega) (hq3.fx hf4) hR4 (hKL.go (KI.lk hKN).2 hp4 true) (hAL.go _ true) (by rw [← g6, lkT, hA.2 20 (by decide), hA.2 21 (by decide), hA.2 22 (by decide), if_pos c100])
                · replace c100 := b2i_0.mp c100
                  refine s_iload_n (j := 2) dX11_looked_103 rfl ?_
                  exact e_iret dX11_looked_104 rfl (by exact ⟨by rw [← g6, lkT, hA.2 20 (by decide), hA.2 21 (by decide), hA.2 22 (by decide), if_neg c100], _, rfl, hq3.fx hf4⟩)
          · exact absurd (hbk k hk9) hp
  refine s_locals [1, 0] rfl ?_
  exact LP (pz (M.1 13) + 1) (pz (M.1 13)) 0 X2 M (Nat.lt_succ_self _) (Nat.zero_add _) ((FQ.rf X).fx hf) hR2 hK (AG.rf M) rfl
