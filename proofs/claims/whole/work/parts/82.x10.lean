theorem SR.q30 {X : XZ} {D : HP} {K : MZ} {j i : Nat} {v : Int32} (h : SR X D 2 K) : SR (xa X (30 + j) i v) D 2 K := by
  obtain ⟨hN, ⟨b1, b2, b3, b4, b5, b6, b7, b8⟩, hS, hC⟩ := h
  refine ⟨hN, ⟨?_, ?_, ?_, ?_, ?_, ?_, ?_, ?_⟩, hS, hC⟩ <;> rw [xa_ne (by omega)] <;> assumption

set_option maxRecDepth 100000 in
set_option maxHeartbeats 800000 in
theorem x_more (d : Nat) (X : XZ) (M : MZ) (D : HP) (hR : SR X D 0 M) (hK : KI M) {cl : CLs} (hC : CX X M cl) (p w : Int32) : Con (d + 6) qX11_more 0 0 [.ref 0, .int p, .int w] (xh X M D) (PI fun y h => y = sp_more M cl p w ∧ ∃ X2, h = xh X2 M D ∧ FQ X X2) := by
  refine Con.of (by decide +kernel) (Nat.le_of_ble_eq_true rfl) ?_
  show Sem (d + 6) qX11_more 0 0 0 [(0, .ref 0), (1, .int p), (2, .int w)] [] (xh X M D) _
  refine s_aload_nr (j := 0) dX11_more_0 rfl ?_
  refine s_iload_n (j := 1) dX11_more_1 rfl ?_
  refine s_V1r cv_X11_83 rfl dX11_more_2 xg_X11 rfl (Nat.le_of_ble_eq_true rfl) (x_serverAt _ _ M D hR hK.1.1 _) (fun y2 h2 q2 => ?_)
  rcases q2 with ⟨⟨hp, n, rfl, hs⟩ | ⟨hp, rfl⟩, rfl⟩
  · skip
    refine s_astore_nr dX11_more_5 (by decide) rfl ?_
    refine s_aload_nr (j := 0) dX11_more_6 rfl ?_
    refine s_ifnullr dX11_more_7 ?_
    refine s_iload_n (j := 3) dX11_more_10 rfl ?_
    refine s_iconst (v := 2) dX11_more_11 (by decide) ?_
    refine s_S2i cs_X11_67 rfl dX11_more_12 (Nat.le_of_ble_eq_true rfl) (x_wC _ _ _ _ (1) (by decide)) (fun y12 h12 q12 => ?_)
    obtain ⟨rfl, rfl⟩ := q12
    refine s_if_ne dX11_more_15 (tgt := 21) (by decide) (fun c15 => ?_) (fun c15 => ?_)
    · replace c15 := b2i_n0.mp c15
      have hp4 := in4_of hK.1.1 hp
      refine s_aload_nr (j := 1) dX11_more_21 rfl ?_
      refine gX_X11_21 dX11_more_22 rfl ?_
      refine s_aload_nr (j := 1) dX11_more_25 rfl ?_
      refine gX_X11_12 dX11_more_26 rfl ?_
      refine s_V1v cv_X11_179 rfl dX11_more_29 (xg_X4 (w := 2) (by decide)) rfl (Nat.le_of_ble_eq_true rfl) (x_takeFrom _ X M D (w := 2) (u := 0) (by decide) (by decide) (by decide) hR) (fun h29 q29 => ?_)
      obtain ⟨X2, rfl, hf, hR2⟩ := q29
      have hqf := (FQ.rf X).fx hf
      refine s_iload_n (j := 3) dX11_more_32 rfl ?_
      refine s_if_ne dX11_more_33 (tgt := 101) (by decide) (fun c33 => ?_) (fun c33 => ?_)
      · refine s_aload_nr (j := 1) dX11_more_101 rfl ?_
        refine gX_X11_21 dX11_more_102 rfl ?_
        refine gX_X11_111 (w := 2) (by decide) dX11_more_105 rfl ?_
        refine s_aload_nr (j := 0) dX11_more_108 rfl ?_
        refine gS_X11_105 hs dX11_more_109 rfl ?_
        refine s_iconst (v := 0) dX11_more_112 (by decide) ?_
        refine sX_X4_served (w := 2) (by decide) dX11_more_113 (by exact hp4) ?_
        refine s_aload_nr (j := 1) dX11_more_114 rfl ?_
        refine gX_X11_21 dX11_more_115 rfl ?_
        refine s_aload_nr (j := 0) dX11_more_118 rfl ?_
        refine s_V1i cv_X11_175 rfl dX11_more_119 (xg_X4 (w := 2) (by decide)) rfl (Nat.le_of_ble_eq_true rfl) (x_chanceOf _ (xa X2 (9 * 2 + 2) (pz p) 0) M D (w := 2) (K := (msa M 4 (pz p) 0)) (cl := cl) (by decide) (hR2.pa (Or.inr (Or.inr (Or.inl ⟨rfl, rfl⟩)))) (hK.pa (Or.inr (Or.inr ⟨rfl, by decide⟩))) ((hf.pa (by decide)).cx (by decide) (hC.kk rfl)) hs hp4) (fun y119 h119 q119 => ?_)
        obtain ⟨rfl, g, rfl⟩ := q119
        have hq3 : FQ X (xlt (xa X2 (9 * 2 + 2) (pz p) 0) 2 g) := ((FQ.rf X).fx ((hf.pa (by decide)).tr (FX.lt _ 2 g)))
        · skip
          refine s_aload_nr (j := 1) dX11_more_122 rfl ?_
          refine gX_X11_12 dX11_more_123 rfl ?_
          refine s_aload_nr (j := 0) dX11_more_126 rfl ?_
          refine s_V1i cv_X11_175 rfl dX11_more_127 (xg_X4 (w := 0) (by decide)) rfl (Nat.le_of_ble_eq_true rfl) (x_chanceOf _ (xlt (xa X2 (9 * 2 + 2) (pz p) 0) 2 g) M D (w := 0) (by decide) (hq3.sr (by decide) hR) hK (hq3.cx hC) hs hp4) (fun y127 h127 q127 => ?_)
          obtain ⟨rfl, g2, rfl⟩ := q127
          refine s_isub dX11_more_130 ?_
          exact e_iret dX11_more_131 rfl (by unfold sp_more; rw [if_pos hp, if_pos c15, if_neg c33]; exact ⟨rfl, _, rfl, hq3.lt0 _⟩)
      · refine s_aload_nr (j := 1) dX11_more_36 rfl ?_
        refine gX_X11_21 dX11_more_37 rfl ?_
        refine gX_X11_102 (w := 2) (by decide) dX11_more_40 rfl ?_
        refine s_aload_nr (j := 0) dX11_more_43 rfl ?_
        refine gS_X11_105 hs dX11_more_44 rfl ?_
        refine s_bipush (v := 9) dX11_more_47 (by decide) ?_
        refine s_aload_nr (j := 1) dX11_more_49 rfl ?_
        refine gX_X11_12 dX11_more_50 rfl ?_
        refine gX_X11_102 (w := 0) (by decide) dX11_more_53 rfl ?_
        refine s_aload_nr (j := 0) dX11_more_56 rfl ?_
        refine gS_X11_105 hs dX11_more_57 rfl ?_
        refine lX_X4_hard (w := 0) (by decide) dX11_more_60 (by exact hp4) ?_
        rw [show X2.2.1 (9 * 0 + 0) (pz p) = M.2.1 2 (pz p) from (hqf.sr (by decide) hR).2.1.1 _ (pz_lt hp4)]
        refine s_iconst (v := 1) dX11_more_61 (by decide) ?_
        refine s_iadd dX11_more_62 ?_
        refine s_mmin cs_X11_183 rfl dX11_more_63 (Nat.le_of_ble_eq_true rfl) ?_
        rw [mn9 (hK.2.2.1 _ (pz_lt hp4))]
        refine sX_X4_hard (w := 2) (by decide) dX11_more_66 (by exact hp4) ?_
        refine s_aload_nr (j := 1) dX11_more_67 rfl ?_
        refine gX_X11_21 dX11_more_68 rfl ?_
        refine gX_X11_108 (w := 2) (by decide) dX11_more_71 rfl ?_
        refine s_aload_nr (j := 0) dX11_more_74 rfl ?_
        refine gS_X11_105 hs dX11_more_75 rfl ?_
        refine s_bipush (v := 9) dX11_more_78 (by decide) ?_
        refine s_aload_nr (j := 1) dX11_more_80 rfl ?_
        refine gX_X11_12 dX11_more_81 rfl ?_
        refine gX_X11_108 (w := 0) (by decide) dX11_more_84 rfl ?_
        refine s_aload_nr (j := 0) dX11_more_87 rfl ?_
        refine gS_X11_105 hs dX11_more_88 rfl ?_
        refine lX_X4_soft (w := 0) (by decide) dX11_more_91 (by exact hp4) ?_
        rw [show (xa X2 (9 * 2 + 0) (pz p) (up9 (M.2.1 2 (pz p)))).2.1 (9 * 0 + 1) (pz p) = M.2.1 3 (pz p) from (hqf.sr (by decide) hR).2.1.2.1 _ (pz_lt hp4)]
        refine s_iconst (v := 1) dX11_more_92 (by decide) ?_
        refine s_iadd dX11_more_93 ?_
        refine s_mmin cs_X11_183 rfl dX11_more_94 (Nat.le_of_ble_eq_true rfl) ?_
        rw [mn9 (hK.2.2.2.1 _ (pz_lt hp4))]
        refine sX_X4_soft (w := 2) (by decide) dX11_more_97 (by exact hp4) ?_
        refine s_goto dX11_more_98 (tgt := 114) (by decide) ?_
        refine s_aload_nr (j := 1) dX11_more_114 rfl ?_
        refine gX_X11_21 dX11_more_115 rfl ?_
        refine s_aload_nr (j := 0) dX11_more_118 rfl ?_
        refine s_V1i cv_X11_175 rfl dX11_more_119 (xg_X4 (w := 2) (by decide)) rfl (Nat.le_of_ble_eq_true rfl) (x_chanceOf _ (xa (xa X2 (9 * 2 + 0) (pz p) (up9 (M.2.1 2 (pz p)))) (9 * 2 + 1) (pz p) (up9 (M.2.1 3 (pz p)))) M D (w := 2) (K := (msa (msa M 2 (pz p) (up9 (M.2.1 2 (pz p)))) 3 (pz p) (up9 (M.2.1 3 (pz p))))) (cl := cl) (by decide) ((hR2.pa (Or.inl ⟨rfl, rfl⟩)).pa (Or.inr (Or.inl ⟨rfl, rfl⟩))) ((hK.pa (Or.inl ⟨rfl, up9_in (hK.2.2.1 _ (pz_lt hp4))⟩)).pa (Or.inr (Or.inl ⟨rfl, up9_in (hK.2.2.2.1 _ (pz_lt hp4))⟩))) (((hf.pa (by decide)).pa (by decide)).cx (by decide) (hC.kk rfl)) hs hp4) (fun y119 h119 q119 => ?_)
        obtain ⟨rfl, g, rfl⟩ := q119
        have hq3 : FQ X (xlt (xa (xa X2 (9 * 2 + 0) (pz p) (up9 (M.2.1 2 (pz p)))) (9 * 2 + 1) (pz p) (up9 (M.2.1 3 (pz p)))) 2 g) := ((FQ.rf X).fx (((hf.pa (by decide)).pa (by decide)).tr (FX.lt _ 2 g)))
        · skip
          refine s_aload_nr (j := 1) dX11_more_122 rfl ?_
          refine gX_X11_12 dX11_more_123 rfl ?_
          refine s_aload_nr (j := 0) dX11_more_126 rfl ?_
          refine s_V1i cv_X11_175 rfl dX11_more_127 (xg_X4 (w := 0) (by decide)) rfl (Nat.le_of_ble_eq_true rfl) (x_chanceOf _ (xlt (xa (xa X2 (9 * 2 + 0) (pz p) (up9 (M.2.1 2 (pz p)))) (9 * 2 + 1) (pz p) (up9 (M.2.1 3 (pz p)))) 2 g) M D (w := 0) (by decide) (hq3.sr (by decide) hR) hK (hq3.cx hC) hs hp4) (fun y127 h127 q127 => ?_)
          obtain ⟨rfl, g2, rfl⟩ := q127
          refine s_isub dX11_more_130 ?_
          exact e_iret dX11_more_131 rfl (by unfold sp_more; rw [if_pos hp, if_pos c15, if_pos c33]; exact ⟨rfl, _, rfl, hq3.lt0 _⟩)
    · replace c15 := b2i_0.mp c15
      refine s_ldc dX11_more_18 rfl m785 ?_
      exact e_iret dX11_more_20 rfl (by unfold sp_more; (first | rw [if_pos hp] | rw [if_neg hp] | skip); (first | rw [if_pos c15] | rw [if_neg c15] | skip); exact ⟨rfl, _, rfl, FQ.rf _⟩)
  · skip
    refine s_astore_n0 dX11_more_5 (by decide) rfl ?_
    refine s_aload_n0 (j := 0) dX11_more_6 rfl ?_
    refine s_ifnull0 dX11_more_7 (tgt := 18) (by decide) ?_
    refine s_ldc dX11_more_18 rfl m785 ?_
    exact e_iret dX11_more_20 rfl (by unfold sp_more; (first | rw [if_pos hp] | rw [if_neg hp] | skip); exact ⟨rfl, _, rfl, FQ.rf _⟩)

set_option maxRecDepth 100000 in
set_option maxHeartbeats 800000 in
theorem x_gameOf (d : Nat) (X : XZ) (M : MZ) (D : HP) (hR : SR X D 0 M) (hK : KI M) {cl : CLs} (hC : CX X M cl) (hV : RV X) {n : Nat} {p : Int32} (hs : SV D n (M.2.1 0 (pz p)) p (M.2.1 1 (pz p))) (hp : vp_in p 4) (a0 b0 : Nat) (ha0 : a0 ≤ 4) (hb0 : b0 ≤ 4) : Con (d + 6) qX11_gameOf 0 0 [.ref 0, .ref n, .int (nI a0), .int (nI b0)] (xh X M D) (PI fun y h => y = gG M cl p a0 b0 ∧ ∃ X2, h = xh X2 M D ∧ FQ X X2) := by
  refine Con.of (by decide +kernel) (Nat.le_of_ble_eq_true rfl) ?_
  show Sem (d + 6) qX11_gameOf 0 0 0 [(0, .ref 0), (1, .ref n), (2, .int (nI a0)), (3, .int (nI b0))] [] (xh X M D) _
  refine s_aload_nr (j := 0) dX11_gameOf_0 rfl ?_
  refine gX_X11_21 dX11_gameOf_1 rfl ?_
  refine s_aload_nr (j := 0) dX11_gameOf_4 rfl ?_
  refine gX_X11_12 dX11_gameOf_5 rfl ?_
  refine s_V1v cv_X11_179 rfl dX11_gameOf_8 (xg_X4 (w := 2) (by decide)) rfl (Nat.le_of_ble_eq_true rfl) (x_takeFrom _ X M D (w := 2) (u := 0) (by decide) (by decide) (by decide) hR) (fun h8 q8 => ?_)
  obtain ⟨X2, rfl, hf, hR2⟩ := q8
  refine s_iconst (v := 4) dX11_gameOf_11 (by decide) ?_
  refine s_istore dX11_gameOf_12 (by decide) rfl ?_
  have LP : ∀ (fu : Nat) (k : Nat) (X2 : XZ) (a b : Int32), k < fu → a0 ≤ k → k ≤ 5 → FQ X X2 → SR X2 D 2 (ms1 (ms1 M 1 a) 2 b) → GW X2 (gG M cl p) 30 4 b0 k → Sem (d + 6) qX11_gameOf 0 0 14 [(0, .ref 0), (1, .ref n), (2, .int (nI a0)), (3, .int (nI b0)), (4, .int (nI k - 1))] [] (xh X2 M D) (PI fun y h => y = gG M cl p a0 b0 ∧ ∃ X2, h = xh X2 M D ∧ FQ X X2) := by
    intro fu
    induction fu with
    | zero => intro k X2 a b hm; exact absurd hm (Nat.not_lt_zero _)
    | succ fu ih1 =>
      intro k X2 a b hm1 g1 g2 hq hR2 hT
      refine s_iload (j := 4) dX11_gameOf_14 rfl ?_
      refine s_iload_n (j := 2) dX11_gameOf_16 rfl ?_
      refine s_icmp_lt dX11_gameOf_17 (tgt := 142) (by decide) (fun c17 => ?_) (fun c17 => ?_)
      · obtain rfl : k = a0 := by have := (nm1_lt (by omega) (by omega)).mp c17; omega
        refine s_aload_nr (j := 0) dX11_gameOf_142 rfl ?_
        refine gX_X11_59 dX11_gameOf_143 rfl ?_
        refine s_iload_n (j := 2) dX11_gameOf_146 rfl ?_
        refine lX_X11_games dX11_gameOf_147 (by exact vp_in_nI (by omega) (by decide)) (v := .ref (42 + k)) ((by rw [pz5 _ (by omega)]; exact (hq.rv hV).2.2.1 _ (by omega))) ?_
        refine s_iload_n (j := 3) dX11_gameOf_148 rfl ?_
        refine lX_games (a := k) (by omega) dX11_gameOf_149 (by exact vp_in_nI (by omega) (by decide)) ?_
        exact e_iret dX11_gameOf_150 rfl (by exact ⟨by rw [pz5 _ (by omega)]; exact hT k b0 (by omega) (by omega) (by omega) (by omega), _, rfl, hq⟩)
      · obtain ⟨k, rfl⟩ : ∃ x, k = x + 1 := ⟨k - 1, by have : ¬ k ≤ a0 := fun z => c17 ((nm1_lt (by omega) (by omega)).mpr z); omega⟩
        have hk0 : a0 ≤ k := by have : ¬ k + 1 ≤ a0 := fun z => c17 ((nm1_lt (by omega) (by omega)).mpr z); omega
        simp only [nI_pred]
        refine s_iconst (v := 4) dX11_gameOf_20 (by decide) ?_
        refine s_istore dX11_gameOf_21 (by decide) rfl ?_
        have LQ : ∀ (fu : Nat) (j : Nat) (X2 : XZ) (a b : Int32), j < fu → b0 ≤ j → j ≤ 5 → FQ X X2 → SR X2 D 2 (ms1 (ms1 M 1 a) 2 b) → GV X2 (gG M cl p) 30 4 b0 k j → Sem (d + 6) qX11_gameOf 0 0 23 [(0, .ref 0), (1, .ref n), (2, .int (nI a0)), (3, .int (nI b0)), (4, .int (nI k)), (5, .int (nI j - 1))] [] (xh X2 M D) (PI fun y h => y = gG M cl p a0 b0 ∧ ∃ X2, h = xh X2 M D ∧ FQ X X2) := by
          intro fu
          induction fu with
          | zero => intro j X2 a b hm; exact absurd hm (Nat.not_lt_zero _)
          | succ fu ih2 =>
            intro j X2 a b hm2 g3 g4 hq hR2 hT
            refine s_iload (j := 5) dX11_gameOf_23 rfl ?_
            refine s_iload_n (j := 3) dX11_gameOf_25 rfl ?_
            refine s_icmp_lt dX11_gameOf_26 (tgt := 136) (by decide) (fun c26 => ?_) (fun c26 => ?_)
            · refine s_iinc (j := 4) (v := _ + (-1)) dX11_gameOf_136 rfl rfl (by decide) rfl ?_
              refine s_goto dX11_gameOf_139 (tgt := 14) (by decide) ?_
              refine s_locals [1, 2, 3, 4, 0] rfl ?_
              rw [← Int32.sub_eq_add_neg]
              obtain rfl : j = b0 := by have := (nm1_lt (by omega) (by omega)).mp c26; omega
              exact ih1 k _ _ _ (by omega) (by omega) (by omega) hq hR2 hT.fin
            · obtain ⟨j, rfl⟩ : ∃ x, j = x + 1 := ⟨j - 1, by have : ¬ j ≤ b0 := fun z => c26 ((nm1_lt (by omega) (by omega)).mpr z); omega⟩
              have hj0 : b0 ≤ j := by have : ¬ j + 1 ≤ b0 := fun z => c26 ((nm1_lt (by omega) (by omega)).mpr z); omega
              simp only [nI_pred]
              have hk4 : k ≤ 4 := by omega
              have hj4 : j ≤ 4 := by omega
              refine s_iload (j := 4) dX11_gameOf_29 rfl ?_
              refine s_iconst (v := 4) dX11_gameOf_31 (by decide) ?_
              refine s_icmp_eq dX11_gameOf_32 (tgt := 41) (by decide) (fun c32 => ?_) (fun c32 => ?_)
              · refine s_aload_nr (j := 0) dX11_gameOf_41 rfl ?_
                refine gX_X11_59 dX11_gameOf_42 rfl ?_
                refine s_iload (j := 4) dX11_gameOf_45 rfl ?_
                refine lX_X11_games dX11_gameOf_47 (by exact vp_in_nI (by omega) (by decide)) (v := .ref (42 + k)) ((by rw [pz5 _ (by omega)]; exact (hq.rv hV).2.2.1 _ (by omega))) ?_
                refine s_iload (j := 5) dX11_gameOf_48 rfl ?_
                refine s_iload (j := 4) dX11_gameOf_50 rfl ?_
                refine s_iconst (v := 4) dX11_gameOf_52 (by decide) ?_
                refine s_icmp_ne dX11_gameOf_53 (tgt := 61) (by decide) (fun c53 => ?_) (fun c53 => ?_)
                · refine s_iconst (v := 0) dX11_gameOf_61 (by decide) ?_
                  have e4 : ∀ x : Nat, x ≤ 4 → nI x = 4 → x = 4 := fun x hx z => (nI_eq (by omega) (by decide)).mp (show nI x = nI 4 from z)
                  have hv9 : (0 : Int32) = gG M cl p k j := by rw [gG_s M cl p hk4 hj4, if_neg (show ¬ k = 4 from fun z => c53 (by rw [z]; rfl)), if_pos (e4 j hj4 (by first | exact c38 | exact absurd c32 c53))]
                  · skip
                    refine sX_games (a := k) (by omega) dX11_gameOf_62 (by exact vp_in_nI (by omega) (by decide)) ?_
                    refine s_goto dX11_gameOf_63 (tgt := 130) (by decide) ?_
                    refine s_iinc (j := 5) (v := _ + (-1)) dX11_gameOf_130 rfl rfl (by decide) rfl ?_
                    refine s_goto dX11_gameOf_133 (tgt := 23) (by decide) ?_
                    refine s_locals [1, 2, 3, 4, 5, 0] rfl ?_
                    rw [pz5 j (by omega)]
                    rw [← Int32.sub_eq_add_neg]
                    exact ih2 j _ a b (by omega) (by omega) (by omega) (hq.pa (by omega)) hR2.q30 (hT.put hv9)
                · refine s_ldc dX11_gameOf_56 rfl m822 ?_
                  refine s_goto dX11_gameOf_58 (tgt := 62) (by decide) ?_
                  have e4 : ∀ x : Nat, x ≤ 4 → nI x = 4 → x = 4 := fun x hx z => (nI_eq (by omega) (by decide)).mp (show nI x = nI 4 from z)
                  have hv9 : (1000000 : Int32) = gG M cl p k j := by rw [gG_s M cl p hk4 hj4, if_pos (e4 k hk4 c53)]
                  · skip
                    refine sX_games (a := k) (by omega) dX11_gameOf_62 (by exact vp_in_nI (by omega) (by decide)) ?_
                    refine s_goto dX11_gameOf_63 (tgt := 130) (by decide) ?_
                    refine s_iinc (j := 5) (v := _ + (-1)) dX11_gameOf_130 rfl rfl (by decide) rfl ?_
                    refine s_goto dX11_gameOf_133 (tgt := 23) (by decide) ?_
                    refine s_locals [1, 2, 3, 4, 5, 0] rfl ?_
                    rw [pz5 j (by omega)]
                    rw [← Int32.sub_eq_add_neg]
                    exact ih2 j _ a b (by omega) (by omega) (by omega) (hq.pa (by omega)) hR2.q30 (hT.put hv9)
              · refine s_iload (j := 5) dX11_gameOf_35 rfl ?_
                refine s_iconst (v := 4) dX11_gameOf_37 (by decide) ?_
                refine s_icmp_ne dX11_gameOf_38 (tgt := 66) (by decide) (fun c38 => ?_) (fun c38 => ?_)
                · refine s_aload_nr (j := 0) dX11_gameOf_66 rfl ?_
                  refine gX_X11_21 dX11_gameOf_67 rfl ?_
                  refine s_iload (j := 4) dX11_gameOf_70 rfl ?_
                  refine pX_X11_148 (w := 2) (by decide) dX11_gameOf_72 rfl ?_
                  refine s_aload_nr (j := 0) dX11_gameOf_75 rfl ?_
                  refine gX_X11_21 dX11_gameOf_76 rfl ?_
                  refine s_iload (j := 5) dX11_gameOf_79 rfl ?_
                  refine pX_X11_151 (w := 2) (by decide) dX11_gameOf_81 rfl ?_
                  have ek : ¬ k = 4 := fun z => c32 (by rw [z]; rfl)
                  have ej : ¬ j = 4 := fun z => c38 (by rw [z]; rfl)
                  have hR3 : SR (x1 (x1 X2 (8 * 2 + 3) (nI k)) (8 * 2 + 4) (nI j)) D 2 (ms1 (ms1 M 1 (nI k)) 2 (nI j)) := by rw [← wl4 M a b (nI k) (nI j)]; exact (hR2.p1 (Or.inl ⟨rfl, rfl⟩)).p1 (Or.inr (Or.inl ⟨rfl, rfl⟩))
                  have hq2 : FQ X (x1 (x1 X2 (8 * 2 + 3) (nI k)) (8 * 2 + 4) (nI j)) := hq.fx (((FX.rf X2 2).p1 (by decide)).p1 (by decide))
                  refine s_aload_nr (j := 0) dX11_gameOf_84 rfl ?_
                  refine gX_X11_59 dX11_gameOf_85 rfl ?_
                  refine s_iload (j := 4) dX11_gameOf_88 rfl ?_
                  refine lX_X11_games dX11_gameOf_90 (by exact vp_in_nI (by omega) (by decide)) (v := .ref (42 + k)) ((by rw [pz5 _ (by omega)]; exact (hq2.rv hV).2.2.1 _ (by omega))) ?_
                  refine s_iload (j := 5) dX11_gameOf_91 rfl ?_
                  refine s_aload_nr (j := 0) dX11_gameOf_93 rfl ?_
                  refine gX_X11_21 dX11_gameOf_94 rfl ?_
                  refine s_aload_nr (j := 1) dX11_gameOf_97 rfl ?_
                  refine s_V1i cv_X11_175 rfl dX11_gameOf_98 (xg_X4 (w := 2) (by decide)) rfl (Nat.le_of_ble_eq_true rfl) (x_chanceOf _ (x1 (x1 X2 (8 * 2 + 3) (nI k)) (8 * 2 + 4) (nI j)) M D (w := 2) (K := ms1 (ms1 M 1 (nI k)) 2 (nI j)) (cl := cl) (by decide) hR3 (hK.wl hk4 hj4) (hq2.cx (hC.kk rfl)) hs hp) (fun y98 h98 q98 => ?_)
                  obtain ⟨rfl, g, rfl⟩ := q98
                  have hq3 : FQ X (xlt (x1 (x1 X2 (8 * 2 + 3) (nI k)) (8 * 2 + 4) (nI j)) 2 g) := hq2.fx (FX.lt _ 2 g)
                  have hT3 : GV (xlt (x1 (x1 X2 (8 * 2 + 3) (nI k)) (8 * 2 + 4) (nI j)) 2 g) (gG M cl p) 30 4 b0 k (j + 1) := hT.cg hk4 (fun i h1 h2 => xlt_a (by omega))
                  refine s_i2l dX11_gameOf_101 ?_
                  refine s_aload_nr (j := 0) dX11_gameOf_102 rfl ?_
                  refine gX_X11_59 dX11_gameOf_103 rfl ?_
                  refine s_iload (j := 4) dX11_gameOf_106 rfl ?_
                  refine s_iconst (v := 1) dX11_gameOf_108 (by decide) ?_
                  refine s_iadd dX11_gameOf_109 ?_
                  rw [nI_1]
                  refine lX_X11_games dX11_gameOf_110 (by exact vp_in_nI (by omega) (by decide)) (v := .ref (42 + (k + 1))) ((by rw [pz5 _ (by omega)]; exact (hq3.rv hV).2.2.1 _ (by omega))) ?_
                  refine s_iload (j := 5) dX11_gameOf_111 rfl ?_
                  refine lX_games (a := (k + 1)) (by omega) dX11_gameOf_113 (by exact vp_in_nI (by omega) (by decide)) ?_
                  rw [pz5 j (by omega), hT3.1 (k + 1) j (by omega) (by omega) (by omega) (by omega)]
                  refine s_aload_nr (j := 0) dX11_gameOf_114 rfl ?_
                  refine gX_X11_59 dX11_gameOf_115 rfl ?_
                  refine s_iload (j := 4) dX11_gameOf_118 rfl ?_
                  refine lX_X11_games dX11_gameOf_120 (by exact vp_in_nI (by omega) (by decide)) (v := .ref (42 + k)) ((by rw [pz5 _ (by omega)]; exact (hq3.rv hV).2.2.1 _ (by omega))) ?_
                  refine s_iload (j := 5) dX11_gameOf_121 rfl ?_
                  refine s_iconst (v := 1) dX11_gameOf_123 (by decide) ?_
                  refine s_iadd dX11_gameOf_124 ?_
                  rw [nI_1]
                  refine lX_games (a := k) (by omega) dX11_gameOf_125 (by exact vp_in_nI (by omega) (by decide)) ?_
                  rw [pz5 (j + 1) (by omega), hT3.2 (j + 1) (by omega) (by omega)]
                  refine s_S3i cs_X11_324 rfl dX11_gameOf_126 (Nat.le_of_ble_eq_true rfl) (x_mixed _ _ _ _ _) (fun y126 h126 q126 => ?_)
                  obtain ⟨rfl, rfl⟩ := q126
                  have hv9 : gmL (sNow (ms1 (ms1 M 1 (nI k)) 2 (nI j)) cl p).toInt64 (gG M cl p (k + 1) j) (gG M cl p k (j + 1)) = gG M cl p k j := by rw [gG_s M cl p hk4 hj4, if_neg ek, if_neg ej]
                  refine sX_games (a := k) (by omega) dX11_gameOf_129 (by exact vp_in_nI (by omega) (by decide)) ?_
                  refine s_iinc (j := 5) (v := _ + (-1)) dX11_gameOf_130 rfl rfl (by decide) rfl ?_
                  refine s_goto dX11_gameOf_133 (tgt := 23) (by decide) ?_
                  refine s_locals [1, 2, 3, 4, 5, 0] rfl ?_
                  rw [pz5 j (by omega)]
                  rw [← Int32.sub_eq_add_neg]
                  exact ih2 j _ (nI k) (nI j) (by omega) (by omega) (by omega) (hq3.pa (by omega)) hR3.lt.q30 (hT3.put hv9)
                · refine s_aload_nr (j := 0) dX11_gameOf_41 rfl ?_
                  refine gX_X11_59 dX11_gameOf_42 rfl ?_
                  refine s_iload (j := 4) dX11_gameOf_45 rfl ?_
                  refine lX_X11_games dX11_gameOf_47 (by exact vp_in_nI (by omega) (by decide)) (v := .ref (42 + k)) ((by rw [pz5 _ (by omega)]; exact (hq.rv hV).2.2.1 _ (by omega))) ?_
                  refine s_iload (j := 5) dX11_gameOf_48 rfl ?_
                  refine s_iload (j := 4) dX11_gameOf_50 rfl ?_
                  refine s_iconst (v := 4) dX11_gameOf_52 (by decide) ?_
                  refine s_icmp_ne dX11_gameOf_53 (tgt := 61) (by decide) (fun c53 => ?_) (fun c53 => ?_)
                  · refine s_iconst (v := 0) dX11_gameOf_61 (by decide) ?_
                    have e4 : ∀ x : Nat, x ≤ 4 → nI x = 4 → x = 4 := fun x hx z => (nI_eq (by omega) (by decide)).mp (show nI x = nI 4 from z)
                    have hv9 : (0 : Int32) = gG M cl p k j := by rw [gG_s M cl p hk4 hj4, if_neg (show ¬ k = 4 from fun z => c53 (by rw [z]; rfl)), if_pos (e4 j hj4 (by first | exact c38 | exact absurd c32 c53))]
                    · skip
                      refine sX_games (a := k) (by omega) dX11_gameOf_62 (by exact vp_in_nI (by omega) (by decide)) ?_
                      refine s_goto dX11_gameOf_63 (tgt := 130) (by decide) ?_
                      refine s_iinc (j := 5) (v := _ + (-1)) dX11_gameOf_130 rfl rfl (by decide) rfl ?_
                      refine s_goto dX11_gameOf_133 (tgt := 23) (by decide) ?_
                      refine s_locals [1, 2, 3, 4, 5, 0] rfl ?_
                      rw [pz5 j (by omega)]
                      rw [← Int32.sub_eq_add_neg]
                      exact ih2 j _ a b (by omega) (by omega) (by omega) (hq.pa (by omega)) hR2.q30 (hT.put hv9)
                  · refine s_ldc dX11_gameOf_56 rfl m822 ?_
                    refine s_goto dX11_gameOf_58 (tgt := 62) (by decide) ?_
                    have e4 : ∀ x : Nat, x ≤ 4 → nI x = 4 → x = 4 := fun x hx z => (nI_eq (by omega) (by decide)).mp (show nI x = nI 4 from z)
                    have hv9 : (1000000 : Int32) = gG M cl p k j := by rw [gG_s M cl p hk4 hj4, if_pos (e4 k hk4 c53)]
                    · skip
                      refine sX_games (a := k) (by omega) dX11_gameOf_62 (by exact vp_in_nI (by omega) (by decide)) ?_
                      refine s_goto dX11_gameOf_63 (tgt := 130) (by decide) ?_
                      refine s_iinc (j := 5) (v := _ + (-1)) dX11_gameOf_130 rfl rfl (by decide) rfl ?_
                      refine s_goto dX11_gameOf_133 (tgt := 23) (by decide) ?_
                      refine s_locals [1, 2, 3, 4, 5, 0] rfl ?_
                      rw [pz5 j (by omega)]
                      rw [← Int32.sub_eq_add_neg]
                      exact ih2 j _ a b (by omega) (by omega) (by omega) (hq.pa (by omega)) hR2.q30 (hT.put hv9)
        refine s_locals [1, 2, 3, 4, 5, 0] rfl ?_
        exact LQ 6 5 X2 a b (by decide) (by omega) (by decide) hq hR2 hT.beg
  refine s_locals [1, 2, 3, 4, 0] rfl ?_
  exact LP 6 5 X2 _ _ (by decide) (by omega) (by decide) ((FQ.rf X).fx hf) (by rw [wl_id]; exact hR2) (fun a b h1 h2 => absurd h1 (by omega))
