set_option maxRecDepth 100000 in
set_option maxHeartbeats 4000000 in
theorem m_layGames (d : Nat) (P D : HP) (M s : MZ) (hP : P.length = 95) (p : Int32) (hp : vp_in p 4) (cl : CLs) (hcl : CN M cl) (hs : ∀ i, i < 4 → 0 ≤ M.2.1 4 i) : Con (d + 6) qX12_layGames 0 0 [.ref 95, .int p] (mh P (scr M s) D) (PV fun h => ∃ t g, GT t (gG M cl p) 4 0 ∧ h = mh P (scr M (mra (mra s 16 t) 15 g)) D) := by
  refine Con.of (by decide +kernel) (Nat.le_of_ble_eq_true rfl) ?_
  show Sem (d + 6) qX12_layGames 0 0 0 [(0, .ref 95), (1, .int p)] [] (mh P (scr M s) D) _
  rw [show mh P (scr M s) D = mh P (scr M (mra s 15 (s.2.1 15))) D by rw [mra_id]]
  generalize s.2.1 15 = g0
  refine s_aload_nr (j := 0) dX12_layGames_0 rfl ?_
  refine gS_won dX12_layGames_1 rfl hP ?_
  refine s_istore_n dX12_layGames_4 (by decide) rfl ?_
  refine s_aload_nr (j := 1) dX12_layGames_5 rfl ?_
  refine gS_lost dX12_layGames_6 rfl hP ?_
  refine s_istore_n dX12_layGames_9 (by decide) rfl ?_
  refine s_iconst (v := 4) dX12_layGames_10 (by decide) ?_
  refine s_istore dX12_layGames_11 (by decide) rfl ?_
  have LA : ∀ (n : Nat) (k : Nat) (x y : Int32) (t g : Nat → Int32), k < n → k ≤ 5 → GT t (gG M cl p) 4 k → Sem (d + 6) qX12_layGames 0 0 13 [(0, .ref 95), (1, .int p), (2, .int (M.1 1)), (3, .int (M.1 2)), (4, .int (nI k + -1))] [] (mh P (scr (ms1 (ms1 M 1 x) 2 y) (mra (mra s 16 t) 15 g)) D) (PV fun h => ∃ t g, GT t (gG M cl p) 4 0 ∧ h = mh P (scr M (mra (mra s 16 t) 15 g)) D) := by
    intro n
    induction n with
    | zero => intro k x y t g hm; exact absurd hm (Nat.not_lt_zero _)
    | succ n iha =>
      intro k x y t g hma h1 h2
      refine s_iload (j := 4) dX12_layGames_13 rfl ?_
      refine s_if_lt dX12_layGames_15 (tgt := 156) (by decide) (fun c15 => ?_) (fun c15 => ?_)
      · obtain rfl : k = 0 := by
          cases k with
          | zero => rfl
          | succ j => rw [nI_m1] at c15; exact absurd c15 (nI_pos (by omega))
        refine s_aload_nr (j := 0) dX12_layGames_156 rfl ?_
        refine s_iload_n (j := 2) dX12_layGames_157 rfl ?_
        refine pS_won dX12_layGames_158 rfl hP ?_
        refine s_aload_nr (j := 0) dX12_layGames_161 rfl ?_
        refine s_iload_n (j := 3) dX12_layGames_162 rfl ?_
        refine pS_lost dX12_layGames_163 rfl hP ?_
        rw [wl_bk]
        exact e_vret dX12_layGames_166 rfl (by exact ⟨t, g, h2, rfl⟩)
      · obtain ⟨a, rfl⟩ : ∃ j, k = j + 1 := by
          cases k with
          | zero => exact absurd (show nI 0 + -1 < 0 by decide) c15
          | succ j => exact ⟨j, rfl⟩
        rw [nI_m1]
        refine s_iconst (v := 4) dX12_layGames_18 (by decide) ?_
        refine s_istore dX12_layGames_19 (by decide) rfl ?_
        have LB : ∀ (n : Nat) (l : Nat) (x y : Int32) (t g : Nat → Int32), l < n → l ≤ 5 → GU t (gG M cl p) 4 a l → Sem (d + 6) qX12_layGames 0 0 21 [(0, .ref 95), (1, .int p), (2, .int (M.1 1)), (3, .int (M.1 2)), (4, .int (nI a)), (5, .int (nI l + -1))] [] (mh P (scr (ms1 (ms1 M 1 x) 2 y) (mra (mra s 16 t) 15 g)) D) (PV fun h => ∃ t g, GT t (gG M cl p) 4 0 ∧ h = mh P (scr M (mra (mra s 16 t) 15 g)) D) := by
          intro n
          induction n with
          | zero => intro l x y t g hm; exact absurd hm (Nat.not_lt_zero _)
          | succ n ihb =>
            intro l x y t g hmb h1 h2
            refine s_iload (j := 5) dX12_layGames_21 rfl ?_
            refine s_if_lt dX12_layGames_23 (tgt := 150) (by decide) (fun c23 => ?_) (fun c23 => ?_)
            · obtain rfl : l = 0 := by
                cases l with
                | zero => rfl
                | succ j => rw [nI_m1] at c23; exact absurd c23 (nI_pos (by omega))
              refine s_iinc (j := 4) (v := _ + (-1)) dX12_layGames_150 rfl rfl (by decide) rfl ?_
              refine s_goto dX12_layGames_153 (tgt := 13) (by decide) ?_
              refine s_locals [1, 2, 3, 4, 0] rfl ?_
              exact iha a x y t g (by omega) (by omega) h2.fin
            · obtain ⟨b, rfl⟩ : ∃ j, l = j + 1 := by
                cases l with
                | zero => exact absurd (show nI 0 + -1 < 0 by decide) c23
                | succ j => exact ⟨j, rfl⟩
              rw [nI_m1]
              refine s_iload (j := 4) dX12_layGames_26 rfl ?_
              refine s_iconst (v := 4) dX12_layGames_28 (by decide) ?_
              refine s_icmp_eq dX12_layGames_29 (tgt := 38) (by decide) (fun c29 => ?_) (fun c29 => ?_)
              · have na : a = 4 := (nI_eq (by omega) (by decide)).mp c29
                refine s_aload_nr (j := 0) dX12_layGames_38 rfl ?_
                refine gS_games dX12_layGames_39 rfl hP ?_
                refine s_iconst (v := 5) dX12_layGames_42 (by decide) ?_
                refine s_iload (j := 4) dX12_layGames_43 rfl ?_
                refine s_imul dX12_layGames_45 ?_
                refine s_iload (j := 5) dX12_layGames_46 rfl ?_
                refine s_iadd dX12_layGames_48 ?_
                refine s_iload (j := 4) dX12_layGames_49 rfl ?_
                refine s_iconst (v := 4) dX12_layGames_51 (by decide) ?_
                refine s_icmp_ne dX12_layGames_52 (tgt := 61) (by decide) (fun c52 => ?_) (fun c52 => ?_)
                · refine s_iconst (v := 0) dX12_layGames_61 (by decide) ?_
                  refine sS_games dX12_layGames_62 hP (by rw [i5a]; exact vp_in_nI (by omega) (by decide)) ?_
                  rw [mra_up]
                  refine s_goto dX12_layGames_63 (tgt := 144) (by decide) ?_
                  try rw [mra_up]
                  refine s_iinc (j := 5) (v := _ + (-1)) dX12_layGames_144 rfl rfl (by decide) rfl ?_
                  refine s_goto dX12_layGames_147 (tgt := 21) (by decide) ?_
                  refine s_locals [1, 2, 3, 4, 5, 0] rfl ?_
                  exact absurd c29 c52
                · refine s_ldcw dX12_layGames_55 rfl m1565 ?_
                  refine s_goto dX12_layGames_58 (tgt := 62) (by decide) ?_
                  refine sS_games dX12_layGames_62 hP (by rw [i5a]; exact vp_in_nI (by omega) (by decide)) ?_
                  rw [mra_up]
                  refine s_goto dX12_layGames_63 (tgt := 144) (by decide) ?_
                  try rw [mra_up]
                  refine s_iinc (j := 5) (v := _ + (-1)) dX12_layGames_144 rfl rfl (by decide) rfl ?_
                  refine s_goto dX12_layGames_147 (tgt := 21) (by decide) ?_
                  refine s_locals [1, 2, 3, 4, 5, 0] rfl ?_
                  exact ihb b x y _ g (by omega) (by omega) (by rw [i5a, pz5 _ (by omega)]; exact h2.put (by decide) (by omega) (by rw [gG_s M cl p (by omega) (by omega), if_pos na]))
              · have na : ¬ a = 4 := fun z => c29 (by rw [z]; rfl)
                refine s_iload (j := 5) dX12_layGames_32 rfl ?_
                refine s_iconst (v := 4) dX12_layGames_34 (by decide) ?_
                refine s_icmp_ne dX12_layGames_35 (tgt := 66) (by decide) (fun c35 => ?_) (fun c35 => ?_)
                · have nb : ¬ b = 4 := fun z => c35 (by rw [z]; rfl)
                  refine s_aload_nr (j := 0) dX12_layGames_66 rfl ?_
                  refine s_iload (j := 4) dX12_layGames_67 rfl ?_
                  refine pS_won dX12_layGames_69 rfl hP ?_
                  refine s_aload_nr (j := 0) dX12_layGames_72 rfl ?_
                  refine s_iload (j := 5) dX12_layGames_73 rfl ?_
                  refine pS_lost dX12_layGames_75 rfl hP ?_
                  rw [wl4]
                  refine s_aload_nr (j := 0) dX12_layGames_78 rfl ?_
                  refine s_iload_n (j := 1) dX12_layGames_79 rfl ?_
                  refine s_V1i cv_X12_309 rfl dX12_layGames_80 (mh_get (k := 0) hP rfl) rfl (Nat.le_of_ble_eq_true rfl) (m_chanceNow _ P D (ms1 (ms1 M 1 (nI a)) 2 (nI b)) _ hP p hp cl ((hcl.w1 (by decide)).w1 (by decide)) hs) (fun y80 h80 q80 => ?_)
                  obtain ⟨rfl, g80, rfl⟩ := q80
                  try rw [mra_2]
                  refine s_i2l dX12_layGames_83 ?_
                  refine s_lstore dX12_layGames_84 (by decide) rfl ?_
                  refine s_aload_nr (j := 1) dX12_layGames_86 rfl ?_
                  refine gS_games dX12_layGames_87 rfl hP ?_
                  refine s_iconst (v := 5) dX12_layGames_90 (by decide) ?_
                  refine s_iload (j := 5) dX12_layGames_91 rfl ?_
                  refine s_imul dX12_layGames_93 ?_
                  refine s_iload (j := 6) dX12_layGames_94 rfl ?_
                  refine s_iadd dX12_layGames_96 ?_
                  refine s_lload (j := 0) dX12_layGames_97 rfl ?_
                  refine s_aload_nr (j := 1) dX12_layGames_99 rfl ?_
                  refine gS_games dX12_layGames_100 rfl hP ?_
                  refine s_iconst (v := 5) dX12_layGames_103 (by decide) ?_
                  refine s_iload (j := 5) dX12_layGames_104 rfl ?_
                  refine s_imul dX12_layGames_106 ?_
                  refine s_iconst (v := 5) dX12_layGames_107 (by decide) ?_
                  refine s_iadd dX12_layGames_108 ?_
                  refine s_iload (j := 6) dX12_layGames_109 rfl ?_
                  refine s_iadd dX12_layGames_111 ?_
                  refine lS_games dX12_layGames_112 hP (by rw [i5b]; exact vp_in_nI (by omega) (by decide)) ?_
                  refine s_i2l dX12_layGames_113 ?_
                  refine s_lmul dX12_layGames_114 ?_
                  refine s_ldc2 dX12_layGames_115 rfl m1566 ?_
                  refine s_lload (j := 0) dX12_layGames_118 rfl ?_
                  refine s_lsub dX12_layGames_120 ?_
                  refine s_aload_nr (j := 1) dX12_layGames_121 rfl ?_
                  refine gS_games dX12_layGames_122 rfl hP ?_
                  refine s_iconst (v := 5) dX12_layGames_125 (by decide) ?_
                  refine s_iload (j := 5) dX12_layGames_126 rfl ?_
                  refine s_imul dX12_layGames_128 ?_
                  refine s_iload (j := 6) dX12_layGames_129 rfl ?_
                  refine s_iadd dX12_layGames_131 ?_
                  refine s_iconst (v := 1) dX12_layGames_132 (by decide) ?_
                  refine s_iadd dX12_layGames_133 ?_
                  refine lS_games dX12_layGames_134 hP (by rw [i5c]; exact vp_in_nI (by omega) (by decide)) ?_
                  refine s_i2l dX12_layGames_135 ?_
                  refine s_lmul dX12_layGames_136 ?_
                  refine s_ladd dX12_layGames_137 ?_
                  refine s_ldc2 dX12_layGames_138 rfl m1566 ?_
                  refine s_ldiv dX12_layGames_141 (by decide) ?_
                  refine s_l2i dX12_layGames_142 ?_
                  refine sS_games dX12_layGames_143 hP (by rw [i5a]; exact vp_in_nI (by omega) (by decide)) ?_
                  try rw [mra_up]
                  refine s_iinc (j := 6) (v := _ + (-1)) dX12_layGames_144 rfl rfl (by decide) rfl ?_
                  refine s_goto dX12_layGames_147 (tgt := 21) (by decide) ?_
                  refine s_locals [2, 3, 4, 5, 6, 0] rfl ?_
                  exact ihb b _ _ _ _ (by omega) (by omega) (by rw [i5a, pz5 _ (by omega)]; exact h2.put (by decide) (by omega) (by rw [gG_s M cl p (by omega) (by omega), if_neg na, if_neg nb]; show gmL _ (t (pz _)) (t (pz _)) = _; rw [i5b, nI_1, pz5 _ (by omega), pz5 _ (by omega), h2.1 (a + 1) b (Nat.le_refl _) (by omega) (by omega), show t (5 * a + b + 1) = _ from h2.2 (b + 1) (Nat.le_refl _) (by omega)]))
                · have nb : b = 4 := (nI_eq (by omega) (by decide)).mp c35
                  refine s_aload_nr (j := 0) dX12_layGames_38 rfl ?_
                  refine gS_games dX12_layGames_39 rfl hP ?_
                  refine s_iconst (v := 5) dX12_layGames_42 (by decide) ?_
                  refine s_iload (j := 4) dX12_layGames_43 rfl ?_
                  refine s_imul dX12_layGames_45 ?_
                  refine s_iload (j := 5) dX12_layGames_46 rfl ?_
                  refine s_iadd dX12_layGames_48 ?_
                  refine s_iload (j := 4) dX12_layGames_49 rfl ?_
                  refine s_iconst (v := 4) dX12_layGames_51 (by decide) ?_
                  refine s_icmp_ne dX12_layGames_52 (tgt := 61) (by decide) (fun c52 => ?_) (fun c52 => ?_)
                  · refine s_iconst (v := 0) dX12_layGames_61 (by decide) ?_
                    refine sS_games dX12_layGames_62 hP (by rw [i5a]; exact vp_in_nI (by omega) (by decide)) ?_
                    rw [mra_up]
                    refine s_goto dX12_layGames_63 (tgt := 144) (by decide) ?_
                    try rw [mra_up]
                    refine s_iinc (j := 5) (v := _ + (-1)) dX12_layGames_144 rfl rfl (by decide) rfl ?_
                    refine s_goto dX12_layGames_147 (tgt := 21) (by decide) ?_
                    refine s_locals [1, 2, 3, 4, 5, 0] rfl ?_
                    exact ihb b x y _ g (by omega) (by omega) (by rw [i5a, pz5 _ (by omega)]; exact h2.put (by decide) (by omega) (by rw [gG_s M cl p (by omega) (by omega), if_neg na, if_pos nb]))
                  · refine s_ldcw dX12_layGames_55 rfl m1565 ?_
                    refine s_goto dX12_layGames_58 (tgt := 62) (by decide) ?_
                    refine sS_games dX12_layGames_62 hP (by rw [i5a]; exact vp_in_nI (by omega) (by decide)) ?_
                    rw [mra_up]
                    refine s_goto dX12_layGames_63 (tgt := 144) (by decide) ?_
                    try rw [mra_up]
                    refine s_iinc (j := 5) (v := _ + (-1)) dX12_layGames_144 rfl rfl (by decide) rfl ?_
                    refine s_goto dX12_layGames_147 (tgt := 21) (by decide) ?_
                    refine s_locals [1, 2, 3, 4, 5, 0] rfl ?_
                    exact absurd c52 c29
        refine s_locals [1, 2, 3, 4, 5, 0] rfl ?_
        exact LB 6 5 x y t g (by decide) (by decide) ⟨h2, fun b h3 h4 => by omega⟩
  refine s_locals [3, 4, 2, 1, 0] rfl ?_
  rw [show mh P (scr M (mra s 15 g0)) D = mh P (scr (ms1 (ms1 M 1 (M.1 1)) 2 (M.1 2)) (mra (mra s 16 (s.2.1 16)) 15 g0)) D by rw [wl_id, mra_id]]
  exact LA 6 5 _ _ _ _ (by decide) (by decide) (fun a b h1 h2 => by omega)

set_option maxRecDepth 100000 in
set_option maxHeartbeats 4000000 in
theorem m_gameNow (d : Nat) (P D : HP) (M s : MZ) (hP : P.length = 95) (p : Int32) (hp : vp_in p 4) (cl : CLs) (hcl : CN M cl) (hs : ∀ i, i < 4 → 0 ≤ M.2.1 4 i) (hw : bw (M.1 1) 4) (hl : bw (M.1 2) 4) : Con (d + 7) qX12_gameNow 0 0 [.ref 95, .int p] (mh P (scr M s) D) (XT P D (sGm M cl p) M) := by
  refine Con.of (by decide +kernel) (Nat.le_of_ble_eq_true rfl) ?_
  show Sem (d + 7) qX12_gameNow 0 0 0 [(0, .ref 95), (1, .int p)] [] (mh P (scr M s) D) _
  refine s_aload_nr (j := 0) dX12_gameNow_0 rfl ?_
  refine s_iload_n (j := 1) dX12_gameNow_1 rfl ?_
  refine s_V1v cv_X12_316 rfl dX12_gameNow_2 (mh_get (k := 0) hP rfl) rfl (Nat.le_of_ble_eq_true rfl) (m_layGames _ P D M _ hP p hp cl hcl hs) (fun h2 q2 => ?_)
  obtain ⟨t2, g2, ht2, rfl⟩ := q2
  try rw [mra_2]
  obtain ⟨wa, hwa, ewa⟩ := hw
  obtain ⟨wb, hwb, ewb⟩ := hl
  have pwa : pz (M.1 1) = wa := by rw [ewa]; exact nI_clamp (by omega)
  have pwb : pz (M.1 2) = wb := by rw [ewb]; exact nI_clamp (by omega)
  refine s_aload_nr (j := 0) dX12_gameNow_5 rfl ?_
  refine gS_games dX12_gameNow_6 rfl hP ?_
  refine s_iconst (v := 5) dX12_gameNow_9 (by decide) ?_
  refine s_aload_nr (j := 0) dX12_gameNow_10 rfl ?_
  refine gS_won dX12_gameNow_11 rfl hP ?_
  refine s_imul dX12_gameNow_14 ?_
  refine s_aload_nr (j := 0) dX12_gameNow_15 rfl ?_
  refine gS_lost dX12_gameNow_16 rfl hP ?_
  refine s_iadd dX12_gameNow_19 ?_
  refine lS_games dX12_gameNow_20 hP (by rw [ewa, ewb, i5a]; exact vp_in_nI (by omega) (by decide)) ?_
  exact e_iret dX12_gameNow_21 rfl (by exact ⟨by show t2 (pz _) = _; rw [sGm, pwa, pwb, ewa, ewb, i5a, pz5 _ (by omega)]; exact ht2 wa wb (Nat.zero_le _) hwa hwb, _, rfl⟩)

set_option maxRecDepth 100000 in
set_option maxHeartbeats 4000000 in
theorem m_clean (d : Nat) (P D : HP) (M s : MZ) (hP : P.length = 95) (p : Int32) (hp : vp_in p 4) (cl : CLs) (hcl : CN M cl) (hs : ∀ i, i < 4 → 0 ≤ M.2.1 4 i) : Con (d + 7) qX12_clean 0 0 [.ref 95, .int p] (mh P (scr M s) D) (XT P D (sCl M cl p) M) := by
  refine Con.of (by decide +kernel) (Nat.le_of_ble_eq_true rfl) ?_
  show Sem (d + 7) qX12_clean 0 0 0 [(0, .ref 95), (1, .int p)] [] (mh P (scr M s) D) _
  refine s_aload_nr (j := 0) dX12_clean_0 rfl ?_
  refine s_iload_n (j := 1) dX12_clean_1 rfl ?_
  refine s_V1v cv_X12_316 rfl dX12_clean_2 (mh_get (k := 0) hP rfl) rfl (Nat.le_of_ble_eq_true rfl) (m_layGames _ P D M _ hP p hp cl hcl hs) (fun h2 q2 => ?_)
  obtain ⟨t2, g2, ht2, rfl⟩ := q2
  try rw [mra_2]
  refine s_aload_nr (j := 0) dX12_clean_5 rfl ?_
  refine gS_games dX12_clean_6 rfl hP ?_
  refine s_iconst (v := 0) dX12_clean_9 (by decide) ?_
  refine lS_games dX12_clean_10 hP (by rw [vp_in_iff]; decide) ?_
  exact e_iret dX12_clean_11 rfl (by exact ⟨ht2 0 0 (Nat.zero_le _) (Nat.zero_le _) (Nat.zero_le _), _, rfl⟩)

set_option maxRecDepth 100000 in
set_option maxHeartbeats 4000000 in
theorem m_game (d : Nat) (P D : HP) (M s : MZ) (hP : P.length = 95) (p w : Int32) (hz : 0 ≤ M.1 0 ∧ M.1 0 ≤ 4) (hs : ∀ i, i < 4 → 0 ≤ M.2.1 4 i) (cl : CLs) (hcl : CN M cl) (hw : bw (M.1 1) 4) (hl : bw (M.1 2) 4) : Con (d + 8) qX12_game 0 0 [.ref 95, .int p, .int w] (mh P (scr M s) D) (XT P D (sp_game M cl p w) M) := by
  refine Con.of (by decide +kernel) (Nat.le_of_ble_eq_true rfl) ?_
  show Sem (d + 8) qX12_game 0 0 0 [(0, .ref 95), (1, .int p), (2, .int w)] [] (mh P (scr M s) D) _
  refine s_aload_nr (j := 0) dX12_game_0 rfl ?_
  refine s_iload_n (j := 1) dX12_game_1 rfl ?_
  refine s_V1i cv_X12_211 rfl dX12_game_2 (mh_get (k := 0) hP rfl) rfl (Nat.le_of_ble_eq_true rfl) (n_isServer _ P D M _ hP _) (fun y2 h2 q2 => ?_)
  obtain ⟨rfl, rfl⟩ := q2
  refine s_if_eq dX12_game_5 (tgt := 18) (by decide) (fun c5 => ?_) (fun c5 => ?_)
  · replace c5 := b2i_0.mp c5
    refine s_iconst (v := -1) dX12_game_18 (by decide) ?_
    refine s_goto dX12_game_19 (tgt := 39) (by decide) ?_
    exact e_iret dX12_game_39 rfl (by unfold sp_game; (first | rw [if_pos c5] | rw [if_neg c5] | skip); first | exact ⟨rfl, _, rfl⟩ | contradiction | (exfalso; (try simp only [Int32.not_lt, Int32.not_le, Int32.le_iff_toInt_le, Int32.lt_iff_toInt_lt, ← Int32.toInt_inj] at *); (try simp at *); omega) | (simp_all; done))
  · replace c5 := b2i_n0.mp c5
    refine s_aload_nr (j := 0) dX12_game_8 rfl ?_
    refine s_iload_n (j := 2) dX12_game_9 rfl ?_
    refine s_iconst (v := 0) dX12_game_10 (by decide) ?_
    refine s_iconst (v := 1) dX12_game_11 (by decide) ?_
    refine s_V3i cv_X12_203 rfl dX12_game_12 (mh_get (k := 0) hP rfl) rfl (Nat.le_of_ble_eq_true rfl) (m_in _ P D _ hP _ _ _) (fun y12 h12 q12 => ?_)
    obtain ⟨rfl, rfl⟩ := q12
    refine s_if_ne dX12_game_15 (tgt := 22) (by decide) (fun c15 => ?_) (fun c15 => ?_)
    · replace c15 := b2i_n0.mp c15
      have hp := in4_of hz c5
      refine s_iload_n (j := 2) dX12_game_22 rfl ?_
      refine s_if_ne dX12_game_23 (tgt := 34) (by decide) (fun c23 => ?_) (fun c23 => ?_)
      · refine s_aload_nr (j := 0) dX12_game_34 rfl ?_
        refine s_iload_n (j := 1) dX12_game_35 rfl ?_
        refine s_V1i cv_X12_322 rfl dX12_game_36 (mh_get (k := 0) hP rfl) rfl (Nat.le_of_ble_eq_true rfl) (m_clean _ P D M _ hP p hp cl hcl hs) (fun y36 h36 q36 => ?_)
        obtain ⟨rfl, s36, rfl⟩ := q36
        exact e_iret dX12_game_39 rfl (by unfold sp_game; (first | rw [if_pos c5] | rw [if_neg c5] | skip); (first | rw [if_pos c15] | rw [if_neg c15] | skip); (first | rw [if_pos c23] | rw [if_neg c23] | skip); first | exact ⟨rfl, _, rfl⟩ | contradiction | (exfalso; (try simp only [Int32.not_lt, Int32.not_le, Int32.le_iff_toInt_le, Int32.lt_iff_toInt_lt, ← Int32.toInt_inj] at *); (try simp at *); omega) | (simp_all; done))
      · refine s_aload_nr (j := 0) dX12_game_26 rfl ?_
        refine s_iload_n (j := 1) dX12_game_27 rfl ?_
        refine s_V1i cv_X12_319 rfl dX12_game_28 (mh_get (k := 0) hP rfl) rfl (Nat.le_of_ble_eq_true rfl) (m_gameNow _ P D M _ hP p hp cl hcl hs hw hl) (fun y28 h28 q28 => ?_)
        obtain ⟨rfl, s28, rfl⟩ := q28
        refine s_goto dX12_game_31 (tgt := 39) (by decide) ?_
        exact e_iret dX12_game_39 rfl (by unfold sp_game; (first | rw [if_pos c5] | rw [if_neg c5] | skip); (first | rw [if_pos c15] | rw [if_neg c15] | skip); (first | rw [if_pos c23] | rw [if_neg c23] | skip); first | exact ⟨rfl, _, rfl⟩ | contradiction | (exfalso; (try simp only [Int32.not_lt, Int32.not_le, Int32.le_iff_toInt_le, Int32.lt_iff_toInt_lt, ← Int32.toInt_inj] at *); (try simp at *); omega) | (simp_all; done))
    · replace c15 := b2i_0.mp c15
      refine s_iconst (v := -1) dX12_game_18 (by decide) ?_
      refine s_goto dX12_game_19 (tgt := 39) (by decide) ?_
      exact e_iret dX12_game_39 rfl (by unfold sp_game; (first | rw [if_pos c5] | rw [if_neg c5] | skip); (first | rw [if_pos c15] | rw [if_neg c15] | skip); first | exact ⟨rfl, _, rfl⟩ | contradiction | (exfalso; (try simp only [Int32.not_lt, Int32.not_le, Int32.le_iff_toInt_le, Int32.lt_iff_toInt_lt, ← Int32.toInt_inj] at *); (try simp at *); omega) | (simp_all; done))

set_option maxRecDepth 100000 in
set_option maxHeartbeats 4000000 in
theorem m_swing (d : Nat) (P D : HP) (M s : MZ) (hP : P.length = 95) (p : Int32) (hz : 0 ≤ M.1 0 ∧ M.1 0 ≤ 4) (hs : ∀ i, i < 4 → 0 ≤ M.2.1 4 i) (cl : CLs) (hcl : CN M cl) (hw : bw (M.1 1) 4) (hl : bw (M.1 2) 4) : Con (d + 7) qX12_swing 0 0 [.ref 95, .int p] (mh P (scr M s) D) (XT P D (sp_swing M cl p) M) := by
  refine Con.of (by decide +kernel) (Nat.le_of_ble_eq_true rfl) ?_
  show Sem (d + 7) qX12_swing 0 0 0 [(0, .ref 95), (1, .int p)] [] (mh P (scr M s) D) _
  refine s_aload_nr (j := 0) dX12_swing_0 rfl ?_
  refine s_iload_n (j := 1) dX12_swing_1 rfl ?_
  refine s_V1i cv_X12_211 rfl dX12_swing_2 (mh_get (k := 0) hP rfl) rfl (Nat.le_of_ble_eq_true rfl) (n_isServer _ P D M _ hP _) (fun y2 h2 q2 => ?_)
  obtain ⟨rfl, rfl⟩ := q2
  refine s_if_ne dX12_swing_5 (tgt := 12) (by decide) (fun c5 => ?_) (fun c5 => ?_)
  · replace c5 := b2i_n0.mp c5
    have hp := in4_of hz c5
    refine s_aload_nr (j := 0) dX12_swing_12 rfl ?_
    refine s_V0i cv_X12_302 rfl dX12_swing_13 (mh_get (k := 0) hP rfl) rfl (Nat.le_of_ble_eq_true rfl) (n_isOver _ P D M _ hP) (fun y13 h13 q13 => ?_)
    obtain ⟨rfl, rfl⟩ := q13
    refine s_if_eq dX12_swing_16 (tgt := 21) (by decide) (fun c16 => ?_) (fun c16 => ?_)
    · replace c16 := b2i_0.mp c16
      obtain ⟨wa, hwa, ewa⟩ := hw
      obtain ⟨wb, hwb, ewb⟩ := hl
      have pwa : pz (M.1 1) = wa := by rw [ewa]; exact nI_clamp (by omega)
      have pwb : pz (M.1 2) = wb := by rw [ewb]; exact nI_clamp (by omega)
      have n1 : ¬ wa = 4 := fun z => c16 (Or.inl (by rw [ewa, z]; rfl))
      have n2 : ¬ wb = 4 := fun z => c16 (Or.inr (by rw [ewb, z]; rfl))
      refine s_aload_nr (j := 0) dX12_swing_21 rfl ?_
      refine s_iload_n (j := 1) dX12_swing_22 rfl ?_
      refine s_V1v cv_X12_316 rfl dX12_swing_23 (mh_get (k := 0) hP rfl) rfl (Nat.le_of_ble_eq_true rfl) (m_layGames _ P D M _ hP p hp cl hcl hs) (fun h23 q23 => ?_)
      obtain ⟨t23, g23, ht23, rfl⟩ := q23
      try rw [mra_2]
      refine s_aload_nr (j := 0) dX12_swing_26 rfl ?_
      refine gS_games dX12_swing_27 rfl hP ?_
      refine s_iconst (v := 5) dX12_swing_30 (by decide) ?_
      refine s_aload_nr (j := 0) dX12_swing_31 rfl ?_
      refine gS_won dX12_swing_32 rfl hP ?_
      refine s_imul dX12_swing_35 ?_
      refine s_iconst (v := 5) dX12_swing_36 (by decide) ?_
      refine s_iadd dX12_swing_37 ?_
      refine s_aload_nr (j := 0) dX12_swing_38 rfl ?_
      refine gS_lost dX12_swing_39 rfl hP ?_
      refine s_iadd dX12_swing_42 ?_
      refine lS_games dX12_swing_43 hP (by rw [ewa, ewb, i5b]; exact vp_in_nI (by omega) (by decide)) ?_
      refine s_aload_nr (j := 0) dX12_swing_44 rfl ?_
      refine gS_games dX12_swing_45 rfl hP ?_
      refine s_iconst (v := 5) dX12_swing_48 (by decide) ?_
      refine s_aload_nr (j := 0) dX12_swing_49 rfl ?_
      refine gS_won dX12_swing_50 rfl hP ?_
      refine s_imul dX12_swing_53 ?_
      refine s_aload_nr (j := 0) dX12_swing_54 rfl ?_
      refine gS_lost dX12_swing_55 rfl hP ?_
      refine s_iadd dX12_swing_58 ?_
      refine s_iconst (v := 1) dX12_swing_59 (by decide) ?_
      refine s_iadd dX12_swing_60 ?_
      refine lS_games dX12_swing_61 hP (by rw [ewa, ewb, i5c]; exact vp_in_nI (by omega) (by decide)) ?_
      refine s_isub dX12_swing_62 ?_
      exact e_iret dX12_swing_63 rfl (by exact ⟨by show t23 (pz _) - t23 (pz _) = _; rw [sp_swing, if_pos c5, if_neg c16, pwa, pwb, ewa, ewb, i5b, i5c, pz5 _ (by omega), pz5 _ (by omega), ht23 (wa + 1) wb (Nat.zero_le _) (by omega) hwb, ht23 wa (wb + 1) (Nat.zero_le _) hwa (by omega)], _, rfl⟩)
    · replace c16 := b2i_n0.mp c16
      refine s_iconst (v := 0) dX12_swing_19 (by decide) ?_
      exact e_iret dX12_swing_20 rfl (by unfold sp_swing; (first | rw [if_pos c5] | rw [if_neg c5] | skip); (first | rw [if_pos c16] | rw [if_neg c16] | skip); first | exact ⟨rfl, _, rfl⟩ | contradiction | (exfalso; (try simp only [Int32.not_lt, Int32.not_le, Int32.le_iff_toInt_le, Int32.lt_iff_toInt_lt, ← Int32.toInt_inj] at *); (try simp at *); omega) | (simp_all; done))
  · replace c5 := b2i_0.mp c5
    refine s_ldcw dX12_swing_8 rfl m1535 ?_
    exact e_iret dX12_swing_11 rfl (by unfold sp_swing; (first | rw [if_pos c5] | rw [if_neg c5] | skip); first | exact ⟨rfl, _, rfl⟩ | contradiction | (exfalso; (try simp only [Int32.not_lt, Int32.not_le, Int32.le_iff_toInt_le, Int32.lt_iff_toInt_lt, ← Int32.toInt_inj] at *); (try simp at *); omega) | (simp_all; done))
