set_option maxRecDepth 100000 in
set_option maxHeartbeats 4000000 in
theorem m_matchOf (d : Nat) (P D : HP) (M s : MZ) (hP : P.length = 95) (p q : Int32) (hp : vp_in p 4) (cl : CLs) (hcl : CN M cl) (hs : ∀ i, i < 4 → 0 ≤ M.2.1 4 i) (hq : vp_in q 4) (N : Nat) (hN : N ≤ 4) : Con (d + 8) qX12_matchOf 0 0 [.ref 95, .int p, .int q, .int (nI N)] (mh P (scr M s) D) (XT P D (sMa M cl p q (nI N)) M) := by
  refine Con.of (by decide +kernel) (Nat.le_of_ble_eq_true rfl) ?_
  show Sem (d + 8) qX12_matchOf 0 0 0 [(0, .ref 95), (1, .int p), (2, .int q), (3, .int (nI N))] [] (mh P (scr M s) D) _
  have eN : pz (nI N) = N := nI_clamp (by omega)
  refine s_aload_nr (j := 0) dX12_matchOf_0 rfl ?_
  refine s_iload_n (j := 1) dX12_matchOf_1 rfl ?_
  refine s_V1i cv_X12_322 rfl dX12_matchOf_2 (mh_get (k := 0) hP rfl) rfl (Nat.le_of_ble_eq_true rfl) (m_clean _ P D M _ hP p hp cl hcl hs) (fun y2 h2 q2 => ?_)
  obtain ⟨rfl, s2, rfl⟩ := q2
  refine s_i2l dX12_matchOf_5 ?_
  refine s_lstore dX12_matchOf_6 (by decide) rfl ?_
  refine s_ldcw dX12_matchOf_8 rfl m1565 ?_
  refine s_aload_nr (j := 1) dX12_matchOf_11 rfl ?_
  refine s_iload_n (j := 3) dX12_matchOf_12 rfl ?_
  refine s_V1i cv_X12_322 rfl dX12_matchOf_13 (mh_get (k := 0) hP rfl) rfl (Nat.le_of_ble_eq_true rfl) (m_clean _ P D M _ hP q hq cl hcl hs) (fun y13 h13 q13 => ?_)
  obtain ⟨rfl, s13, rfl⟩ := q13
  refine s_isub dX12_matchOf_16 ?_
  refine s_i2l dX12_matchOf_17 ?_
  refine s_lstore dX12_matchOf_18 (by decide) rfl ?_
  refine s_iload_n (j := 5) dX12_matchOf_20 rfl ?_
  refine s_istore dX12_matchOf_21 (by decide) rfl ?_
  have LA : ∀ (n : Nat) (k : Nat) (t : Nat → Int32), k < n → k ≤ N + 1 → GT t (mG (sCl M cl p).toInt64 (1000000 - sCl M cl q).toInt64 N) N k → Sem (d + 8) qX12_matchOf 0 0 23 [(0, .ref 95), (1, .int p), (2, .int q), (3, .int (nI N)), (4, .long (sCl M cl p).toInt64), (6, .long (1000000 - sCl M cl q).toInt64), (8, .int (nI k + -1))] [] (mh P (scr M (mra s13 17 t)) D) (XT P D (sMa M cl p q (nI N)) M) := by
    intro n
    induction n with
    | zero => intro k t hm; exact absurd hm (Nat.not_lt_zero _)
    | succ n iha =>
      intro k t hma h1 h2
      refine s_iload (j := 6) dX12_matchOf_23 rfl ?_
      refine s_if_lt dX12_matchOf_25 (tgt := 165) (by decide) (fun c25 => ?_) (fun c25 => ?_)
      · obtain rfl : k = 0 := by
          cases k with
          | zero => rfl
          | succ j => rw [nI_m1] at c25; exact absurd c25 (nI_pos (by omega))
        refine s_aload_nr (j := 0) dX12_matchOf_165 rfl ?_
        refine gS_matches dX12_matchOf_166 rfl hP ?_
        refine s_iconst (v := 0) dX12_matchOf_169 (by decide) ?_
        refine lS_matches dX12_matchOf_170 hP (by rw [vp_in_iff]; decide) ?_
        exact e_iret dX12_matchOf_171 rfl (by exact ⟨by show t (pz 0) = _; rw [sMa, eN]; exact h2 0 0 (Nat.le_refl _) (Nat.zero_le _) (Nat.zero_le _), _, rfl⟩)
      · obtain ⟨a, rfl⟩ : ∃ j, k = j + 1 := by
          cases k with
          | zero => exact absurd (show nI 0 + -1 < 0 by decide) c25
          | succ j => exact ⟨j, rfl⟩
        rw [nI_m1]
        refine s_iload_n (j := 3) dX12_matchOf_28 rfl ?_
        refine s_istore dX12_matchOf_29 (by decide) rfl ?_
        have LB : ∀ (n : Nat) (l : Nat) (t : Nat → Int32), l < n → l ≤ N + 1 → GU t (mG (sCl M cl p).toInt64 (1000000 - sCl M cl q).toInt64 N) N a l → Sem (d + 8) qX12_matchOf 0 0 31 [(0, .ref 95), (1, .int p), (2, .int q), (3, .int (nI N)), (4, .long (sCl M cl p).toInt64), (6, .long (1000000 - sCl M cl q).toInt64), (8, .int (nI a)), (9, .int (nI l + -1))] [] (mh P (scr M (mra s13 17 t)) D) (XT P D (sMa M cl p q (nI N)) M) := by
          intro n
          induction n with
          | zero => intro l t hm; exact absurd hm (Nat.not_lt_zero _)
          | succ n ihb =>
            intro l t hmb h1 h2
            refine s_iload (j := 7) dX12_matchOf_31 rfl ?_
            refine s_if_lt dX12_matchOf_33 (tgt := 159) (by decide) (fun c33 => ?_) (fun c33 => ?_)
            · obtain rfl : l = 0 := by
                cases l with
                | zero => rfl
                | succ j => rw [nI_m1] at c33; exact absurd c33 (nI_pos (by omega))
              refine s_iinc (j := 6) (v := _ + (-1)) dX12_matchOf_159 rfl rfl (by decide) rfl ?_
              refine s_goto dX12_matchOf_162 (tgt := 23) (by decide) ?_
              refine s_locals [1, 2, 3, 4, 5, 6, 0] rfl ?_
              exact iha a t (by omega) (by omega) h2.fin
            · obtain ⟨b, rfl⟩ : ∃ j, l = j + 1 := by
                cases l with
                | zero => exact absurd (show nI 0 + -1 < 0 by decide) c33
                | succ j => exact ⟨j, rfl⟩
              rw [nI_m1]
              refine s_iload (j := 6) dX12_matchOf_36 rfl ?_
              refine s_iload (j := 7) dX12_matchOf_38 rfl ?_
              refine s_iadd dX12_matchOf_40 ?_
              refine s_iconst (v := 2) dX12_matchOf_41 (by decide) ?_
              refine s_irem dX12_matchOf_42 (by decide) ?_
              refine s_if_ne dX12_matchOf_43 (tgt := 51) (by decide) (fun c43 => ?_) (fun c43 => ?_)
              · rw [nI_add, show (2 : Int32) = nI 2 from rfl, nI_mod (by omega) (by decide)] at c43
                have np : ¬ (a + b) % 2 = 0 := fun z => c43 (by rw [z]; rfl)
                refine s_lload (j := 5) dX12_matchOf_51 rfl ?_
                refine s_lstore dX12_matchOf_53 (by decide) rfl ?_
                refine s_iload (j := 7) dX12_matchOf_55 rfl ?_
                refine s_iload_n (j := 4) dX12_matchOf_57 rfl ?_
                refine s_icmp_eq dX12_matchOf_58 (tgt := 67) (by decide) (fun c58 => ?_) (fun c58 => ?_)
                · have na : a = N := (nI_eq (by omega) (by omega)).mp c58
                  refine s_aload_nr (j := 1) dX12_matchOf_67 rfl ?_
                  refine gS_matches dX12_matchOf_68 rfl hP ?_
                  refine s_iconst (v := 5) dX12_matchOf_71 (by decide) ?_
                  refine s_iload (j := 7) dX12_matchOf_72 rfl ?_
                  refine s_imul dX12_matchOf_74 ?_
                  refine s_iload (j := 8) dX12_matchOf_75 rfl ?_
                  refine s_iadd dX12_matchOf_77 ?_
                  refine s_iload (j := 7) dX12_matchOf_78 rfl ?_
                  refine s_iload_n (j := 4) dX12_matchOf_80 rfl ?_
                  refine s_icmp_ne dX12_matchOf_81 (tgt := 90) (by decide) (fun c81 => ?_) (fun c81 => ?_)
                  · refine s_iconst (v := 0) dX12_matchOf_90 (by decide) ?_
                    refine sS_matches dX12_matchOf_91 hP (by rw [i5a]; exact vp_in_nI (by omega) (by decide)) ?_
                    rw [mra_sa]
                    refine s_goto dX12_matchOf_92 (tgt := 153) (by decide) ?_
                    try rw [mra_sa]
                    refine s_iinc (j := 8) (v := _ + (-1)) dX12_matchOf_153 rfl rfl (by decide) rfl ?_
                    refine s_goto dX12_matchOf_156 (tgt := 31) (by decide) ?_
                    refine s_locals [2, 3, 4, 5, 6, 7, 8, 0] rfl ?_
                    exact absurd c58 c81
                  · refine s_ldcw dX12_matchOf_84 rfl m1565 ?_
                    refine s_goto dX12_matchOf_87 (tgt := 91) (by decide) ?_
                    refine sS_matches dX12_matchOf_91 hP (by rw [i5a]; exact vp_in_nI (by omega) (by decide)) ?_
                    rw [mra_sa]
                    refine s_goto dX12_matchOf_92 (tgt := 153) (by decide) ?_
                    try rw [mra_sa]
                    refine s_iinc (j := 8) (v := _ + (-1)) dX12_matchOf_153 rfl rfl (by decide) rfl ?_
                    refine s_goto dX12_matchOf_156 (tgt := 31) (by decide) ?_
                    refine s_locals [2, 3, 4, 5, 6, 7, 8, 0] rfl ?_
                    exact ihb b _ (by omega) (by omega) (by rw [i5a, pz5 _ (by omega)]; exact h2.put hN (by omega) (by rw [mG_s _ _ _ (by omega) (by omega), if_pos na]))
                · have na : ¬ a = N := fun z => c58 (by rw [z])
                  refine s_iload (j := 8) dX12_matchOf_61 rfl ?_
                  refine s_iload_n (j := 4) dX12_matchOf_63 rfl ?_
                  refine s_icmp_ne dX12_matchOf_64 (tgt := 95) (by decide) (fun c64 => ?_) (fun c64 => ?_)
                  · have nb : ¬ b = N := fun z => c64 (by rw [z])
                    refine s_aload_nr (j := 1) dX12_matchOf_95 rfl ?_
                    refine gS_matches dX12_matchOf_96 rfl hP ?_
                    refine s_iconst (v := 5) dX12_matchOf_99 (by decide) ?_
                    refine s_iload (j := 7) dX12_matchOf_100 rfl ?_
                    refine s_imul dX12_matchOf_102 ?_
                    refine s_iload (j := 8) dX12_matchOf_103 rfl ?_
                    refine s_iadd dX12_matchOf_105 ?_
                    refine s_lload (j := 0) dX12_matchOf_106 rfl ?_
                    refine s_aload_nr (j := 1) dX12_matchOf_108 rfl ?_
                    refine gS_matches dX12_matchOf_109 rfl hP ?_
                    refine s_iconst (v := 5) dX12_matchOf_112 (by decide) ?_
                    refine s_iload (j := 7) dX12_matchOf_113 rfl ?_
                    refine s_imul dX12_matchOf_115 ?_
                    refine s_iconst (v := 5) dX12_matchOf_116 (by decide) ?_
                    refine s_iadd dX12_matchOf_117 ?_
                    refine s_iload (j := 8) dX12_matchOf_118 rfl ?_
                    refine s_iadd dX12_matchOf_120 ?_
                    refine lS_matches dX12_matchOf_121 hP (by rw [i5b]; exact vp_in_nI (by omega) (by decide)) ?_
                    refine s_i2l dX12_matchOf_122 ?_
                    refine s_lmul dX12_matchOf_123 ?_
                    refine s_ldc2 dX12_matchOf_124 rfl m1566 ?_
                    refine s_lload (j := 0) dX12_matchOf_127 rfl ?_
                    refine s_lsub dX12_matchOf_129 ?_
                    refine s_aload_nr (j := 1) dX12_matchOf_130 rfl ?_
                    refine gS_matches dX12_matchOf_131 rfl hP ?_
                    refine s_iconst (v := 5) dX12_matchOf_134 (by decide) ?_
                    refine s_iload (j := 7) dX12_matchOf_135 rfl ?_
                    refine s_imul dX12_matchOf_137 ?_
                    refine s_iload (j := 8) dX12_matchOf_138 rfl ?_
                    refine s_iadd dX12_matchOf_140 ?_
                    refine s_iconst (v := 1) dX12_matchOf_141 (by decide) ?_
                    refine s_iadd dX12_matchOf_142 ?_
                    refine lS_matches dX12_matchOf_143 hP (by rw [i5c]; exact vp_in_nI (by omega) (by decide)) ?_
                    refine s_i2l dX12_matchOf_144 ?_
                    refine s_lmul dX12_matchOf_145 ?_
                    refine s_ladd dX12_matchOf_146 ?_
                    refine s_ldc2 dX12_matchOf_147 rfl m1566 ?_
                    refine s_ldiv dX12_matchOf_150 (by decide) ?_
                    refine s_l2i dX12_matchOf_151 ?_
                    refine sS_matches dX12_matchOf_152 hP (by rw [i5a]; exact vp_in_nI (by omega) (by decide)) ?_
                    try rw [mra_sa]
                    refine s_iinc (j := 8) (v := _ + (-1)) dX12_matchOf_153 rfl rfl (by decide) rfl ?_
                    refine s_goto dX12_matchOf_156 (tgt := 31) (by decide) ?_
                    refine s_locals [2, 3, 4, 5, 6, 7, 8, 0] rfl ?_
                    exact ihb b _ (by omega) (by omega) (by rw [i5a, pz5 _ (by omega)]; exact h2.put hN (by omega) (by rw [mG_s _ _ _ (by omega) (by omega), if_neg na, if_neg nb, if_neg np]; show gmL _ (t (pz _)) (t (pz _)) = _; rw [i5b, nI_1, pz5 _ (by omega), pz5 _ (by omega), h2.1 (a + 1) b (Nat.le_refl _) (by omega) (by omega), show t (5 * a + b + 1) = _ from h2.2 (b + 1) (Nat.le_refl _) (by omega)]))
                  · have nb : b = N := (nI_eq (by omega) (by omega)).mp c64
                    refine s_aload_nr (j := 1) dX12_matchOf_67 rfl ?_
                    refine gS_matches dX12_matchOf_68 rfl hP ?_
                    refine s_iconst (v := 5) dX12_matchOf_71 (by decide) ?_
                    refine s_iload (j := 7) dX12_matchOf_72 rfl ?_
                    refine s_imul dX12_matchOf_74 ?_
                    refine s_iload (j := 8) dX12_matchOf_75 rfl ?_
                    refine s_iadd dX12_matchOf_77 ?_
                    refine s_iload (j := 7) dX12_matchOf_78 rfl ?_
                    refine s_iload_n (j := 4) dX12_matchOf_80 rfl ?_
                    refine s_icmp_ne dX12_matchOf_81 (tgt := 90) (by decide) (fun c81 => ?_) (fun c81 => ?_)
                    · refine s_iconst (v := 0) dX12_matchOf_90 (by decide) ?_
                      refine sS_matches dX12_matchOf_91 hP (by rw [i5a]; exact vp_in_nI (by omega) (by decide)) ?_
                      rw [mra_sa]
                      refine s_goto dX12_matchOf_92 (tgt := 153) (by decide) ?_
                      try rw [mra_sa]
                      refine s_iinc (j := 8) (v := _ + (-1)) dX12_matchOf_153 rfl rfl (by decide) rfl ?_
                      refine s_goto dX12_matchOf_156 (tgt := 31) (by decide) ?_
                      refine s_locals [2, 3, 4, 5, 6, 7, 8, 0] rfl ?_
                      exact ihb b _ (by omega) (by omega) (by rw [i5a, pz5 _ (by omega)]; exact h2.put hN (by omega) (by rw [mG_s _ _ _ (by omega) (by omega), if_neg na, if_pos nb]))
                    · refine s_ldcw dX12_matchOf_84 rfl m1565 ?_
                      refine s_goto dX12_matchOf_87 (tgt := 91) (by decide) ?_
                      refine sS_matches dX12_matchOf_91 hP (by rw [i5a]; exact vp_in_nI (by omega) (by decide)) ?_
                      rw [mra_sa]
                      refine s_goto dX12_matchOf_92 (tgt := 153) (by decide) ?_
                      try rw [mra_sa]
                      refine s_iinc (j := 8) (v := _ + (-1)) dX12_matchOf_153 rfl rfl (by decide) rfl ?_
                      refine s_goto dX12_matchOf_156 (tgt := 31) (by decide) ?_
                      refine s_locals [2, 3, 4, 5, 6, 7, 8, 0] rfl ?_
                      exact absurd c81 c58
              · rw [nI_add, show (2 : Int32) = nI 2 from rfl, nI_mod (by omega) (by decide)] at c43
                have np : (a + b) % 2 = 0 := (nI_eq (by omega) (by decide)).mp c43
                refine s_lload (j := 4) dX12_matchOf_46 rfl ?_
                refine s_goto dX12_matchOf_48 (tgt := 53) (by decide) ?_
                refine s_lstore dX12_matchOf_53 (by decide) rfl ?_
                refine s_iload (j := 7) dX12_matchOf_55 rfl ?_
                refine s_iload_n (j := 4) dX12_matchOf_57 rfl ?_
                refine s_icmp_eq dX12_matchOf_58 (tgt := 67) (by decide) (fun c58 => ?_) (fun c58 => ?_)
                · have na : a = N := (nI_eq (by omega) (by omega)).mp c58
                  refine s_aload_nr (j := 1) dX12_matchOf_67 rfl ?_
                  refine gS_matches dX12_matchOf_68 rfl hP ?_
                  refine s_iconst (v := 5) dX12_matchOf_71 (by decide) ?_
                  refine s_iload (j := 7) dX12_matchOf_72 rfl ?_
                  refine s_imul dX12_matchOf_74 ?_
                  refine s_iload (j := 8) dX12_matchOf_75 rfl ?_
                  refine s_iadd dX12_matchOf_77 ?_
                  refine s_iload (j := 7) dX12_matchOf_78 rfl ?_
                  refine s_iload_n (j := 4) dX12_matchOf_80 rfl ?_
                  refine s_icmp_ne dX12_matchOf_81 (tgt := 90) (by decide) (fun c81 => ?_) (fun c81 => ?_)
                  · refine s_iconst (v := 0) dX12_matchOf_90 (by decide) ?_
                    refine sS_matches dX12_matchOf_91 hP (by rw [i5a]; exact vp_in_nI (by omega) (by decide)) ?_
                    rw [mra_sa]
                    refine s_goto dX12_matchOf_92 (tgt := 153) (by decide) ?_
                    try rw [mra_sa]
                    refine s_iinc (j := 8) (v := _ + (-1)) dX12_matchOf_153 rfl rfl (by decide) rfl ?_
                    refine s_goto dX12_matchOf_156 (tgt := 31) (by decide) ?_
                    refine s_locals [2, 3, 4, 5, 6, 7, 8, 0] rfl ?_
                    exact absurd c58 c81
                  · refine s_ldcw dX12_matchOf_84 rfl m1565 ?_
                    refine s_goto dX12_matchOf_87 (tgt := 91) (by decide) ?_
                    refine sS_matches dX12_matchOf_91 hP (by rw [i5a]; exact vp_in_nI (by omega) (by decide)) ?_
                    rw [mra_sa]
                    refine s_goto dX12_matchOf_92 (tgt := 153) (by decide) ?_
                    try rw [mra_sa]
                    refine s_iinc (j := 8) (v := _ + (-1)) dX12_matchOf_153 rfl rfl (by decide) rfl ?_
                    refine s_goto dX12_matchOf_156 (tgt := 31) (by decide) ?_
                    refine s_locals [2, 3, 4, 5, 6, 7, 8, 0] rfl ?_
                    exact ihb b _ (by omega) (by omega) (by rw [i5a, pz5 _ (by omega)]; exact h2.put hN (by omega) (by rw [mG_s _ _ _ (by omega) (by omega), if_pos na]))
                · have na : ¬ a = N := fun z => c58 (by rw [z])
                  refine s_iload (j := 8) dX12_matchOf_61 rfl ?_
                  refine s_iload_n (j := 4) dX12_matchOf_63 rfl ?_
                  refine s_icmp_ne dX12_matchOf_64 (tgt := 95) (by decide) (fun c64 => ?_) (fun c64 => ?_)
                  · have nb : ¬ b = N := fun z => c64 (by rw [z])
                    refine s_aload_nr (j := 1) dX12_matchOf_95 rfl ?_
                    refine gS_matches dX12_matchOf_96 rfl hP ?_
                    refine s_iconst (v := 5) dX12_matchOf_99 (by decide) ?_
                    refine s_iload (j := 7) dX12_matchOf_100 rfl ?_
                    refine s_imul dX12_matchOf_102 ?_
                    refine s_iload (j := 8) dX12_matchOf_103 rfl ?_
                    refine s_iadd dX12_matchOf_105 ?_
                    refine s_lload (j := 0) dX12_matchOf_106 rfl ?_
                    refine s_aload_nr (j := 1) dX12_matchOf_108 rfl ?_
                    refine gS_matches dX12_matchOf_109 rfl hP ?_
                    refine s_iconst (v := 5) dX12_matchOf_112 (by decide) ?_
                    refine s_iload (j := 7) dX12_matchOf_113 rfl ?_
                    refine s_imul dX12_matchOf_115 ?_
                    refine s_iconst (v := 5) dX12_matchOf_116 (by decide) ?_
                    refine s_iadd dX12_matchOf_117 ?_
                    refine s_iload (j := 8) dX12_matchOf_118 rfl ?_
                    refine s_iadd dX12_matchOf_120 ?_
                    refine lS_matches dX12_matchOf_121 hP (by rw [i5b]; exact vp_in_nI (by omega) (by decide)) ?_
                    refine s_i2l dX12_matchOf_122 ?_
                    refine s_lmul dX12_matchOf_123 ?_
                    refine s_ldc2 dX12_matchOf_124 rfl m1566 ?_
                    refine s_lload (j := 0) dX12_matchOf_127 rfl ?_
                    refine s_lsub dX12_matchOf_129 ?_
                    refine s_aload_nr (j := 1) dX12_matchOf_130 rfl ?_
                    refine gS_matches dX12_matchOf_131 rfl hP ?_
                    refine s_iconst (v := 5) dX12_matchOf_134 (by decide) ?_
                    refine s_iload (j := 7) dX12_matchOf_135 rfl ?_
                    refine s_imul dX12_matchOf_137 ?_
                    refine s_iload (j := 8) dX12_matchOf_138 rfl ?_
                    refine s_iadd dX12_matchOf_140 ?_
                    refine s_iconst (v := 1) dX12_matchOf_141 (by decide) ?_
                    refine s_iadd dX12_matchOf_142 ?_
                    refine lS_matches dX12_matchOf_143 hP (by rw [i5c]; exact vp_in_nI (by omega) (by decide)) ?_
                    refine s_i2l dX12_matchOf_144 ?_
                    refine s_lmul dX12_matchOf_145 ?_
                    refine s_ladd dX12_matchOf_146 ?_
                    refine s_ldc2 dX12_matchOf_147 rfl m1566 ?_
                    refine s_ldiv dX12_matchOf_150 (by decide) ?_
                    refine s_l2i dX12_matchOf_151 ?_
                    refine sS_matches dX12_matchOf_152 hP (by rw [i5a]; exact vp_in_nI (by omega) (by decide)) ?_
                    try rw [mra_sa]
                    refine s_iinc (j := 8) (v := _ + (-1)) dX12_matchOf_153 rfl rfl (by decide) rfl ?_
                    refine s_goto dX12_matchOf_156 (tgt := 31) (by decide) ?_
                    refine s_locals [2, 3, 4, 5, 6, 7, 8, 0] rfl ?_
                    exact ihb b _ (by omega) (by omega) (by rw [i5a, pz5 _ (by omega)]; exact h2.put hN (by omega) (by rw [mG_s _ _ _ (by omega) (by omega), if_neg na, if_neg nb, if_pos np]; show gmL _ (t (pz _)) (t (pz _)) = _; rw [i5b, nI_1, pz5 _ (by omega), pz5 _ (by omega), h2.1 (a + 1) b (Nat.le_refl _) (by omega) (by omega), show t (5 * a + b + 1) = _ from h2.2 (b + 1) (Nat.le_refl _) (by omega)]))
                  · have nb : b = N := (nI_eq (by omega) (by omega)).mp c64
                    refine s_aload_nr (j := 1) dX12_matchOf_67 rfl ?_
                    refine gS_matches dX12_matchOf_68 rfl hP ?_
                    refine s_iconst (v := 5) dX12_matchOf_71 (by decide) ?_
                    refine s_iload (j := 7) dX12_matchOf_72 rfl ?_
                    refine s_imul dX12_matchOf_74 ?_
                    refine s_iload (j := 8) dX12_matchOf_75 rfl ?_
                    refine s_iadd dX12_matchOf_77 ?_
                    refine s_iload (j := 7) dX12_matchOf_78 rfl ?_
                    refine s_iload_n (j := 4) dX12_matchOf_80 rfl ?_
                    refine s_icmp_ne dX12_matchOf_81 (tgt := 90) (by decide) (fun c81 => ?_) (fun c81 => ?_)
                    · refine s_iconst (v := 0) dX12_matchOf_90 (by decide) ?_
                      refine sS_matches dX12_matchOf_91 hP (by rw [i5a]; exact vp_in_nI (by omega) (by decide)) ?_
                      rw [mra_sa]
                      refine s_goto dX12_matchOf_92 (tgt := 153) (by decide) ?_
                      try rw [mra_sa]
                      refine s_iinc (j := 8) (v := _ + (-1)) dX12_matchOf_153 rfl rfl (by decide) rfl ?_
                      refine s_goto dX12_matchOf_156 (tgt := 31) (by decide) ?_
                      refine s_locals [2, 3, 4, 5, 6, 7, 8, 0] rfl ?_
                      exact ihb b _ (by omega) (by omega) (by rw [i5a, pz5 _ (by omega)]; exact h2.put hN (by omega) (by rw [mG_s _ _ _ (by omega) (by omega), if_neg na, if_pos nb]))
                    · refine s_ldcw dX12_matchOf_84 rfl m1565 ?_
                      refine s_goto dX12_matchOf_87 (tgt := 91) (by decide) ?_
                      refine sS_matches dX12_matchOf_91 hP (by rw [i5a]; exact vp_in_nI (by omega) (by decide)) ?_
                      rw [mra_sa]
                      refine s_goto dX12_matchOf_92 (tgt := 153) (by decide) ?_
                      try rw [mra_sa]
                      refine s_iinc (j := 8) (v := _ + (-1)) dX12_matchOf_153 rfl rfl (by decide) rfl ?_
                      refine s_goto dX12_matchOf_156 (tgt := 31) (by decide) ?_
                      refine s_locals [2, 3, 4, 5, 6, 7, 8, 0] rfl ?_
                      exact absurd c81 c58
        refine s_locals [1, 2, 3, 4, 5, 6, 7, 0] rfl ?_
        have e8 := LB (N + 2) (N + 1) t (by omega) (by omega) ⟨h2, fun b h3 h4 => by omega⟩
        rw [nI_m1] at e8
        exact e8
  refine s_locals [3, 4, 5, 6, 2, 1, 0] rfl ?_
  rw [show mh P (scr M s13) D = mh P (scr M (mra s13 17 (s13.2.1 17))) D by rw [mra_id]]
  have e9 := LA (N + 2) (N + 1) (s13.2.1 17) (by omega) (by omega) (fun a b h1 h2 => by omega)
  rw [nI_m1] at e9
  exact e9

set_option maxRecDepth 100000 in
set_option maxHeartbeats 4000000 in
theorem m_match (d : Nat) (P D : HP) (M s : MZ) (hP : P.length = 95) (p q m : Int32) (hz : 0 ≤ M.1 0 ∧ M.1 0 ≤ 4) (hs : ∀ i, i < 4 → 0 ≤ M.2.1 4 i) (cl : CLs) (hcl : CN M cl) : Con (d + 9) qX12_match 0 0 [.ref 95, .int p, .int q, .int m] (mh P (scr M s) D) (XT P D (sp_match M cl p q m) M) := by
  refine Con.of (by decide +kernel) (Nat.le_of_ble_eq_true rfl) ?_
  show Sem (d + 9) qX12_match 0 0 0 [(0, .ref 95), (1, .int p), (2, .int q), (3, .int m)] [] (mh P (scr M s) D) _
  refine s_aload_nr (j := 0) dX12_match_0 rfl ?_
  refine s_iload_n (j := 1) dX12_match_1 rfl ?_
  refine s_V1i cv_X12_211 rfl dX12_match_2 (mh_get (k := 0) hP rfl) rfl (Nat.le_of_ble_eq_true rfl) (n_isServer _ P D M _ hP _) (fun y2 h2 q2 => ?_)
  obtain ⟨rfl, rfl⟩ := q2
  refine s_if_eq dX12_match_5 (tgt := 16) (by decide) (fun c5 => ?_) (fun c5 => ?_)
  · replace c5 := b2i_0.mp c5
    refine s_iconst (v := -1) dX12_match_16 (by decide) ?_
    exact e_iret dX12_match_17 rfl (by unfold sp_match; (first | rw [if_pos c5] | rw [if_neg c5] | skip); first | exact ⟨rfl, _, rfl⟩ | contradiction | (exfalso; (try simp only [Int32.not_lt, Int32.not_le, Int32.le_iff_toInt_le, Int32.lt_iff_toInt_lt, ← Int32.toInt_inj] at *); (try simp at *); omega) | (simp_all; done))
  · replace c5 := b2i_n0.mp c5
    refine s_aload_nr (j := 0) dX12_match_8 rfl ?_
    refine s_iload_n (j := 2) dX12_match_9 rfl ?_
    refine s_V1i cv_X12_211 rfl dX12_match_10 (mh_get (k := 0) hP rfl) rfl (Nat.le_of_ble_eq_true rfl) (n_isServer _ P D M _ hP _) (fun y10 h10 q10 => ?_)
    obtain ⟨rfl, rfl⟩ := q10
    refine s_if_ne dX12_match_13 (tgt := 18) (by decide) (fun c13 => ?_) (fun c13 => ?_)
    · replace c13 := b2i_n0.mp c13
      have hp := in4_of hz c5
      have hq := in4_of hz c13
      refine s_iload_n (j := 1) dX12_match_18 rfl ?_
      refine s_iload_n (j := 2) dX12_match_19 rfl ?_
      refine s_icmp_eq dX12_match_20 (tgt := 33) (by decide) (fun c20 => ?_) (fun c20 => ?_)
      · refine s_bipush (v := -2) dX12_match_33 (by decide) ?_
        refine s_goto dX12_match_35 (tgt := 45) (by decide) ?_
        exact e_iret dX12_match_45 rfl (by unfold sp_match; (first | rw [if_pos c5] | rw [if_neg c5] | skip); (first | rw [if_pos c13] | rw [if_neg c13] | skip); (first | rw [if_pos c20] | rw [if_neg c20] | skip); first | exact ⟨rfl, _, rfl⟩ | contradiction | (exfalso; (try simp only [Int32.not_lt, Int32.not_le, Int32.le_iff_toInt_le, Int32.lt_iff_toInt_lt, ← Int32.toInt_inj] at *); (try simp at *); omega) | (simp_all; done))
      · refine s_aload_nr (j := 0) dX12_match_23 rfl ?_
        refine s_iload_n (j := 3) dX12_match_24 rfl ?_
        refine s_iconst (v := 1) dX12_match_25 (by decide) ?_
        refine s_iconst (v := 4) dX12_match_26 (by decide) ?_
        refine s_V3i cv_X12_203 rfl dX12_match_27 (mh_get (k := 0) hP rfl) rfl (Nat.le_of_ble_eq_true rfl) (m_in _ P D _ hP _ _ _) (fun y27 h27 q27 => ?_)
        obtain ⟨rfl, rfl⟩ := q27
        refine s_if_ne dX12_match_30 (tgt := 38) (by decide) (fun c30 => ?_) (fun c30 => ?_)
        · replace c30 := b2i_n0.mp c30
          obtain ⟨N, hN, rfl⟩ := bw_14 c30
          refine s_aload_nr (j := 0) dX12_match_38 rfl ?_
          refine s_iload_n (j := 1) dX12_match_39 rfl ?_
          refine s_iload_n (j := 2) dX12_match_40 rfl ?_
          refine s_iload_n (j := 3) dX12_match_41 rfl ?_
          refine s_V3i cv_X12_325 rfl dX12_match_42 (mh_get (k := 0) hP rfl) rfl (Nat.le_of_ble_eq_true rfl) (m_matchOf _ P D M _ hP p q hp cl hcl hs hq N hN) (fun y42 h42 q42 => ?_)
          obtain ⟨rfl, s42, rfl⟩ := q42
          exact e_iret dX12_match_45 rfl (by unfold sp_match; (first | rw [if_pos c5] | rw [if_neg c5] | skip); (first | rw [if_pos c13] | rw [if_neg c13] | skip); (first | rw [if_pos c20] | rw [if_neg c20] | skip); (first | rw [if_pos c30] | rw [if_neg c30] | skip); first | exact ⟨rfl, _, rfl⟩ | contradiction | (exfalso; (try simp only [Int32.not_lt, Int32.not_le, Int32.le_iff_toInt_le, Int32.lt_iff_toInt_lt, ← Int32.toInt_inj] at *); (try simp at *); omega) | (simp_all; done))
        · replace c30 := b2i_0.mp c30
          refine s_bipush (v := -2) dX12_match_33 (by decide) ?_
          refine s_goto dX12_match_35 (tgt := 45) (by decide) ?_
          exact e_iret dX12_match_45 rfl (by unfold sp_match; (first | rw [if_pos c5] | rw [if_neg c5] | skip); (first | rw [if_pos c13] | rw [if_neg c13] | skip); (first | rw [if_pos c20] | rw [if_neg c20] | skip); (first | rw [if_pos c30] | rw [if_neg c30] | skip); first | exact ⟨rfl, _, rfl⟩ | contradiction | (exfalso; (try simp only [Int32.not_lt, Int32.not_le, Int32.le_iff_toInt_le, Int32.lt_iff_toInt_lt, ← Int32.toInt_inj] at *); (try simp at *); omega) | (simp_all; done))
    · replace c13 := b2i_0.mp c13
      refine s_iconst (v := -1) dX12_match_16 (by decide) ?_
      exact e_iret dX12_match_17 rfl (by unfold sp_match; (first | rw [if_pos c5] | rw [if_neg c5] | skip); (first | rw [if_pos c13] | rw [if_neg c13] | skip); first | exact ⟨rfl, _, rfl⟩ | contradiction | (exfalso; (try simp only [Int32.not_lt, Int32.not_le, Int32.le_iff_toInt_le, Int32.lt_iff_toInt_lt, ← Int32.toInt_inj] at *); (try simp at *); omega) | (simp_all; done))

set_option maxRecDepth 100000 in
set_option maxHeartbeats 4000000 in
theorem m_ahead (d : Nat) (P D : HP) (M s : MZ) (hP : P.length = 95) (p q m : Int32) (hz : 0 ≤ M.1 0 ∧ M.1 0 ≤ 4) (hs : ∀ i, i < 4 → 0 ≤ M.2.1 4 i) (cl : CLs) (hcl : CN M cl) : Con (d + 9) qX12_ahead 0 0 [.ref 95, .int p, .int q, .int m] (mh P (scr M s) D) (XT P D (sp_ahead M cl p q m) M) := by
  refine Con.of (by decide +kernel) (Nat.le_of_ble_eq_true rfl) ?_
  show Sem (d + 9) qX12_ahead 0 0 0 [(0, .ref 95), (1, .int p), (2, .int q), (3, .int m)] [] (mh P (scr M s) D) _
  refine s_aload_nr (j := 0) dX12_ahead_0 rfl ?_
  refine s_iload_n (j := 1) dX12_ahead_1 rfl ?_
  refine s_V1i cv_X12_211 rfl dX12_ahead_2 (mh_get (k := 0) hP rfl) rfl (Nat.le_of_ble_eq_true rfl) (n_isServer _ P D M _ hP _) (fun y2 h2 q2 => ?_)
  obtain ⟨rfl, rfl⟩ := q2
  refine s_if_eq dX12_ahead_5 (tgt := 16) (by decide) (fun c5 => ?_) (fun c5 => ?_)
  · replace c5 := b2i_0.mp c5
    refine s_ldcw dX12_ahead_16 rfl m1535 ?_
    exact e_iret dX12_ahead_19 rfl (by unfold sp_ahead; (first | rw [if_pos c5] | rw [if_neg c5] | skip); first | exact ⟨rfl, _, rfl⟩ | contradiction | (exfalso; (try simp only [Int32.not_lt, Int32.not_le, Int32.le_iff_toInt_le, Int32.lt_iff_toInt_lt, ← Int32.toInt_inj] at *); (try simp at *); omega) | (simp_all; done))
  · replace c5 := b2i_n0.mp c5
    refine s_aload_nr (j := 0) dX12_ahead_8 rfl ?_
    refine s_iload_n (j := 2) dX12_ahead_9 rfl ?_
    refine s_V1i cv_X12_211 rfl dX12_ahead_10 (mh_get (k := 0) hP rfl) rfl (Nat.le_of_ble_eq_true rfl) (n_isServer _ P D M _ hP _) (fun y10 h10 q10 => ?_)
    obtain ⟨rfl, rfl⟩ := q10
    refine s_if_ne dX12_ahead_13 (tgt := 20) (by decide) (fun c13 => ?_) (fun c13 => ?_)
    · replace c13 := b2i_n0.mp c13
      have hp := in4_of hz c5
      have hq := in4_of hz c13
      refine s_iload_n (j := 1) dX12_ahead_20 rfl ?_
      refine s_iload_n (j := 2) dX12_ahead_21 rfl ?_
      refine s_icmp_eq dX12_ahead_22 (tgt := 35) (by decide) (fun c22 => ?_) (fun c22 => ?_)
      · refine s_ldcw dX12_ahead_35 rfl m1587 ?_
        refine s_goto dX12_ahead_38 (tgt := 60) (by decide) ?_
        exact e_iret dX12_ahead_60 rfl (by unfold sp_ahead; (first | rw [if_pos c5] | rw [if_neg c5] | skip); (first | rw [if_pos c13] | rw [if_neg c13] | skip); (first | rw [if_pos c22] | rw [if_neg c22] | skip); first | exact ⟨rfl, _, rfl⟩ | contradiction | (exfalso; (try simp only [Int32.not_lt, Int32.not_le, Int32.le_iff_toInt_le, Int32.lt_iff_toInt_lt, ← Int32.toInt_inj] at *); (try simp at *); omega) | (simp_all; done))
      · refine s_aload_nr (j := 0) dX12_ahead_25 rfl ?_
        refine s_iload_n (j := 3) dX12_ahead_26 rfl ?_
        refine s_iconst (v := 1) dX12_ahead_27 (by decide) ?_
        refine s_iconst (v := 4) dX12_ahead_28 (by decide) ?_
        refine s_V3i cv_X12_203 rfl dX12_ahead_29 (mh_get (k := 0) hP rfl) rfl (Nat.le_of_ble_eq_true rfl) (m_in _ P D _ hP _ _ _) (fun y29 h29 q29 => ?_)
        obtain ⟨rfl, rfl⟩ := q29
        refine s_if_ne dX12_ahead_32 (tgt := 41) (by decide) (fun c32 => ?_) (fun c32 => ?_)
        · replace c32 := b2i_n0.mp c32
          obtain ⟨N, hN, rfl⟩ := bw_14 c32
          refine s_aload_nr (j := 0) dX12_ahead_41 rfl ?_
          refine s_iload_n (j := 1) dX12_ahead_42 rfl ?_
          refine s_iload_n (j := 2) dX12_ahead_43 rfl ?_
          refine s_iload_n (j := 3) dX12_ahead_44 rfl ?_
          refine s_V3i cv_X12_325 rfl dX12_ahead_45 (mh_get (k := 0) hP rfl) rfl (Nat.le_of_ble_eq_true rfl) (m_matchOf _ P D M _ hP p q hp cl hcl hs hq N hN) (fun y45 h45 q45 => ?_)
          obtain ⟨rfl, s45, rfl⟩ := q45
          refine s_ldcw dX12_ahead_48 rfl m1565 ?_
          refine s_aload_nr (j := 0) dX12_ahead_51 rfl ?_
          refine s_iload_n (j := 2) dX12_ahead_52 rfl ?_
          refine s_iload_n (j := 1) dX12_ahead_53 rfl ?_
          refine s_iload_n (j := 3) dX12_ahead_54 rfl ?_
          refine s_V3i cv_X12_325 rfl dX12_ahead_55 (mh_get (k := 0) hP rfl) rfl (Nat.le_of_ble_eq_true rfl) (m_matchOf _ P D M _ hP q p hq cl hcl hs hp N hN) (fun y55 h55 q55 => ?_)
          obtain ⟨rfl, s55, rfl⟩ := q55
          refine s_isub dX12_ahead_58 ?_
          refine s_isub dX12_ahead_59 ?_
          exact e_iret dX12_ahead_60 rfl (by unfold sp_ahead; (first | rw [if_pos c5] | rw [if_neg c5] | skip); (first | rw [if_pos c13] | rw [if_neg c13] | skip); (first | rw [if_pos c22] | rw [if_neg c22] | skip); (first | rw [if_pos c32] | rw [if_neg c32] | skip); first | exact ⟨rfl, _, rfl⟩ | contradiction | (exfalso; (try simp only [Int32.not_lt, Int32.not_le, Int32.le_iff_toInt_le, Int32.lt_iff_toInt_lt, ← Int32.toInt_inj] at *); (try simp at *); omega) | (simp_all; done))
        · replace c32 := b2i_0.mp c32
          refine s_ldcw dX12_ahead_35 rfl m1587 ?_
          refine s_goto dX12_ahead_38 (tgt := 60) (by decide) ?_
          exact e_iret dX12_ahead_60 rfl (by unfold sp_ahead; (first | rw [if_pos c5] | rw [if_neg c5] | skip); (first | rw [if_pos c13] | rw [if_neg c13] | skip); (first | rw [if_pos c22] | rw [if_neg c22] | skip); (first | rw [if_pos c32] | rw [if_neg c32] | skip); first | exact ⟨rfl, _, rfl⟩ | contradiction | (exfalso; (try simp only [Int32.not_lt, Int32.not_le, Int32.le_iff_toInt_le, Int32.lt_iff_toInt_lt, ← Int32.toInt_inj] at *); (try simp at *); omega) | (simp_all; done))
    · replace c13 := b2i_0.mp c13
      refine s_ldcw dX12_ahead_16 rfl m1535 ?_
      exact e_iret dX12_ahead_19 rfl (by unfold sp_ahead; (first | rw [if_pos c5] | rw [if_neg c5] | skip); (first | rw [if_pos c13] | rw [if_neg c13] | skip); first | exact ⟨rfl, _, rfl⟩ | contradiction | (exfalso; (try simp only [Int32.not_lt, Int32.not_le, Int32.le_iff_toInt_le, Int32.lt_iff_toInt_lt, ← Int32.toInt_inj] at *); (try simp at *); omega) | (simp_all; done))

set_option maxRecDepth 100000 in
set_option maxHeartbeats 4000000 in
theorem m_who (d : Nat) (P D : HP) (M s : MZ) (hP : P.length = 95) (hz : 0 ≤ M.1 0 ∧ M.1 0 ≤ 4) (hs : ∀ i, i < 4 → 0 ≤ M.2.1 4 i) (h12 : bw (M.1 12) 6) : Con (d + 1) qX12_who 0 0 [.ref 95] (mh P (scr M s) D) (XI (sp_who M) (mh P (scr M s) D)) := by
  refine Con.of (by decide +kernel) (Nat.le_of_ble_eq_true rfl) ?_
  show Sem (d + 1) qX12_who 0 0 0 [(0, .ref 95)] [] (mh P (scr M s) D) _
  obtain ⟨S, hS, eS⟩ := bw_of (m := 4) (n := 4) (by decide) hz
  obtain ⟨T, hT, eT⟩ := h12
  have pS : pz (M.1 0) = S := by rw [eS]; exact nI_clamp (by omega)
  have pT : pz (M.1 12) = T := by rw [eT]; exact nI_clamp (by omega)
  refine s_iconst (v := 0) dX12_who_0 (by decide) ?_
  refine s_istore_n dX12_who_1 (by decide) rfl ?_
  refine s_iconst (v := 0) dX12_who_2 (by decide) ?_
  refine s_istore_n dX12_who_3 (by decide) rfl ?_
  have LA : ∀ (n : Nat) (p : Nat), S - p < n → p ≤ S → Sem (d + 1) qX12_who 0 0 4 [(0, .ref 95), (1, .int (whO M T p)), (2, .int (nI p))] [] (mh P (scr M s) D) (XI (sp_who M) (mh P (scr M s) D)) := by
    intro n
    induction n with
    | zero => intro p hm; exact absurd hm (Nat.not_lt_zero _)
    | succ n iha =>
      intro p hma h1
      refine s_iload_n (j := 2) dX12_who_4 rfl ?_
      refine s_aload_nr (j := 0) dX12_who_5 rfl ?_
      refine gS_servers dX12_who_6 rfl hP ?_
      refine s_icmp_ge dX12_who_9 (tgt := 72) (by decide) (fun c9 => ?_) (fun c9 => ?_)
      · rw [eS] at c9
        obtain rfl : S = p := (Nat.le_antisymm h1 ((nI_leI (by omega) (by omega)).mp c9)).symm
        refine s_iload_n (j := 1) dX12_who_72 rfl ?_
        exact e_iret dX12_who_73 rfl (by exact ⟨by rw [sp_who, pS, pT], rfl⟩)
      · rw [eS] at c9
        have ltp : p < S := Nat.lt_of_not_le fun z => c9 ((nI_leI (by omega) (by omega)).mpr z)
        have hp : vp_in (nI p) 4 := vp_in_nI (by omega) (by decide)
        refine s_iconst (v := 0) dX12_who_12 (by decide) ?_
        refine s_istore_n dX12_who_13 (by decide) rfl ?_
        have LB : ∀ (n : Nat) (k : Nat), T - k < n → k ≤ T → Sem (d + 1) qX12_who 0 0 14 [(0, .ref 95), (1, .int (whI M p k (whO M T p))), (2, .int (nI p)), (3, .int (nI k))] [] (mh P (scr M s) D) (XI (sp_who M) (mh P (scr M s) D)) := by
          intro n
          induction n with
          | zero => intro k hm; exact absurd hm (Nat.not_lt_zero _)
          | succ n ihb =>
            intro k hmb h2
            refine s_iload_n (j := 3) dX12_who_14 rfl ?_
            refine s_aload_nr (j := 0) dX12_who_15 rfl ?_
            refine gS_seen dX12_who_16 rfl hP ?_
            refine s_icmp_ge dX12_who_19 (tgt := 66) (by decide) (fun c19 => ?_) (fun c19 => ?_)
            · rw [eT] at c19
              obtain rfl : T = k := (Nat.le_antisymm h2 ((nI_leI (by omega) (by omega)).mp c19)).symm
              refine s_iinc (j := 2) (v := _ + (1)) dX12_who_66 rfl rfl (by decide) rfl ?_
              refine s_goto dX12_who_69 (tgt := 4) (by decide) ?_
              refine s_locals [1, 2, 0] rfl ?_
              rw [nI_1]
              exact iha (p + 1) (by omega) (by omega)
            · rw [eT] at c19
              have ltk : k < T := Nat.lt_of_not_le fun z => c19 ((nI_leI (by omega) (by omega)).mpr z)
              refine s_iload_n (j := 1) dX12_who_22 rfl ?_
              refine s_aload_nr (j := 0) dX12_who_23 rfl ?_
              refine s_iload_n (j := 2) dX12_who_24 rfl ?_
              refine s_V1i cv_X12_287 rfl dX12_who_25 (mh_get (k := 0) hP rfl) rfl (Nat.le_of_ble_eq_true rfl) (n_firstOf _ P D M _ hP _ hp hs) (fun y25 h25 q25 => ?_)
              obtain ⟨rfl, rfl⟩ := q25
              refine s_aload_nr (j := 0) dX12_who_28 rfl ?_
              refine gS_seenOne dX12_who_29 rfl hP ?_
              refine s_iload_n (j := 3) dX12_who_32 rfl ?_
              refine lS_seenOne dX12_who_33 hP (by exact vp_in_nI (by omega) (by decide)) ?_
              refine s_icmp_ne dX12_who_34 (tgt := 57) (by decide) (fun c34 => ?_) (fun c34 => ?_)
              · refine s_iconst (v := 0) dX12_who_57 (by decide) ?_
                refine s_ior dX12_who_58 ?_
                refine s_istore_n dX12_who_59 (by decide) rfl ?_
                refine s_iinc (j := 3) (v := _ + (1)) dX12_who_60 rfl rfl (by decide) rfl ?_
                refine s_goto dX12_who_63 (tgt := 14) (by decide) ?_
                refine s_locals [2, 1, 3, 0] rfl ?_
                have ek : pz (nI k) = k := nI_clamp (by omega)
                have e9 : whI M p (k + 1) (whO M T p) = whI M p k (whO M T p) ||| 0 := by rw [whI, if_neg (fun z => c34 (by rw [ek]; exact z.1))]
                rw [nI_1, ← e9]
                exact ihb (k + 1) (by omega) (by omega)
              · refine s_aload_nr (j := 0) dX12_who_37 rfl ?_
                refine s_iload_n (j := 2) dX12_who_38 rfl ?_
                refine s_V1i cv_X12_290 rfl dX12_who_39 (mh_get (k := 0) hP rfl) rfl (Nat.le_of_ble_eq_true rfl) (n_secondOf _ P D M _ hP _ hp) (fun y39 h39 q39 => ?_)
                obtain ⟨rfl, rfl⟩ := q39
                refine s_aload_nr (j := 0) dX12_who_42 rfl ?_
                refine gS_seenTwo dX12_who_43 rfl hP ?_
                refine s_iload_n (j := 3) dX12_who_46 rfl ?_
                refine lS_seenTwo dX12_who_47 hP (by exact vp_in_nI (by omega) (by decide)) ?_
                refine s_icmp_ne dX12_who_48 (tgt := 57) (by decide) (fun c48 => ?_) (fun c48 => ?_)
                · refine s_iconst (v := 0) dX12_who_57 (by decide) ?_
                  refine s_ior dX12_who_58 ?_
                  refine s_istore_n dX12_who_59 (by decide) rfl ?_
                  refine s_iinc (j := 3) (v := _ + (1)) dX12_who_60 rfl rfl (by decide) rfl ?_
                  refine s_goto dX12_who_63 (tgt := 14) (by decide) ?_
                  refine s_locals [2, 1, 3, 0] rfl ?_
                  have ek : pz (nI k) = k := nI_clamp (by omega)
                  have e9 : whI M p (k + 1) (whO M T p) = whI M p k (whO M T p) ||| 0 := by rw [whI, if_neg (fun z => c48 (by rw [ek]; exact z.2))]
                  rw [nI_1, ← e9]
                  exact ihb (k + 1) (by omega) (by omega)
                · refine s_iconst (v := 1) dX12_who_51 (by decide) ?_
                  refine s_iload_n (j := 2) dX12_who_52 rfl ?_
                  refine s_ishl dX12_who_53 ?_
                  refine s_goto dX12_who_54 (tgt := 58) (by decide) ?_
                  refine s_ior dX12_who_58 ?_
                  refine s_istore_n dX12_who_59 (by decide) rfl ?_
                  refine s_iinc (j := 3) (v := _ + (1)) dX12_who_60 rfl rfl (by decide) rfl ?_
                  refine s_goto dX12_who_63 (tgt := 14) (by decide) ?_
                  refine s_locals [2, 1, 3, 0] rfl ?_
                  have ek : pz (nI k) = k := nI_clamp (by omega)
                  have e9 : whI M p (k + 1) (whO M T p) = whI M p k (whO M T p) ||| (1 <<< (nI p &&& 31)) := by rw [whI, if_pos ⟨by rw [← ek]; exact c34, by rw [← ek]; exact c48⟩]
                  rw [nI_1, ← e9]
                  exact ihb (k + 1) (by omega) (by omega)
        refine s_locals [1, 2, 3, 0] rfl ?_
        exact LB (T + 1) 0 (by omega) (Nat.zero_le _)
  refine s_locals [2, 1, 0] rfl ?_
  exact LA (S + 1) 0 (by omega) (Nat.zero_le _)

set_option maxRecDepth 100000 in
set_option maxHeartbeats 4000000 in
theorem m_divisor (d : Nat) (P D : HP) (M s : MZ) (hP : P.length = 95) (a0 b0 : Nat) (ha : a0 < 2 ^ 31) (hb : b0 < 2 ^ 31) : Con d qX12_divisor 0 0 [.ref 95, .int (nI a0), .int (nI b0)] (mh P (scr M s) D) (XI (nI (Nat.gcd a0 b0)) (mh P (scr M s) D)) := by
  refine Con.of (by decide +kernel) (Nat.le_of_ble_eq_true rfl) ?_
  show Sem d qX12_divisor 0 0 0 [(0, .ref 95), (1, .int (nI a0)), (2, .int (nI b0))] [] (mh P (scr M s) D) _
  refine s_iload_n (j := 1) dX12_divisor_0 rfl ?_
  refine s_istore_n dX12_divisor_1 (by decide) rfl ?_
  refine s_iload_n (j := 3) dX12_divisor_2 rfl ?_
  refine s_istore dX12_divisor_3 (by decide) rfl ?_
  have LP : ∀ (n : Nat) (a b : Nat), b < n → a < 2 ^ 31 → b < 2 ^ 31 → Nat.gcd a b = Nat.gcd a0 b0 → Sem d qX12_divisor 0 0 5 [(0, .ref 95), (1, .int (nI a0)), (2, .int (nI b0)), (3, .int (nI a)), (4, .int (nI b))] [] (mh P (scr M s) D) (XI (nI (Nat.gcd a0 b0)) (mh P (scr M s) D)) := by
    intro n
    induction n with
    | zero => intro a b hm; exact absurd hm (Nat.not_lt_zero _)
    | succ n ih =>
      intro a b hm h1 h2 h3
      refine s_iload (j := 4) dX12_divisor_5 rfl ?_
      refine s_if_eq dX12_divisor_7 (tgt := 26) (by decide) (fun c7 => ?_) (fun c7 => ?_)
      · obtain rfl : b = 0 := (nI_eq (by omega) (by decide)).mp (show nI b = nI 0 from c7)
        refine s_iload_n (j := 3) dX12_divisor_26 rfl ?_
        exact e_iret dX12_divisor_27 rfl (by exact ⟨by rw [← h3, Nat.gcd_zero_right], rfl⟩)
      · refine s_iload_n (j := 3) dX12_divisor_10 rfl ?_
        refine s_iload (j := 4) dX12_divisor_11 rfl ?_
        refine s_irem dX12_divisor_13 (c7) ?_
        refine s_istore dX12_divisor_14 (by decide) rfl ?_
        refine s_iload (j := 5) dX12_divisor_16 rfl ?_
        refine s_istore_n dX12_divisor_18 (by decide) rfl ?_
        refine s_iload (j := 1) dX12_divisor_19 rfl ?_
        refine s_istore dX12_divisor_21 (by decide) rfl ?_
        refine s_goto dX12_divisor_23 (tgt := 5) (by decide) ?_
        refine s_locals [3, 4, 5, 1, 0] rfl ?_
        rw [nI_mod h1 h2]
        have hbp : 0 < b := Nat.pos_of_ne_zero fun z => c7 (by rw [z]; rfl)
        have hmod := Nat.mod_lt a hbp
        exact ih b (a % b) (by omega) h2 (by omega) (by rw [← h3, Nat.gcd_comm a b, Nat.gcd_rec b a, Nat.gcd_comm])
  refine s_locals [2, 3, 4, 1, 0] rfl ?_
  exact LP (b0 + 1) a0 b0 (Nat.lt_succ_self _) ha hb rfl

set_option maxRecDepth 100000 in
set_option maxHeartbeats 4000000 in
theorem m_lowest (d : Nat) (P D : HP) (M s : MZ) (hP : P.length = 95) (a0 b0 : Nat) (ha : a0 < 2 ^ 31) (hb : b0 < 2 ^ 31) (h0 : 0 < b0) (w : Int32) : Con (d + 1) qX12_lowest 0 0 [.ref 95, .int (nI a0), .int (nI b0), .int w] (mh P (scr M s) D) (XL (lwN a0 b0 w) (mh P (scr M s) D)) := by
  refine Con.of (by decide +kernel) (Nat.le_of_ble_eq_true rfl) ?_
  show Sem (d + 1) qX12_lowest 0 0 0 [(0, .ref 95), (1, .int (nI a0)), (2, .int (nI b0)), (3, .int w)] [] (mh P (scr M s) D) _
  refine s_aload_nr (j := 0) dX12_lowest_0 rfl ?_
  refine s_iload_n (j := 1) dX12_lowest_1 rfl ?_
  refine s_iload_n (j := 2) dX12_lowest_2 rfl ?_
  refine s_V2i cv_X12_329 rfl dX12_lowest_3 (mh_get (k := 0) hP rfl) rfl (Nat.le_of_ble_eq_true rfl) (m_divisor _ P D M _ hP a0 b0 ha hb) (fun y3 h3 q3 => ?_)
  obtain ⟨rfl, rfl⟩ := q3
  have hg : 0 < Nat.gcd a0 b0 := Nat.gcd_pos_of_pos_right _ h0
  have hgl : Nat.gcd a0 b0 ≤ b0 := Nat.gcd_le_right _ h0
  have hz0 : ¬ nI (Nat.gcd a0 b0) = 0 := fun z => by have := (nI_eq (by omega) (by decide)).mp (show _ = nI 0 from z); omega
  have l1 := Nat.div_le_self a0 (Nat.gcd a0 b0)
  have l2 := Nat.div_le_self b0 (Nat.gcd a0 b0)
  refine s_istore dX12_lowest_6 (by decide) rfl ?_
  refine s_iload_n (j := 4) dX12_lowest_8 rfl ?_
  refine s_if_ne dX12_lowest_9 (tgt := 20) (by decide) (fun c9 => ?_) (fun c9 => ?_)
  · refine s_iload_n (j := 3) dX12_lowest_20 rfl ?_
    refine s_iload (j := 0) dX12_lowest_21 rfl ?_
    refine s_idiv dX12_lowest_23 (hz0) ?_
    refine s_i2l dX12_lowest_24 ?_
    exact e_lret dX12_lowest_25 rfl (by first | exact ⟨by rw [nI_div (by omega) (by omega), nI_l (by omega), lwN, if_pos c9], rfl⟩ | exact ⟨by rw [nI_div (by omega) (by omega), nI_l (by omega), lwN, if_neg c9], rfl⟩)
  · refine s_iload_n (j := 2) dX12_lowest_12 rfl ?_
    refine s_iload (j := 0) dX12_lowest_13 rfl ?_
    refine s_idiv dX12_lowest_15 (hz0) ?_
    refine s_i2l dX12_lowest_16 ?_
    refine s_goto dX12_lowest_17 (tgt := 25) (by decide) ?_
    exact e_lret dX12_lowest_25 rfl (by first | exact ⟨by rw [nI_div (by omega) (by omega), nI_l (by omega), lwN, if_pos c9], rfl⟩ | exact ⟨by rw [nI_div (by omega) (by omega), nI_l (by omega), lwN, if_neg c9], rfl⟩)

set_option maxRecDepth 100000 in
set_option maxHeartbeats 4000000 in
theorem m_odds (d : Nat) (P D : HP) (M s : MZ) (hP : P.length = 95) (p w : Int32) (hz : 0 ≤ M.1 0 ∧ M.1 0 ≤ 4) (hs : ∀ i, i < 4 → 0 ≤ M.2.1 4 i) (cl : CLs) (hcl : CN M cl) : Con (d + 6) qX12_odds 0 0 [.ref 95, .int p, .int w] (mh P (scr M s) D) (XSL P D (sp_odds M cl p w) M s) := by
  refine Con.of (by decide +kernel) (Nat.le_of_ble_eq_true rfl) ?_
  show Sem (d + 6) qX12_odds 0 0 0 [(0, .ref 95), (1, .int p), (2, .int w)] [] (mh P (scr M s) D) _
  rw [show mh P (scr M s) D = mh P (scr M (mra s 15 (s.2.1 15))) D by rw [mra_id]]
  generalize s.2.1 15 = g0
  refine s_aload_nr (j := 0) dX12_odds_0 rfl ?_
  refine s_iload_n (j := 1) dX12_odds_1 rfl ?_
  refine s_V1i cv_X12_211 rfl dX12_odds_2 (mh_get (k := 0) hP rfl) rfl (Nat.le_of_ble_eq_true rfl) (n_isServer _ P D M _ hP _) (fun y2 h2 q2 => ?_)
  obtain ⟨rfl, rfl⟩ := q2
  refine s_if_eq dX12_odds_5 (tgt := 18) (by decide) (fun c5 => ?_) (fun c5 => ?_)
  · replace c5 := b2i_0.mp c5
    refine s_ldc2 dX12_odds_18 rfl m1600 ?_
    exact e_lret dX12_odds_21 rfl (by unfold sp_odds; (first | rw [if_pos c5] | rw [if_neg c5] | skip); first | exact ⟨rfl, _, rfl⟩ | contradiction | (exfalso; (try simp only [Int32.not_lt, Int32.not_le, Int32.le_iff_toInt_le, Int32.lt_iff_toInt_lt, ← Int32.toInt_inj] at *); (try simp at *); omega) | (simp_all; done))
  · replace c5 := b2i_n0.mp c5
    refine s_aload_nr (j := 0) dX12_odds_8 rfl ?_
    refine s_iload_n (j := 2) dX12_odds_9 rfl ?_
    refine s_iconst (v := 0) dX12_odds_10 (by decide) ?_
    refine s_iconst (v := 1) dX12_odds_11 (by decide) ?_
    refine s_V3i cv_X12_203 rfl dX12_odds_12 (mh_get (k := 0) hP rfl) rfl (Nat.le_of_ble_eq_true rfl) (m_in _ P D _ hP _ _ _) (fun y12 h12 q12 => ?_)
    obtain ⟨rfl, rfl⟩ := q12
    refine s_if_ne dX12_odds_15 (tgt := 22) (by decide) (fun c15 => ?_) (fun c15 => ?_)
    · replace c15 := b2i_n0.mp c15
      have hp := in4_of hz c5
      refine s_aload_nr (j := 0) dX12_odds_22 rfl ?_
      refine gS_stance dX12_odds_23 rfl hP ?_
      refine s_istore_n dX12_odds_26 (by decide) rfl ?_
      refine s_iconst (v := 0) dX12_odds_27 (by decide) ?_
      refine s_istore dX12_odds_28 (by decide) rfl ?_
      refine s_iconst (v := 0) dX12_odds_30 (by decide) ?_
      refine s_istore dX12_odds_31 (by decide) rfl ?_
      have LP : ∀ (n : Nat) (m : Nat) (v : Int32) (g : Nat → Int32), 3 - m < n → m ≤ 3 → Sem (d + 6) qX12_odds 0 0 33 [(0, .ref 95), (1, .int p), (2, .int w), (3, .int (M.1 3)), (4, .int (nI (odS M cl p m))), (5, .int (nI m))] [] (mh P (scr (ms1 M 3 v) (mra s 15 g)) D) (XSL P D (sp_odds M cl p w) M s) := by
        intro n
        induction n with
        | zero => intro m v g hm; exact absurd hm (Nat.not_lt_zero _)
        | succ n ih =>
          intro m v g hm h1
          refine s_iload (j := 5) dX12_odds_33 rfl ?_
          refine s_iconst (v := 3) dX12_odds_35 (by decide) ?_
          refine s_icmp_ge dX12_odds_36 (tgt := 61) (by decide) (fun c36 => ?_) (fun c36 => ?_)
          · have hm0 : m = 3 := Nat.le_antisymm h1 ((nI_leI (a := 3) (by decide) (by omega)).mp c36)
            subst hm0
            refine s_aload_nr (j := 0) dX12_odds_61 rfl ?_
            refine s_iload_n (j := 3) dX12_odds_62 rfl ?_
            refine pS_stance dX12_odds_63 rfl hP ?_
            rw [ms1_2, ms1_id]
            have hod := odS_le M cl p 3
            have hmil : MIL = 1000000 := rfl
            refine s_aload_nr (j := 0) dX12_odds_66 rfl ?_
            refine s_iload (j := 4) dX12_odds_67 rfl ?_
            refine s_ldcw dX12_odds_69 rfl m1601 ?_
            rw [show (3000000 : Int32) = nI (3 * MIL) from rfl]
            refine s_iload_n (j := 2) dX12_odds_72 rfl ?_
            refine s_V3l cv_X12_335 rfl dX12_odds_73 (mh_get (k := 0) hP rfl) rfl (Nat.le_of_ble_eq_true rfl) (m_lowest _ P D M _ hP (odS M cl p 3) (3 * MIL) (by omega) (by decide) (by decide) w) (fun y73 h73 q73 => ?_)
            obtain ⟨rfl, rfl⟩ := q73
            exact e_lret dX12_odds_76 rfl (by exact ⟨by rw [sp_odds, if_pos c5, if_pos c15], _, rfl⟩)
          · have hm0 : m < 3 := Nat.lt_of_not_le fun z => c36 ((nI_leI (a := 3) (by decide) (by omega)).mpr z)
            refine s_aload_nr (j := 0) dX12_odds_39 rfl ?_
            refine s_iload (j := 5) dX12_odds_40 rfl ?_
            refine pS_stance dX12_odds_42 rfl hP ?_
            rw [ms1_2]
            refine s_iload (j := 4) dX12_odds_45 rfl ?_
            refine s_aload_nr (j := 0) dX12_odds_47 rfl ?_
            refine s_iload_n (j := 1) dX12_odds_48 rfl ?_
            refine s_V1i cv_X12_309 rfl dX12_odds_49 (mh_get (k := 0) hP rfl) rfl (Nat.le_of_ble_eq_true rfl) (m_chanceNow _ P D (ms1 M 3 (nI m)) _ hP p hp cl (hcl.w1 (by decide)) hs) (fun y49 h49 q49 => ?_)
            obtain ⟨rfl, g49, rfl⟩ := q49
            try rw [mra_2]
            refine s_iadd dX12_odds_52 ?_
            refine s_istore dX12_odds_53 (by decide) rfl ?_
            refine s_iinc (j := 5) (v := _ + (1)) dX12_odds_55 rfl rfl (by decide) rfl ?_
            refine s_goto dX12_odds_58 (tgt := 33) (by decide) ?_
            refine s_locals [2, 3, 4, 5, 1, 0] rfl ?_
            have ez := (sNow_bw (ms1 M 3 (nI m)) cl p).nz (by decide)
            rw [ez.1, nI_add, nI_1]
            exact ih (m + 1) _ _ (by omega) (by omega)
      refine s_locals [3, 4, 5, 2, 1, 0] rfl ?_
      rw [show mh P (scr M (mra s 15 g0)) D = mh P (scr (ms1 M 3 (M.1 3)) (mra s 15 g0)) D by rw [ms1_id]]
      exact LP 4 0 _ _ (by decide) (by decide)
    · replace c15 := b2i_0.mp c15
      refine s_ldc2 dX12_odds_18 rfl m1600 ?_
      exact e_lret dX12_odds_21 rfl (by unfold sp_odds; (first | rw [if_pos c5] | rw [if_neg c5] | skip); (first | rw [if_pos c15] | rw [if_neg c15] | skip); first | exact ⟨rfl, _, rfl⟩ | contradiction | (exfalso; (try simp only [Int32.not_lt, Int32.not_le, Int32.le_iff_toInt_le, Int32.lt_iff_toInt_lt, ← Int32.toInt_inj] at *); (try simp at *); omega) | (simp_all; done))

set_option maxRecDepth 100000 in
set_option maxHeartbeats 4000000 in
theorem m_mean (d : Nat) (P D : HP) (M s : MZ) (hP : P.length = 95) (w : Int32) (hz : 0 ≤ M.1 0 ∧ M.1 0 ≤ 4) (hs : ∀ i, i < 4 → 0 ≤ M.2.1 4 i) (cl : CLs) (hcl : CN M cl) (hw : bw (M.1 1) 4) (hl : bw (M.1 2) 4) : Con (d + 8) qX12_mean 0 0 [.ref 95, .int w] (mh P (scr M s) D) (XTL P D (sp_mean M cl w) M) := by
  refine Con.of (by decide +kernel) (Nat.le_of_ble_eq_true rfl) ?_
  show Sem (d + 8) qX12_mean 0 0 0 [(0, .ref 95), (1, .int w)] [] (mh P (scr M s) D) _
  obtain ⟨S, hS, eS⟩ := bw_of (m := 4) (n := 4) (by decide) hz
  have pS : pz (M.1 0) = S := by rw [eS]; exact nI_clamp (by omega)
  refine s_aload_nr (j := 0) dX12_mean_0 rfl ?_
  refine s_iload_n (j := 1) dX12_mean_1 rfl ?_
  refine s_iconst (v := 0) dX12_mean_2 (by decide) ?_
  refine s_iconst (v := 1) dX12_mean_3 (by decide) ?_
  refine s_V3i cv_X12_203 rfl dX12_mean_4 (mh_get (k := 0) hP rfl) rfl (Nat.le_of_ble_eq_true rfl) (m_in _ P D _ hP _ _ _) (fun y4 h4 q4 => ?_)
  obtain ⟨rfl, rfl⟩ := q4
  refine s_if_eq dX12_mean_7 (tgt := 17) (by decide) (fun c7 => ?_) (fun c7 => ?_)
  · replace c7 := b2i_0.mp c7
    refine s_ldc2 dX12_mean_17 rfl m1600 ?_
    exact e_lret dX12_mean_20 rfl (by unfold sp_mean; (first | rw [if_pos c7] | rw [if_neg c7] | skip); first | exact ⟨rfl, _, rfl⟩ | contradiction | (exfalso; (try simp only [Int32.not_lt, Int32.not_le, Int32.le_iff_toInt_le, Int32.lt_iff_toInt_lt, ← Int32.toInt_inj] at *); (try simp at *); omega) | (simp_all; done))
  · replace c7 := b2i_n0.mp c7
    refine s_aload_nr (j := 0) dX12_mean_10 rfl ?_
    refine gS_servers dX12_mean_11 rfl hP ?_
    refine s_if_ne dX12_mean_14 (tgt := 21) (by decide) (fun c14 => ?_) (fun c14 => ?_)
    · have hS0 : 0 < S := Nat.pos_of_ne_zero fun z => c14 (by rw [eS, z]; rfl)
      have hmil : MIL = 1000000 := rfl
      refine s_iconst (v := 0) dX12_mean_21 (by decide) ?_
      refine s_istore_n dX12_mean_22 (by decide) rfl ?_
      refine s_iconst (v := 0) dX12_mean_23 (by decide) ?_
      refine s_istore_n dX12_mean_24 (by decide) rfl ?_
      have LP : ∀ (n : Nat) (m : Nat) (s : MZ), S - m < n → m ≤ S → Sem (d + 8) qX12_mean 0 0 25 [(0, .ref 95), (1, .int w), (2, .int (nI (meS M cl m))), (3, .int (nI m))] [] (mh P (scr M s) D) (XTL P D (sp_mean M cl w) M) := by
        intro n
        induction n with
        | zero => intro m s hm; exact absurd hm (Nat.not_lt_zero _)
        | succ n ih =>
          intro m s hm h1
          refine s_iload_n (j := 3) dX12_mean_25 rfl ?_
          refine s_aload_nr (j := 0) dX12_mean_26 rfl ?_
          refine gS_servers dX12_mean_27 rfl hP ?_
          refine s_icmp_ge dX12_mean_30 (tgt := 47) (by decide) (fun c30 => ?_) (fun c30 => ?_)
          · rw [eS] at c30
            obtain rfl : S = m := (Nat.le_antisymm h1 ((nI_leI (by omega) (by omega)).mp c30)).symm
            refine s_aload_nr (j := 0) dX12_mean_47 rfl ?_
            refine s_iload_n (j := 2) dX12_mean_48 rfl ?_
            refine s_aload_nr (j := 0) dX12_mean_49 rfl ?_
            refine gS_servers dX12_mean_50 rfl hP ?_
            rw [eS]
            have hme := meS_le M cl S
            rw [hmil] at hme
            refine s_iload_n (j := 1) dX12_mean_53 rfl ?_
            refine s_V3l cv_X12_335 rfl dX12_mean_54 (mh_get (k := 0) hP rfl) rfl (Nat.le_of_ble_eq_true rfl) (m_lowest _ P D M _ hP (meS M cl S) S (by omega) (by omega) (by omega) w) (fun y54 h54 q54 => ?_)
            obtain ⟨rfl, rfl⟩ := q54
            exact e_lret dX12_mean_57 rfl (by exact ⟨by rw [sp_mean, if_pos c7, if_neg c14, pS], _, rfl⟩)
          · rw [eS] at c30
            have ltm : m < S := Nat.lt_of_not_le fun z => c30 ((nI_leI (by omega) (by omega)).mpr z)
            have hp : vp_in (nI m) 4 := vp_in_nI (by omega) (by decide)
            refine s_iload_n (j := 2) dX12_mean_33 rfl ?_
            refine s_aload_nr (j := 0) dX12_mean_34 rfl ?_
            refine s_iload_n (j := 3) dX12_mean_35 rfl ?_
            refine s_V1i cv_X12_319 rfl dX12_mean_36 (mh_get (k := 0) hP rfl) rfl (Nat.le_of_ble_eq_true rfl) (m_gameNow _ P D M _ hP (nI m) hp cl hcl hs hw hl) (fun y36 h36 q36 => ?_)
            obtain ⟨rfl, s36, rfl⟩ := q36
            refine s_iadd dX12_mean_39 ?_
            refine s_istore_n dX12_mean_40 (by decide) rfl ?_
            refine s_iinc (j := 3) (v := _ + (1)) dX12_mean_41 rfl rfl (by decide) rfl ?_
            refine s_goto dX12_mean_44 (tgt := 25) (by decide) ?_
            refine s_locals [2, 3, 1, 0] rfl ?_
            have ez := (gG_bw M cl (nI m) (pz (M.1 1)) (pz (M.1 2))).nz (by decide)
            rw [show sGm M cl (nI m) = nI (pz (sGm M cl (nI m))) from ez.1, nI_add, nI_1]
            exact ih (m + 1) _ (by omega) (by omega)
      refine s_locals [2, 3, 1, 0] rfl ?_
      exact LP (S + 1) 0 _ (by omega) (Nat.zero_le _)
    · refine s_ldc2 dX12_mean_17 rfl m1600 ?_
      exact e_lret dX12_mean_20 rfl (by unfold sp_mean; (first | rw [if_pos c7] | rw [if_neg c7] | skip); (first | rw [if_pos c14] | rw [if_neg c14] | skip); first | exact ⟨rfl, _, rfl⟩ | contradiction | (exfalso; (try simp only [Int32.not_lt, Int32.not_le, Int32.le_iff_toInt_le, Int32.lt_iff_toInt_lt, ← Int32.toInt_inj] at *); (try simp at *); omega) | (simp_all; done))
