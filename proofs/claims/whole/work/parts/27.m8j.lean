set_option maxRecDepth 100000 in
set_option maxHeartbeats 800000 in
theorem m_judge (d : Nat) (P D : HP) (M : MZ) (hP : P.length = 95) (t j : Int32) (hz : 0 ≤ M.1 0 ∧ M.1 0 ≤ 4) (hlen : ∀ j, j < 6 → 0 ≤ M.2.1 37 j ∧ M.2.1 37 j ≤ 60) : Con (d + 2) qX12_judge 0 0 [.ref 95, .int t, .int j] (mh P M D) (XI (sp_judge M t j) (mh P M D)) := by
  refine Con.of (by decide +kernel) (Nat.le_of_ble_eq_true rfl) ?_
  show Sem (d + 2) qX12_judge 0 0 0 [(0, .ref 95), (1, .int t), (2, .int j)] [] (mh P M D) _
  obtain ⟨S, hS, eS⟩ := bw_of (m := 4) (n := 4) (by decide) hz
  have pS : pz (M.1 0) = S := by rw [eS]; exact nI_clamp (by omega)
  refine s_aload_nr (j := 0) dX12_judge_0 rfl ?_
  refine s_iload_n (j := 1) dX12_judge_1 rfl ?_
  refine s_V1i cv_X12_339 rfl dX12_judge_2 (mh_get (k := 0) hP rfl) rfl (Nat.le_of_ble_eq_true rfl) (m_isTape _ P D _ hP _) (fun y2 h2 q2 => ?_)
  obtain ⟨rfl, rfl⟩ := q2
  refine s_if_ne dX12_judge_5 (tgt := 10) (by decide) (fun c5 => ?_) (fun c5 => ?_)
  · replace c5 := b2i_n0.mp c5
    refine s_aload_nr (j := 0) dX12_judge_10 rfl ?_
    refine gM_sort dX12_judge_11 rfl hP ?_
    refine s_iload_n (j := 1) dX12_judge_14 rfl ?_
    refine lM 37 dX12_judge_15 hP rfl (by exact rng_in c5 rfl) ?_
    refine s_if_lt dX12_judge_16 (tgt := 32) (by decide) (fun c16 => ?_) (fun c16 => ?_)
    · refine s_iconst (v := 0) dX12_judge_32 (by decide) ?_
      refine s_istore_n dX12_judge_33 (by decide) rfl ?_
      have LP : ∀ (n : Nat) (m p : Nat), m < n → p + m = S → jdT M t j m p = sp_judge M t j → Sem (d + 2) qX12_judge 0 0 34 [(0, .ref 95), (1, .int t), (2, .int j), (3, .int (nI p))] [] (mh P M D) (XI (sp_judge M t j) (mh P M D)) := by
        intro n
        induction n with
        | zero => intro m p hm; exact absurd hm (Nat.not_lt_zero _)
        | succ n ih =>
          intro m p hm h1 h2
          refine s_iload_n (j := 3) dX12_judge_34 rfl ?_
          refine s_aload_nr (j := 0) dX12_judge_35 rfl ?_
          refine gM_servers dX12_judge_36 rfl hP ?_
          refine s_icmp_ge dX12_judge_39 (tgt := 106) (by decide) (fun c39 => ?_) (fun c39 => ?_)
          · obtain rfl : m = 0 := by
              cases m with
              | zero => rfl
              | succ x => rw [eS] at c39; have := (nI_leI (by omega) (by omega)).mp c39; omega
            refine s_bipush (v := -5) dX12_judge_106 (by decide) ?_
            exact e_iret dX12_judge_108 rfl (by exact ⟨h2, rfl⟩)
          · obtain ⟨m, rfl⟩ : ∃ x, m = x + 1 := by
              cases m with
              | zero => exact absurd (by rw [eS]; exact nI_le (by omega) (by omega)) c39
              | succ x => exact ⟨x, rfl⟩
            refine s_aload_nr (j := 0) dX12_judge_42 rfl ?_
            refine gM_sort dX12_judge_43 rfl hP ?_
            refine s_iload_n (j := 1) dX12_judge_46 rfl ?_
            refine lM 37 dX12_judge_47 hP rfl (by exact rng_in c5 rfl) ?_
            refine s_if_lt dX12_judge_48 (tgt := 69) (by decide) (fun c48 => ?_) (fun c48 => ?_)
            · refine s_bipush (v := 100) dX12_judge_69 (by decide) ?_
              refine s_iload_n (j := 3) dX12_judge_71 rfl ?_
              refine s_iadd dX12_judge_72 ?_
              exact e_iret dX12_judge_73 rfl (by exact ⟨by rw [← h2, jdT, if_pos (Or.inl c48)], rfl⟩)
            · refine s_iload_n (j := 2) dX12_judge_51 rfl ?_
              refine s_if_lt dX12_judge_52 (tgt := 69) (by decide) (fun c52 => ?_) (fun c52 => ?_)
              · refine s_bipush (v := 100) dX12_judge_69 (by decide) ?_
                refine s_iload_n (j := 3) dX12_judge_71 rfl ?_
                refine s_iadd dX12_judge_72 ?_
                exact e_iret dX12_judge_73 rfl (by exact ⟨by rw [← h2, jdT, if_pos (Or.inr (Or.inl c52))], rfl⟩)
              · refine s_iload_n (j := 2) dX12_judge_55 rfl ?_
                refine s_aload_nr (j := 0) dX12_judge_56 rfl ?_
                refine gM_length dX12_judge_57 rfl hP ?_
                refine s_iload_n (j := 1) dX12_judge_60 rfl ?_
                refine lM 38 dX12_judge_61 hP rfl (by exact rng_in c5 rfl) ?_
                refine s_iload_n (j := 3) dX12_judge_62 rfl ?_
                refine s_isub dX12_judge_63 ?_
                refine s_iconst (v := 1) dX12_judge_64 (by decide) ?_
                refine s_isub dX12_judge_65 ?_
                refine s_icmp_le dX12_judge_66 (tgt := 74) (by decide) (fun c66 => ?_) (fun c66 => ?_)
                · have nc : ¬ (M.2.1 36 (pz t) < 0 ∨ j < 0 ∨ ¬ j ≤ M.2.1 37 (pz t) - nI p - 1) := by
                    intro z
                    rcases z with z | z | z
                    · exact c48 z
                    · exact c52 z
                    · exact z c66
                  refine s_aload_nr (j := 0) dX12_judge_74 rfl ?_
                  refine gM_item dX12_judge_75 rfl hP ?_
                  refine s_bipush (v := 60) dX12_judge_78 (by decide) ?_
                  refine s_iload_n (j := 1) dX12_judge_80 rfl ?_
                  refine s_imul dX12_judge_81 ?_
                  refine s_iload_n (j := 2) dX12_judge_82 rfl ?_
                  refine s_iadd dX12_judge_83 ?_
                  refine s_iload_n (j := 3) dX12_judge_84 rfl ?_
                  refine s_iadd dX12_judge_85 ?_
                  refine llM 39 dX12_judge_86 hP rfl (by exact jd_in (rng_in c5 rfl) (hlen _ (pz_lt (rng_in (n := 6) c5 rfl))) c52 c66 (by omega)) ?_
                  refine s_aload_nr (j := 0) dX12_judge_87 rfl ?_
                  refine gM_served dX12_judge_88 rfl hP ?_
                  refine s_iload_n (j := 3) dX12_judge_91 rfl ?_
                  refine lM 5 dX12_judge_92 hP rfl (by exact vp_in_nI (by omega) (by decide)) ?_
                  refine s_i2l dX12_judge_93 ?_
                  refine s_lcmp dX12_judge_94 ?_
                  refine s_if_eq dX12_judge_95 (tgt := 100) (by decide) (fun c95 => ?_) (fun c95 => ?_)
                  · refine s_iinc (j := 3) (v := _ + (1)) dX12_judge_100 rfl rfl (by decide) rfl ?_
                    refine s_goto dX12_judge_103 (tgt := 34) (by decide) ?_
                    refine s_locals [1, 2, 3, 0] rfl ?_
                    have h2x : jdT M t j m (p + 1) = sp_judge M t j := by rw [← h2, jdT, if_neg nc, if_pos (show M.2.2 0 (pz (60 * t + j + nI p)) = (M.2.1 4 p).toInt64 by have h9 := lgc.mp c95; rwa [show (nI p).toNatClampNeg = p from nI_clamp (by omega)] at h9)]
                    rw [nI_1]
                    exact ih m (p + 1) (by omega) (by omega) h2x
                  · refine s_iload_n (j := 3) dX12_judge_98 rfl ?_
                    exact e_iret dX12_judge_99 rfl (by exact ⟨by rw [← h2, jdT, if_neg nc, if_neg (show ¬ M.2.2 0 (pz (60 * t + j + nI p)) = (M.2.1 4 p).toInt64 by intro z; apply c95; apply lgc.mpr; rw [show (nI p).toNatClampNeg = p from nI_clamp (by omega)]; exact z)], rfl⟩)
                · refine s_bipush (v := 100) dX12_judge_69 (by decide) ?_
                  refine s_iload_n (j := 3) dX12_judge_71 rfl ?_
                  refine s_iadd dX12_judge_72 ?_
                  exact e_iret dX12_judge_73 rfl (by exact ⟨by rw [← h2, jdT, if_pos (Or.inr (Or.inr c66))], rfl⟩)
      refine s_locals [1, 2, 3, 0] rfl ?_
      exact LP (S + 1) S 0 (by omega) (by omega) (by rw [← pS]; first | rw [sp_judge, if_pos c5, if_pos c16] | rw [sp_judge, if_pos c5, if_neg c16, if_pos c26])
    · refine s_aload_nr (j := 0) dX12_judge_19 rfl ?_
      refine gM_sort dX12_judge_20 rfl hP ?_
      refine s_iload_n (j := 1) dX12_judge_23 rfl ?_
      refine lM 37 dX12_judge_24 hP rfl (by exact rng_in c5 rfl) ?_
      refine s_iconst (v := 1) dX12_judge_25 (by decide) ?_
      refine s_icmp_eq dX12_judge_26 (tgt := 32) (by decide) (fun c26 => ?_) (fun c26 => ?_)
      · refine s_iconst (v := 0) dX12_judge_32 (by decide) ?_
        refine s_istore_n dX12_judge_33 (by decide) rfl ?_
        have LP : ∀ (n : Nat) (m p : Nat), m < n → p + m = S → jdT M t j m p = sp_judge M t j → Sem (d + 2) qX12_judge 0 0 34 [(0, .ref 95), (1, .int t), (2, .int j), (3, .int (nI p))] [] (mh P M D) (XI (sp_judge M t j) (mh P M D)) := by
          intro n
          induction n with
          | zero => intro m p hm; exact absurd hm (Nat.not_lt_zero _)
          | succ n ih =>
            intro m p hm h1 h2
            refine s_iload_n (j := 3) dX12_judge_34 rfl ?_
            refine s_aload_nr (j := 0) dX12_judge_35 rfl ?_
            refine gM_servers dX12_judge_36 rfl hP ?_
            refine s_icmp_ge dX12_judge_39 (tgt := 106) (by decide) (fun c39 => ?_) (fun c39 => ?_)
            · obtain rfl : m = 0 := by
                cases m with
                | zero => rfl
                | succ x => rw [eS] at c39; have := (nI_leI (by omega) (by omega)).mp c39; omega
              refine s_bipush (v := -5) dX12_judge_106 (by decide) ?_
              exact e_iret dX12_judge_108 rfl (by exact ⟨h2, rfl⟩)
            · obtain ⟨m, rfl⟩ : ∃ x, m = x + 1 := by
                cases m with
                | zero => exact absurd (by rw [eS]; exact nI_le (by omega) (by omega)) c39
                | succ x => exact ⟨x, rfl⟩
              refine s_aload_nr (j := 0) dX12_judge_42 rfl ?_
              refine gM_sort dX12_judge_43 rfl hP ?_
              refine s_iload_n (j := 1) dX12_judge_46 rfl ?_
              refine lM 37 dX12_judge_47 hP rfl (by exact rng_in c5 rfl) ?_
              refine s_if_lt dX12_judge_48 (tgt := 69) (by decide) (fun c48 => ?_) (fun c48 => ?_)
              · refine s_bipush (v := 100) dX12_judge_69 (by decide) ?_
                refine s_iload_n (j := 3) dX12_judge_71 rfl ?_
                refine s_iadd dX12_judge_72 ?_
                exact e_iret dX12_judge_73 rfl (by exact ⟨by rw [← h2, jdT, if_pos (Or.inl c48)], rfl⟩)
              · refine s_iload_n (j := 2) dX12_judge_51 rfl ?_
                refine s_if_lt dX12_judge_52 (tgt := 69) (by decide) (fun c52 => ?_) (fun c52 => ?_)
                · refine s_bipush (v := 100) dX12_judge_69 (by decide) ?_
                  refine s_iload_n (j := 3) dX12_judge_71 rfl ?_
                  refine s_iadd dX12_judge_72 ?_
                  exact e_iret dX12_judge_73 rfl (by exact ⟨by rw [← h2, jdT, if_pos (Or.inr (Or.inl c52))], rfl⟩)
                · refine s_iload_n (j := 2) dX12_judge_55 rfl ?_
                  refine s_aload_nr (j := 0) dX12_judge_56 rfl ?_
                  refine gM_length dX12_judge_57 rfl hP ?_
                  refine s_iload_n (j := 1) dX12_judge_60 rfl ?_
                  refine lM 38 dX12_judge_61 hP rfl (by exact rng_in c5 rfl) ?_
                  refine s_iload_n (j := 3) dX12_judge_62 rfl ?_
                  refine s_isub dX12_judge_63 ?_
                  refine s_iconst (v := 1) dX12_judge_64 (by decide) ?_
                  refine s_isub dX12_judge_65 ?_
                  refine s_icmp_le dX12_judge_66 (tgt := 74) (by decide) (fun c66 => ?_) (fun c66 => ?_)
                  · have nc : ¬ (M.2.1 36 (pz t) < 0 ∨ j < 0 ∨ ¬ j ≤ M.2.1 37 (pz t) - nI p - 1) := by
                      intro z
                      rcases z with z | z | z
                      · exact c48 z
                      · exact c52 z
                      · exact z c66
                    refine s_aload_nr (j := 0) dX12_judge_74 rfl ?_
                    refine gM_item dX12_judge_75 rfl hP ?_
                    refine s_bipush (v := 60) dX12_judge_78 (by decide) ?_
                    refine s_iload_n (j := 1) dX12_judge_80 rfl ?_
                    refine s_imul dX12_judge_81 ?_
                    refine s_iload_n (j := 2) dX12_judge_82 rfl ?_
                    refine s_iadd dX12_judge_83 ?_
                    refine s_iload_n (j := 3) dX12_judge_84 rfl ?_
                    refine s_iadd dX12_judge_85 ?_
                    refine llM 39 dX12_judge_86 hP rfl (by exact jd_in (rng_in c5 rfl) (hlen _ (pz_lt (rng_in (n := 6) c5 rfl))) c52 c66 (by omega)) ?_
                    refine s_aload_nr (j := 0) dX12_judge_87 rfl ?_
                    refine gM_served dX12_judge_88 rfl hP ?_
                    refine s_iload_n (j := 3) dX12_judge_91 rfl ?_
                    refine lM 5 dX12_judge_92 hP rfl (by exact vp_in_nI (by omega) (by decide)) ?_
                    refine s_i2l dX12_judge_93 ?_
                    refine s_lcmp dX12_judge_94 ?_
                    refine s_if_eq dX12_judge_95 (tgt := 100) (by decide) (fun c95 => ?_) (fun c95 => ?_)
                    · refine s_iinc (j := 3) (v := _ + (1)) dX12_judge_100 rfl rfl (by decide) rfl ?_
                      refine s_goto dX12_judge_103 (tgt := 34) (by decide) ?_
                      refine s_locals [1, 2, 3, 0] rfl ?_
                      have h2x : jdT M t j m (p + 1) = sp_judge M t j := by rw [← h2, jdT, if_neg nc, if_pos (show M.2.2 0 (pz (60 * t + j + nI p)) = (M.2.1 4 p).toInt64 by have h9 := lgc.mp c95; rwa [show (nI p).toNatClampNeg = p from nI_clamp (by omega)] at h9)]
                      rw [nI_1]
                      exact ih m (p + 1) (by omega) (by omega) h2x
                    · refine s_iload_n (j := 3) dX12_judge_98 rfl ?_
                      exact e_iret dX12_judge_99 rfl (by exact ⟨by rw [← h2, jdT, if_neg nc, if_neg (show ¬ M.2.2 0 (pz (60 * t + j + nI p)) = (M.2.1 4 p).toInt64 by intro z; apply c95; apply lgc.mpr; rw [show (nI p).toNatClampNeg = p from nI_clamp (by omega)]; exact z)], rfl⟩)
                  · refine s_bipush (v := 100) dX12_judge_69 (by decide) ?_
                    refine s_iload_n (j := 3) dX12_judge_71 rfl ?_
                    refine s_iadd dX12_judge_72 ?_
                    exact e_iret dX12_judge_73 rfl (by exact ⟨by rw [← h2, jdT, if_pos (Or.inr (Or.inr c66))], rfl⟩)
        refine s_locals [1, 2, 3, 0] rfl ?_
        exact LP (S + 1) S 0 (by omega) (by omega) (by rw [← pS]; first | rw [sp_judge, if_pos c5, if_pos c16] | rw [sp_judge, if_pos c5, if_neg c16, if_pos c26])
      · refine s_bipush (v := -12) dX12_judge_29 (by decide) ?_
        exact e_iret dX12_judge_31 rfl (by unfold sp_judge; (first | rw [if_pos c5] | rw [if_neg c5] | skip); (first | rw [if_pos c16] | rw [if_neg c16] | skip); (first | rw [if_pos c26] | rw [if_neg c26] | skip); first | exact ⟨rfl, rfl⟩ | (simp_all; done))
  · replace c5 := b2i_0.mp c5
    refine s_iconst (v := -1) dX12_judge_8 (by decide) ?_
    exact e_iret dX12_judge_9 rfl (by unfold sp_judge; (first | rw [if_pos c5] | rw [if_neg c5] | skip); first | exact ⟨rfl, rfl⟩ | (simp_all; done))
