set_option maxRecDepth 100000 in
set_option maxHeartbeats 800000 in
theorem m_server (d : Nat) (P D : HP) (M : MZ) (hP : P.length = 95) (k w hd sf : Int32) (hz : 0 ≤ M.1 0 ∧ M.1 0 ≤ 4) : Con (d + 2) qX12_server 0 0 [.ref 95, .int k, .int w, .int hd, .int sf] (mh P M D) (PI fun y h => y = (sp_server M k w hd sf).1 ∧ h = mh P (sp_server M k w hd sf).2 D) := by
  refine Con.of (by decide +kernel) (Nat.le_of_ble_eq_true rfl) ?_
  show Sem (d + 2) qX12_server 0 0 0 [(0, .ref 95), (1, .int k), (2, .int w), (3, .int hd), (4, .int sf)] [] (mh P M D) _
  refine s_aload_nr (j := 0) dX12_server_0 rfl ?_
  refine s_iload_n (j := 1) dX12_server_1 rfl ?_
  refine s_iconst (v := 0) dX12_server_2 (by decide) ?_
  refine s_bipush (v := 6) dX12_server_3 (by decide) ?_
  refine s_V3i cv_X12_203 rfl dX12_server_5 (mh_get (k := 0) hP rfl) rfl (Nat.le_of_ble_eq_true rfl) (m_in _ P D _ hP _ _ _) (fun y5 h5 q5 => ?_)
  obtain ⟨rfl, rfl⟩ := q5
  refine s_if_ne dX12_server_8 (tgt := 13) (by decide) (fun c8 => ?_) (fun c8 => ?_)
  · replace c8 := b2i_n0.mp c8
    refine s_aload_nr (j := 0) dX12_server_13 rfl ?_
    refine s_iload_n (j := 2) dX12_server_14 rfl ?_
    refine s_iconst (v := 0) dX12_server_15 (by decide) ?_
    refine s_bipush (v := 9) dX12_server_16 (by decide) ?_
    refine s_V3i cv_X12_203 rfl dX12_server_18 (mh_get (k := 0) hP rfl) rfl (Nat.le_of_ble_eq_true rfl) (m_in _ P D _ hP _ _ _) (fun y18 h18 q18 => ?_)
    obtain ⟨rfl, rfl⟩ := q18
    refine s_if_eq dX12_server_21 (tgt := 41) (by decide) (fun c21 => ?_) (fun c21 => ?_)
    · replace c21 := b2i_0.mp c21
      refine s_bipush (v := -2) dX12_server_41 (by decide) ?_
      exact e_iret dX12_server_43 rfl (by unfold sp_server; (first | rw [if_pos c8] | rw [if_neg c8] | skip); (first | rw [if_pos c21] | rw [if_neg c21] | skip); first | exact ⟨rfl, rfl⟩ | (simp_all; done))
    · replace c21 := b2i_n0.mp c21
      refine s_aload_nr (j := 0) dX12_server_24 rfl ?_
      refine s_iload_n (j := 3) dX12_server_25 rfl ?_
      refine s_V1i cv_X12_207 rfl dX12_server_26 (mh_get (k := 0) hP rfl) rfl (Nat.le_of_ble_eq_true rfl) (m_isForce _ P D _ hP _) (fun y26 h26 q26 => ?_)
      obtain ⟨rfl, rfl⟩ := q26
      refine s_if_eq dX12_server_29 (tgt := 41) (by decide) (fun c29 => ?_) (fun c29 => ?_)
      · replace c29 := b2i_0.mp c29
        refine s_bipush (v := -2) dX12_server_41 (by decide) ?_
        exact e_iret dX12_server_43 rfl (by unfold sp_server; (first | rw [if_pos c8] | rw [if_neg c8] | skip); (first | rw [if_pos c21] | rw [if_neg c21] | skip); (first | rw [if_pos c29] | rw [if_neg c29] | skip); first | exact ⟨rfl, rfl⟩ | (simp_all; done))
      · replace c29 := b2i_n0.mp c29
        refine s_aload_nr (j := 0) dX12_server_32 rfl ?_
        refine s_iload (j := 4) dX12_server_33 rfl ?_
        refine s_V1i cv_X12_207 rfl dX12_server_35 (mh_get (k := 0) hP rfl) rfl (Nat.le_of_ble_eq_true rfl) (m_isForce _ P D _ hP _) (fun y35 h35 q35 => ?_)
        obtain ⟨rfl, rfl⟩ := q35
        refine s_if_ne dX12_server_38 (tgt := 44) (by decide) (fun c38 => ?_) (fun c38 => ?_)
        · replace c38 := b2i_n0.mp c38
          refine s_aload_nr (j := 0) dX12_server_44 rfl ?_
          refine gM_servers dX12_server_45 rfl hP ?_
          refine s_iconst (v := 4) dX12_server_48 (by decide) ?_
          refine s_icmp_ne dX12_server_49 (tgt := 55) (by decide) (fun c49 => ?_) (fun c49 => ?_)
          · obtain ⟨S, hS, eS⟩ := bw_of (m := 4) (n := 4) (by decide) hz
            have pS : pz (M.1 0) = S := by rw [eS]; exact nI_clamp (by omega)
            have hS4 : S < 4 := by
              by_cases e : S = 4
              · exact absurd (by rw [eS, e]; rfl) c49
              · omega
            have in4 : S < 4 → vp_in (M.1 0) 4 := fun z => by rw [eS]; exact vp_in_nI z (by decide)
            refine s_aload_nr (j := 0) dX12_server_55 rfl ?_
            refine gM_kind dX12_server_56 rfl hP ?_
            refine s_aload_nr (j := 0) dX12_server_59 rfl ?_
            refine gM_servers dX12_server_60 rfl hP ?_
            refine s_iload_n (j := 1) dX12_server_63 rfl ?_
            refine sM_kind dX12_server_64 hP (by exact in4 (by omega)) ?_
            refine s_aload_nr (j := 0) dX12_server_65 rfl ?_
            refine gM_v dX12_server_66 rfl hP ?_
            refine s_aload_nr (j := 0) dX12_server_69 rfl ?_
            refine gM_servers dX12_server_70 rfl hP ?_
            refine s_iload_n (j := 2) dX12_server_73 rfl ?_
            refine sM_v dX12_server_74 hP (by exact in4 (by omega)) ?_
            refine s_aload_nr (j := 0) dX12_server_75 rfl ?_
            refine gM_hard dX12_server_76 rfl hP ?_
            refine s_aload_nr (j := 0) dX12_server_79 rfl ?_
            refine gM_servers dX12_server_80 rfl hP ?_
            refine s_iload_n (j := 3) dX12_server_83 rfl ?_
            refine sM_hard dX12_server_84 hP (by exact in4 (by omega)) ?_
            refine s_aload_nr (j := 0) dX12_server_85 rfl ?_
            refine gM_soft dX12_server_86 rfl hP ?_
            refine s_aload_nr (j := 0) dX12_server_89 rfl ?_
            refine gM_servers dX12_server_90 rfl hP ?_
            refine s_iload (j := 4) dX12_server_93 rfl ?_
            refine sM_soft dX12_server_95 hP (by exact in4 (by omega)) ?_
            refine s_aload_nr (j := 0) dX12_server_96 rfl ?_
            refine gM_served dX12_server_97 rfl hP ?_
            refine s_aload_nr (j := 0) dX12_server_100 rfl ?_
            refine gM_servers dX12_server_101 rfl hP ?_
            refine s_iconst (v := 0) dX12_server_104 (by decide) ?_
            refine sM_served dX12_server_105 hP (by exact in4 (by omega)) ?_
            refine s_iconst (v := 0) dX12_server_106 (by decide) ?_
            refine s_istore dX12_server_107 (by decide) rfl ?_
            have LP : ∀ (n : Nat) (r : Nat), 4 - r < n → r ≤ 4 → Sem (d + 2) qX12_server 0 0 109 [(0, .ref 95), (1, .int k), (2, .int w), (3, .int hd), (4, .int sf), (5, .int (nI r))] [] (mh P (mra (mborn M k w hd sf) 5 (fil (M.2.1 5) (4 * S) r (fun _ => 0))) D) (PI fun y h => y = (sp_server M k w hd sf).1 ∧ h = mh P (sp_server M k w hd sf).2 D) := by
              intro n
              induction n with
              | zero => intro r hm; exact absurd hm (Nat.not_lt_zero _)
              | succ n ih =>
                intro r hm h1
                refine s_iload (j := 5) dX12_server_109 rfl ?_
                refine s_iconst (v := 4) dX12_server_111 (by decide) ?_
                refine s_icmp_ge dX12_server_112 (tgt := 136) (by decide) (fun c112 => ?_) (fun c112 => ?_)
                · obtain rfl : r = 4 := Nat.le_antisymm h1 ((nI_leI (a := 4) (by decide) (by omega)).mp c112)
                  refine s_aload_nr (j := 0) dX12_server_136 rfl ?_
                  refine s_dup dX12_server_137 rfl ?_
                  refine gM_servers dX12_server_138 rfl hP ?_
                  refine s_iconst (v := 1) dX12_server_141 (by decide) ?_
                  refine s_iadd dX12_server_142 ?_
                  refine pM_servers dX12_server_143 rfl hP ?_
                  refine s_aload_nr (j := 0) dX12_server_146 rfl ?_
                  refine gM_servers dX12_server_147 rfl hP ?_
                  refine s_iconst (v := 1) dX12_server_150 (by decide) ?_
                  refine s_isub dX12_server_151 ?_
                  exact e_iret dX12_server_152 rfl (by rw [sp_server, if_pos c8, if_pos c21, if_pos c29, if_pos c38, if_neg c49]; exact ⟨by show M.1 0 + 1 - 1 = M.1 0; rw [eS, nI_1, nI_pred], by rw [pS]; rfl⟩)
                · have hr : r < 4 := Nat.lt_of_not_le fun z => c112 ((nI_leI (a := 4) (by decide) (by omega)).mpr z)
                  refine s_aload_nr (j := 0) dX12_server_115 rfl ?_
                  refine gM_rows dX12_server_116 rfl hP ?_
                  refine s_iconst (v := 4) dX12_server_119 (by decide) ?_
                  refine s_aload_nr (j := 0) dX12_server_120 rfl ?_
                  refine gM_servers dX12_server_121 rfl hP ?_
                  refine s_imul dX12_server_124 ?_
                  refine s_iload (j := 5) dX12_server_125 rfl ?_
                  refine s_iadd dX12_server_127 ?_
                  refine s_iconst (v := 0) dX12_server_128 (by decide) ?_
                  refine sM_rows dX12_server_129 hP (by exact ix_in (in4 (by omega)) (vp_in_nI (n := r) (N := 4) (by omega) (by decide)) (c := 4) rfl (by decide) (by decide)) ?_
                  refine s_iinc (j := 5) (v := _ + (1)) dX12_server_130 rfl rfl (by decide) rfl ?_
                  refine s_goto dX12_server_133 (tgt := 109) (by decide) ?_
                  refine s_locals [1, 2, 3, 4, 5, 0] rfl ?_
                  rw [nI_1, mra_sa]
                  have e9 : pz (4 * M.1 0 + nI r) = 4 * S + r := by rw [ix_pz (in4 (by omega)) (vp_in_nI (n := r) (N := 4) (by omega) (by decide)) (c := 4) rfl (by decide), pS, show pz (nI r) = r from nI_clamp (by omega)]
                  have e8 := fil_s (M.2.1 5) (4 * S) r (fun _ => 0)
                  rw [← e9] at e8
                  have e7 := ih (r + 1) (by omega) (by omega)
                  rw [← e8] at e7
                  exact e7
            refine s_locals [1, 2, 3, 4, 5, 0] rfl ?_
            have e9 : mborn M k w hd sf = mra (mborn M k w hd sf) 5 (fil (M.2.1 5) (4 * S) 0 (fun _ => 0)) := by rw [fil_0]; exact (mra_id (mborn M k w hd sf) 5).symm
            have e8 := LP 5 0 (by decide) (by decide)
            rw [← e9] at e8
            exact e8
          · refine s_bipush (v := -4) dX12_server_52 (by decide) ?_
            exact e_iret dX12_server_54 rfl (by unfold sp_server; (first | rw [if_pos c8] | rw [if_neg c8] | skip); (first | rw [if_pos c21] | rw [if_neg c21] | skip); (first | rw [if_pos c29] | rw [if_neg c29] | skip); (first | rw [if_pos c38] | rw [if_neg c38] | skip); (first | rw [if_pos c49] | rw [if_neg c49] | skip); first | exact ⟨rfl, rfl⟩ | (simp_all; done))
        · replace c38 := b2i_0.mp c38
          refine s_bipush (v := -2) dX12_server_41 (by decide) ?_
          exact e_iret dX12_server_43 rfl (by unfold sp_server; (first | rw [if_pos c8] | rw [if_neg c8] | skip); (first | rw [if_pos c21] | rw [if_neg c21] | skip); (first | rw [if_pos c29] | rw [if_neg c29] | skip); (first | rw [if_pos c38] | rw [if_neg c38] | skip); first | exact ⟨rfl, rfl⟩ | (simp_all; done))
  · replace c8 := b2i_0.mp c8
    refine s_iconst (v := -1) dX12_server_11 (by decide) ?_
    exact e_iret dX12_server_12 rfl (by unfold sp_server; (first | rw [if_pos c8] | rw [if_neg c8] | skip); first | exact ⟨rfl, rfl⟩ | (simp_all; done))

set_option maxRecDepth 100000 in
set_option maxHeartbeats 800000 in
theorem m_tape (d : Nat) (P D : HP) (M : MZ) (hP : P.length = 95) (t w ln : Int32) : Con (d + 2) qX12_tape 0 0 [.ref 95, .int t, .int w, .int ln] (mh P M D) (PI fun y h => y = (sp_tape M t w ln).1 ∧ h = mh P (sp_tape M t w ln).2 D) := by
  refine Con.of (by decide +kernel) (Nat.le_of_ble_eq_true rfl) ?_
  show Sem (d + 2) qX12_tape 0 0 0 [(0, .ref 95), (1, .int t), (2, .int w), (3, .int ln)] [] (mh P M D) _
  refine s_aload_nr (j := 0) dX12_tape_0 rfl ?_
  refine s_iload_n (j := 1) dX12_tape_1 rfl ?_
  refine s_V1i cv_X12_339 rfl dX12_tape_2 (mh_get (k := 0) hP rfl) rfl (Nat.le_of_ble_eq_true rfl) (m_isTape _ P D _ hP _) (fun y2 h2 q2 => ?_)
  obtain ⟨rfl, rfl⟩ := q2
  refine s_if_ne dX12_tape_5 (tgt := 10) (by decide) (fun c5 => ?_) (fun c5 => ?_)
  · replace c5 := b2i_n0.mp c5
    refine s_aload_nr (j := 0) dX12_tape_10 rfl ?_
    refine s_iload_n (j := 2) dX12_tape_11 rfl ?_
    refine s_iconst (v := -1) dX12_tape_12 (by decide) ?_
    refine s_iconst (v := 4) dX12_tape_13 (by decide) ?_
    refine s_V3i cv_X12_203 rfl dX12_tape_14 (mh_get (k := 0) hP rfl) rfl (Nat.le_of_ble_eq_true rfl) (m_in _ P D _ hP _ _ _) (fun y14 h14 q14 => ?_)
    obtain ⟨rfl, rfl⟩ := q14
    refine s_if_eq dX12_tape_17 (tgt := 30) (by decide) (fun c17 => ?_) (fun c17 => ?_)
    · replace c17 := b2i_0.mp c17
      refine s_bipush (v := -2) dX12_tape_30 (by decide) ?_
      exact e_iret dX12_tape_32 rfl (by first | exact absurd c21 c34 | (rw [sp_tape, if_neg c5]; exact ⟨rfl, rfl⟩) | (rw [sp_tape, if_pos c5, if_neg c17]; exact ⟨rfl, rfl⟩) | (rw [sp_tape, if_pos c5, if_pos c17, if_neg c21, if_pos (Int32.not_le.mp c27)]; exact ⟨rfl, rfl⟩) | (rw [sp_tape, if_pos c5, if_pos c17, if_neg c34, if_neg (Int32.not_lt.mpr c27), if_pos (Int32.not_le.mp c38)]; exact ⟨rfl, rfl⟩))
    · replace c17 := b2i_n0.mp c17
      refine s_iload_n (j := 2) dX12_tape_20 rfl ?_
      refine s_if_lt dX12_tape_21 (tgt := 33) (by decide) (fun c21 => ?_) (fun c21 => ?_)
      · refine s_iload_n (j := 2) dX12_tape_33 rfl ?_
        refine s_if_lt dX12_tape_34 (tgt := 44) (by decide) (fun c34 => ?_) (fun c34 => ?_)
        · refine s_aload_nr (j := 0) dX12_tape_44 rfl ?_
          refine gM_sort dX12_tape_45 rfl hP ?_
          refine s_iload_n (j := 1) dX12_tape_48 rfl ?_
          refine s_iload_n (j := 2) dX12_tape_49 rfl ?_
          refine sM_sort dX12_tape_50 hP (by exact rng_in c5 rfl) ?_
          refine s_aload_nr (j := 0) dX12_tape_51 rfl ?_
          refine gM_length dX12_tape_52 rfl hP ?_
          refine s_iload_n (j := 1) dX12_tape_55 rfl ?_
          refine s_iload_n (j := 2) dX12_tape_56 rfl ?_
          refine s_if_ge dX12_tape_57 (tgt := 64) (by decide) (fun c57 => ?_) (fun c57 => ?_)
          · refine s_iload_n (j := 3) dX12_tape_64 rfl ?_
            refine s_topi (fun x0 ex0 => ?_)
            refine sM_length dX12_tape_65 hP (by exact rng_in c5 rfl) ?_
            refine s_iconst (v := 0) dX12_tape_66 (by decide) ?_
            refine s_istore dX12_tape_67 (by decide) rfl ?_
            have LP : ∀ (n : Nat) (r : Nat), 60 - r < n → r ≤ 60 → Sem (d + 2) qX12_tape 0 0 69 [(0, .ref 95), (1, .int t), (2, .int w), (3, .int ln), (4, .int (nI r))] [] (mh P (mrl (msa (msa M 36 (pz t) w) 37 (pz t) x0) 0 (fil (M.2.2 0) (60 * pz t) r (fun _ => 0))) D) (PI fun y h => y = (sp_tape M t w ln).1 ∧ h = mh P (sp_tape M t w ln).2 D) := by
              intro n
              induction n with
              | zero => intro r hm; exact absurd hm (Nat.not_lt_zero _)
              | succ n ih =>
                intro r hm h1
                refine s_iload (j := 4) dX12_tape_69 rfl ?_
                refine s_bipush (v := 60) dX12_tape_71 (by decide) ?_
                refine s_icmp_ge dX12_tape_73 (tgt := 95) (by decide) (fun c73 => ?_) (fun c73 => ?_)
                · obtain rfl : r = 60 := Nat.le_antisymm h1 ((nI_leI (a := 60) (by decide) (by omega)).mp c73)
                  refine s_iconst (v := 1) dX12_tape_95 (by decide) ?_
                  exact e_iret dX12_tape_96 rfl (by subst ex0; first | exact absurd c21 c34 | exact absurd c34 c21 | exact absurd c57 (Int32.not_le.mpr c21) | exact absurd c57 (Int32.not_le.mpr c34) | exact absurd (Int32.not_le.mp c57) c21 | exact absurd (Int32.not_le.mp c57) c34 | (rw [sp_tape, if_pos c5, if_pos c17, if_neg (Int32.not_lt.mpr c57), if_neg (Int32.not_lt.mpr c27), if_neg (Int32.not_lt.mpr c38)]; exact ⟨rfl, rfl⟩))
                · have hr : r < 60 := Nat.lt_of_not_le fun z => c73 ((nI_leI (a := 60) (by decide) (by omega)).mpr z)
                  refine s_aload_nr (j := 0) dX12_tape_76 rfl ?_
                  refine gM_item dX12_tape_77 rfl hP ?_
                  refine s_bipush (v := 60) dX12_tape_80 (by decide) ?_
                  refine s_iload_n (j := 1) dX12_tape_82 rfl ?_
                  refine s_imul dX12_tape_83 ?_
                  refine s_iload (j := 4) dX12_tape_84 rfl ?_
                  refine s_iadd dX12_tape_86 ?_
                  refine s_lconst (v := 0) dX12_tape_87 (by decide) ?_
                  refine sM_item dX12_tape_88 hP (by exact ix_in (rng_in (n := 6) c5 rfl) (vp_in_nI (n := r) (N := 60) (by omega) (by decide)) (c := 60) rfl (by decide) (by decide)) ?_
                  refine s_iinc (j := 4) (v := _ + (1)) dX12_tape_89 rfl rfl (by decide) rfl ?_
                  refine s_goto dX12_tape_92 (tgt := 69) (by decide) ?_
                  refine s_locals [1, 2, 3, 4, 0] rfl ?_
                  rw [nI_1, mrl_sl]
                  have e9 : pz (60 * t + nI r) = 60 * pz t + r := by rw [ix_pz (rng_in (n := 6) c5 rfl) (vp_in_nI (n := r) (N := 60) (by omega) (by decide)) (c := 60) rfl (by decide), show pz (nI r) = r from nI_clamp (by omega)]
                  have e8 := fil_sL (M.2.2 0) (60 * pz t) r (fun _ => 0)
                  rw [← e9] at e8
                  have e7 := ih (r + 1) (by omega) (by omega)
                  rw [← e8] at e7
                  exact e7
            refine s_locals [1, 2, 3, 4, 0] rfl ?_
            have e9 : msa (msa M 36 (pz t) w) 37 (pz t) x0 = mrl (msa (msa M 36 (pz t) w) 37 (pz t) x0) 0 (fil (M.2.2 0) (60 * pz t) 0 (fun _ => 0)) := by rw [fil_0]; exact (mrl_id (msa (msa M 36 (pz t) w) 37 (pz t) x0) 0).symm
            have e8 := LP 61 0 (by decide) (by decide)
            rw [← e9] at e8
            exact e8
          · refine s_iconst (v := 0) dX12_tape_60 (by decide) ?_
            refine s_goto dX12_tape_61 (tgt := 65) (by decide) ?_
            refine s_topi (fun x0 ex0 => ?_)
            refine sM_length dX12_tape_65 hP (by exact rng_in c5 rfl) ?_
            refine s_iconst (v := 0) dX12_tape_66 (by decide) ?_
            refine s_istore dX12_tape_67 (by decide) rfl ?_
            have LP : ∀ (n : Nat) (r : Nat), 60 - r < n → r ≤ 60 → Sem (d + 2) qX12_tape 0 0 69 [(0, .ref 95), (1, .int t), (2, .int w), (3, .int ln), (4, .int (nI r))] [] (mh P (mrl (msa (msa M 36 (pz t) w) 37 (pz t) x0) 0 (fil (M.2.2 0) (60 * pz t) r (fun _ => 0))) D) (PI fun y h => y = (sp_tape M t w ln).1 ∧ h = mh P (sp_tape M t w ln).2 D) := by
              intro n
              induction n with
              | zero => intro r hm; exact absurd hm (Nat.not_lt_zero _)
              | succ n ih =>
                intro r hm h1
                refine s_iload (j := 4) dX12_tape_69 rfl ?_
                refine s_bipush (v := 60) dX12_tape_71 (by decide) ?_
                refine s_icmp_ge dX12_tape_73 (tgt := 95) (by decide) (fun c73 => ?_) (fun c73 => ?_)
                · obtain rfl : r = 60 := Nat.le_antisymm h1 ((nI_leI (a := 60) (by decide) (by omega)).mp c73)
                  refine s_iconst (v := 1) dX12_tape_95 (by decide) ?_
                  exact e_iret dX12_tape_96 rfl (by subst ex0; first | exact absurd c21 c34 | exact absurd c34 c21 | exact absurd c57 (Int32.not_le.mpr c21) | exact absurd c57 (Int32.not_le.mpr c34) | exact absurd (Int32.not_le.mp c57) c21 | exact absurd (Int32.not_le.mp c57) c34 | (rw [sp_tape, if_pos c5, if_pos c17, if_pos (Int32.not_le.mp c57)]; exact ⟨rfl, rfl⟩))
                · have hr : r < 60 := Nat.lt_of_not_le fun z => c73 ((nI_leI (a := 60) (by decide) (by omega)).mpr z)
                  refine s_aload_nr (j := 0) dX12_tape_76 rfl ?_
                  refine gM_item dX12_tape_77 rfl hP ?_
                  refine s_bipush (v := 60) dX12_tape_80 (by decide) ?_
                  refine s_iload_n (j := 1) dX12_tape_82 rfl ?_
                  refine s_imul dX12_tape_83 ?_
                  refine s_iload (j := 4) dX12_tape_84 rfl ?_
                  refine s_iadd dX12_tape_86 ?_
                  refine s_lconst (v := 0) dX12_tape_87 (by decide) ?_
                  refine sM_item dX12_tape_88 hP (by exact ix_in (rng_in (n := 6) c5 rfl) (vp_in_nI (n := r) (N := 60) (by omega) (by decide)) (c := 60) rfl (by decide) (by decide)) ?_
                  refine s_iinc (j := 4) (v := _ + (1)) dX12_tape_89 rfl rfl (by decide) rfl ?_
                  refine s_goto dX12_tape_92 (tgt := 69) (by decide) ?_
                  refine s_locals [1, 2, 3, 4, 0] rfl ?_
                  rw [nI_1, mrl_sl]
                  have e9 : pz (60 * t + nI r) = 60 * pz t + r := by rw [ix_pz (rng_in (n := 6) c5 rfl) (vp_in_nI (n := r) (N := 60) (by omega) (by decide)) (c := 60) rfl (by decide), show pz (nI r) = r from nI_clamp (by omega)]
                  have e8 := fil_sL (M.2.2 0) (60 * pz t) r (fun _ => 0)
                  rw [← e9] at e8
                  have e7 := ih (r + 1) (by omega) (by omega)
                  rw [← e8] at e7
                  exact e7
            refine s_locals [1, 2, 3, 4, 0] rfl ?_
            have e9 : msa (msa M 36 (pz t) w) 37 (pz t) x0 = mrl (msa (msa M 36 (pz t) w) 37 (pz t) x0) 0 (fil (M.2.2 0) (60 * pz t) 0 (fun _ => 0)) := by rw [fil_0]; exact (mrl_id (msa (msa M 36 (pz t) w) 37 (pz t) x0) 0).symm
            have e8 := LP 61 0 (by decide) (by decide)
            rw [← e9] at e8
            exact e8
        · refine s_iload_n (j := 3) dX12_tape_37 rfl ?_
          refine s_if_ge dX12_tape_38 (tgt := 44) (by decide) (fun c38 => ?_) (fun c38 => ?_)
          · refine s_aload_nr (j := 0) dX12_tape_44 rfl ?_
            refine gM_sort dX12_tape_45 rfl hP ?_
            refine s_iload_n (j := 1) dX12_tape_48 rfl ?_
            refine s_iload_n (j := 2) dX12_tape_49 rfl ?_
            refine sM_sort dX12_tape_50 hP (by exact rng_in c5 rfl) ?_
            refine s_aload_nr (j := 0) dX12_tape_51 rfl ?_
            refine gM_length dX12_tape_52 rfl hP ?_
            refine s_iload_n (j := 1) dX12_tape_55 rfl ?_
            refine s_iload_n (j := 2) dX12_tape_56 rfl ?_
            refine s_if_ge dX12_tape_57 (tgt := 64) (by decide) (fun c57 => ?_) (fun c57 => ?_)
            · refine s_iload_n (j := 3) dX12_tape_64 rfl ?_
              refine s_topi (fun x0 ex0 => ?_)
              refine sM_length dX12_tape_65 hP (by exact rng_in c5 rfl) ?_
              refine s_iconst (v := 0) dX12_tape_66 (by decide) ?_
              refine s_istore dX12_tape_67 (by decide) rfl ?_
              have LP : ∀ (n : Nat) (r : Nat), 60 - r < n → r ≤ 60 → Sem (d + 2) qX12_tape 0 0 69 [(0, .ref 95), (1, .int t), (2, .int w), (3, .int ln), (4, .int (nI r))] [] (mh P (mrl (msa (msa M 36 (pz t) w) 37 (pz t) x0) 0 (fil (M.2.2 0) (60 * pz t) r (fun _ => 0))) D) (PI fun y h => y = (sp_tape M t w ln).1 ∧ h = mh P (sp_tape M t w ln).2 D) := by
                intro n
                induction n with
                | zero => intro r hm; exact absurd hm (Nat.not_lt_zero _)
                | succ n ih =>
                  intro r hm h1
                  refine s_iload (j := 4) dX12_tape_69 rfl ?_
                  refine s_bipush (v := 60) dX12_tape_71 (by decide) ?_
                  refine s_icmp_ge dX12_tape_73 (tgt := 95) (by decide) (fun c73 => ?_) (fun c73 => ?_)
                  · obtain rfl : r = 60 := Nat.le_antisymm h1 ((nI_leI (a := 60) (by decide) (by omega)).mp c73)
                    refine s_iconst (v := 1) dX12_tape_95 (by decide) ?_
                    exact e_iret dX12_tape_96 rfl (by subst ex0; first | exact absurd c21 c34 | exact absurd c34 c21 | exact absurd c57 (Int32.not_le.mpr c21) | exact absurd c57 (Int32.not_le.mpr c34) | exact absurd (Int32.not_le.mp c57) c21 | exact absurd (Int32.not_le.mp c57) c34 | (rw [sp_tape, if_pos c5, if_pos c17, if_neg (Int32.not_lt.mpr c57), if_neg (Int32.not_lt.mpr c27), if_neg (Int32.not_lt.mpr c38)]; exact ⟨rfl, rfl⟩))
                  · have hr : r < 60 := Nat.lt_of_not_le fun z => c73 ((nI_leI (a := 60) (by decide) (by omega)).mpr z)
                    refine s_aload_nr (j := 0) dX12_tape_76 rfl ?_
                    refine gM_item dX12_tape_77 rfl hP ?_
                    refine s_bipush (v := 60) dX12_tape_80 (by decide) ?_
                    refine s_iload_n (j := 1) dX12_tape_82 rfl ?_
                    refine s_imul dX12_tape_83 ?_
                    refine s_iload (j := 4) dX12_tape_84 rfl ?_
                    refine s_iadd dX12_tape_86 ?_
                    refine s_lconst (v := 0) dX12_tape_87 (by decide) ?_
                    refine sM_item dX12_tape_88 hP (by exact ix_in (rng_in (n := 6) c5 rfl) (vp_in_nI (n := r) (N := 60) (by omega) (by decide)) (c := 60) rfl (by decide) (by decide)) ?_
                    refine s_iinc (j := 4) (v := _ + (1)) dX12_tape_89 rfl rfl (by decide) rfl ?_
                    refine s_goto dX12_tape_92 (tgt := 69) (by decide) ?_
                    refine s_locals [1, 2, 3, 4, 0] rfl ?_
                    rw [nI_1, mrl_sl]
                    have e9 : pz (60 * t + nI r) = 60 * pz t + r := by rw [ix_pz (rng_in (n := 6) c5 rfl) (vp_in_nI (n := r) (N := 60) (by omega) (by decide)) (c := 60) rfl (by decide), show pz (nI r) = r from nI_clamp (by omega)]
                    have e8 := fil_sL (M.2.2 0) (60 * pz t) r (fun _ => 0)
                    rw [← e9] at e8
                    have e7 := ih (r + 1) (by omega) (by omega)
                    rw [← e8] at e7
                    exact e7
              refine s_locals [1, 2, 3, 4, 0] rfl ?_
              have e9 : msa (msa M 36 (pz t) w) 37 (pz t) x0 = mrl (msa (msa M 36 (pz t) w) 37 (pz t) x0) 0 (fil (M.2.2 0) (60 * pz t) 0 (fun _ => 0)) := by rw [fil_0]; exact (mrl_id (msa (msa M 36 (pz t) w) 37 (pz t) x0) 0).symm
              have e8 := LP 61 0 (by decide) (by decide)
              rw [← e9] at e8
              exact e8
            · refine s_iconst (v := 0) dX12_tape_60 (by decide) ?_
              refine s_goto dX12_tape_61 (tgt := 65) (by decide) ?_
              refine s_topi (fun x0 ex0 => ?_)
              refine sM_length dX12_tape_65 hP (by exact rng_in c5 rfl) ?_
              refine s_iconst (v := 0) dX12_tape_66 (by decide) ?_
              refine s_istore dX12_tape_67 (by decide) rfl ?_
              have LP : ∀ (n : Nat) (r : Nat), 60 - r < n → r ≤ 60 → Sem (d + 2) qX12_tape 0 0 69 [(0, .ref 95), (1, .int t), (2, .int w), (3, .int ln), (4, .int (nI r))] [] (mh P (mrl (msa (msa M 36 (pz t) w) 37 (pz t) x0) 0 (fil (M.2.2 0) (60 * pz t) r (fun _ => 0))) D) (PI fun y h => y = (sp_tape M t w ln).1 ∧ h = mh P (sp_tape M t w ln).2 D) := by
                intro n
                induction n with
                | zero => intro r hm; exact absurd hm (Nat.not_lt_zero _)
                | succ n ih =>
                  intro r hm h1
                  refine s_iload (j := 4) dX12_tape_69 rfl ?_
                  refine s_bipush (v := 60) dX12_tape_71 (by decide) ?_
                  refine s_icmp_ge dX12_tape_73 (tgt := 95) (by decide) (fun c73 => ?_) (fun c73 => ?_)
                  · obtain rfl : r = 60 := Nat.le_antisymm h1 ((nI_leI (a := 60) (by decide) (by omega)).mp c73)
                    refine s_iconst (v := 1) dX12_tape_95 (by decide) ?_
                    exact e_iret dX12_tape_96 rfl (by subst ex0; first | exact absurd c21 c34 | exact absurd c34 c21 | exact absurd c57 (Int32.not_le.mpr c21) | exact absurd c57 (Int32.not_le.mpr c34) | exact absurd (Int32.not_le.mp c57) c21 | exact absurd (Int32.not_le.mp c57) c34 | (rw [sp_tape, if_pos c5, if_pos c17, if_pos (Int32.not_le.mp c57)]; exact ⟨rfl, rfl⟩))
                  · have hr : r < 60 := Nat.lt_of_not_le fun z => c73 ((nI_leI (a := 60) (by decide) (by omega)).mpr z)
                    refine s_aload_nr (j := 0) dX12_tape_76 rfl ?_
                    refine gM_item dX12_tape_77 rfl hP ?_
                    refine s_bipush (v := 60) dX12_tape_80 (by decide) ?_
                    refine s_iload_n (j := 1) dX12_tape_82 rfl ?_
                    refine s_imul dX12_tape_83 ?_
                    refine s_iload (j := 4) dX12_tape_84 rfl ?_
                    refine s_iadd dX12_tape_86 ?_
                    refine s_lconst (v := 0) dX12_tape_87 (by decide) ?_
                    refine sM_item dX12_tape_88 hP (by exact ix_in (rng_in (n := 6) c5 rfl) (vp_in_nI (n := r) (N := 60) (by omega) (by decide)) (c := 60) rfl (by decide) (by decide)) ?_
                    refine s_iinc (j := 4) (v := _ + (1)) dX12_tape_89 rfl rfl (by decide) rfl ?_
                    refine s_goto dX12_tape_92 (tgt := 69) (by decide) ?_
                    refine s_locals [1, 2, 3, 4, 0] rfl ?_
                    rw [nI_1, mrl_sl]
                    have e9 : pz (60 * t + nI r) = 60 * pz t + r := by rw [ix_pz (rng_in (n := 6) c5 rfl) (vp_in_nI (n := r) (N := 60) (by omega) (by decide)) (c := 60) rfl (by decide), show pz (nI r) = r from nI_clamp (by omega)]
                    have e8 := fil_sL (M.2.2 0) (60 * pz t) r (fun _ => 0)
                    rw [← e9] at e8
                    have e7 := ih (r + 1) (by omega) (by omega)
                    rw [← e8] at e7
                    exact e7
              refine s_locals [1, 2, 3, 4, 0] rfl ?_
              have e9 : msa (msa M 36 (pz t) w) 37 (pz t) x0 = mrl (msa (msa M 36 (pz t) w) 37 (pz t) x0) 0 (fil (M.2.2 0) (60 * pz t) 0 (fun _ => 0)) := by rw [fil_0]; exact (mrl_id (msa (msa M 36 (pz t) w) 37 (pz t) x0) 0).symm
              have e8 := LP 61 0 (by decide) (by decide)
              rw [← e9] at e8
              exact e8
          · refine s_bipush (v := -14) dX12_tape_41 (by decide) ?_
            exact e_iret dX12_tape_43 rfl (by first | exact absurd c21 c34 | (rw [sp_tape, if_neg c5]; exact ⟨rfl, rfl⟩) | (rw [sp_tape, if_pos c5, if_neg c17]; exact ⟨rfl, rfl⟩) | (rw [sp_tape, if_pos c5, if_pos c17, if_neg c21, if_pos (Int32.not_le.mp c27)]; exact ⟨rfl, rfl⟩) | (rw [sp_tape, if_pos c5, if_pos c17, if_neg c34, if_neg (Int32.not_lt.mpr c27), if_pos (Int32.not_le.mp c38)]; exact ⟨rfl, rfl⟩))
      · refine s_iload_n (j := 3) dX12_tape_24 rfl ?_
        refine s_bipush (v := 60) dX12_tape_25 (by decide) ?_
        refine s_icmp_le dX12_tape_27 (tgt := 33) (by decide) (fun c27 => ?_) (fun c27 => ?_)
        · refine s_iload_n (j := 2) dX12_tape_33 rfl ?_
          refine s_if_lt dX12_tape_34 (tgt := 44) (by decide) (fun c34 => ?_) (fun c34 => ?_)
          · refine s_aload_nr (j := 0) dX12_tape_44 rfl ?_
            refine gM_sort dX12_tape_45 rfl hP ?_
            refine s_iload_n (j := 1) dX12_tape_48 rfl ?_
            refine s_iload_n (j := 2) dX12_tape_49 rfl ?_
            refine sM_sort dX12_tape_50 hP (by exact rng_in c5 rfl) ?_
            refine s_aload_nr (j := 0) dX12_tape_51 rfl ?_
            refine gM_length dX12_tape_52 rfl hP ?_
            refine s_iload_n (j := 1) dX12_tape_55 rfl ?_
            refine s_iload_n (j := 2) dX12_tape_56 rfl ?_
            refine s_if_ge dX12_tape_57 (tgt := 64) (by decide) (fun c57 => ?_) (fun c57 => ?_)
            · refine s_iload_n (j := 3) dX12_tape_64 rfl ?_
              refine s_topi (fun x0 ex0 => ?_)
              refine sM_length dX12_tape_65 hP (by exact rng_in c5 rfl) ?_
              refine s_iconst (v := 0) dX12_tape_66 (by decide) ?_
              refine s_istore dX12_tape_67 (by decide) rfl ?_
              have LP : ∀ (n : Nat) (r : Nat), 60 - r < n → r ≤ 60 → Sem (d + 2) qX12_tape 0 0 69 [(0, .ref 95), (1, .int t), (2, .int w), (3, .int ln), (4, .int (nI r))] [] (mh P (mrl (msa (msa M 36 (pz t) w) 37 (pz t) x0) 0 (fil (M.2.2 0) (60 * pz t) r (fun _ => 0))) D) (PI fun y h => y = (sp_tape M t w ln).1 ∧ h = mh P (sp_tape M t w ln).2 D) := by
                intro n
                induction n with
                | zero => intro r hm; exact absurd hm (Nat.not_lt_zero _)
                | succ n ih =>
                  intro r hm h1
                  refine s_iload (j := 4) dX12_tape_69 rfl ?_
                  refine s_bipush (v := 60) dX12_tape_71 (by decide) ?_
                  refine s_icmp_ge dX12_tape_73 (tgt := 95) (by decide) (fun c73 => ?_) (fun c73 => ?_)
                  · obtain rfl : r = 60 := Nat.le_antisymm h1 ((nI_leI (a := 60) (by decide) (by omega)).mp c73)
                    refine s_iconst (v := 1) dX12_tape_95 (by decide) ?_
                    exact e_iret dX12_tape_96 rfl (by subst ex0; first | exact absurd c21 c34 | exact absurd c34 c21 | exact absurd c57 (Int32.not_le.mpr c21) | exact absurd c57 (Int32.not_le.mpr c34) | exact absurd (Int32.not_le.mp c57) c21 | exact absurd (Int32.not_le.mp c57) c34 | (rw [sp_tape, if_pos c5, if_pos c17, if_neg (Int32.not_lt.mpr c57), if_neg (Int32.not_lt.mpr c27), if_neg (Int32.not_lt.mpr c38)]; exact ⟨rfl, rfl⟩))
                  · have hr : r < 60 := Nat.lt_of_not_le fun z => c73 ((nI_leI (a := 60) (by decide) (by omega)).mpr z)
                    refine s_aload_nr (j := 0) dX12_tape_76 rfl ?_
                    refine gM_item dX12_tape_77 rfl hP ?_
                    refine s_bipush (v := 60) dX12_tape_80 (by decide) ?_
                    refine s_iload_n (j := 1) dX12_tape_82 rfl ?_
                    refine s_imul dX12_tape_83 ?_
                    refine s_iload (j := 4) dX12_tape_84 rfl ?_
                    refine s_iadd dX12_tape_86 ?_
                    refine s_lconst (v := 0) dX12_tape_87 (by decide) ?_
                    refine sM_item dX12_tape_88 hP (by exact ix_in (rng_in (n := 6) c5 rfl) (vp_in_nI (n := r) (N := 60) (by omega) (by decide)) (c := 60) rfl (by decide) (by decide)) ?_
                    refine s_iinc (j := 4) (v := _ + (1)) dX12_tape_89 rfl rfl (by decide) rfl ?_
                    refine s_goto dX12_tape_92 (tgt := 69) (by decide) ?_
                    refine s_locals [1, 2, 3, 4, 0] rfl ?_
                    rw [nI_1, mrl_sl]
                    have e9 : pz (60 * t + nI r) = 60 * pz t + r := by rw [ix_pz (rng_in (n := 6) c5 rfl) (vp_in_nI (n := r) (N := 60) (by omega) (by decide)) (c := 60) rfl (by decide), show pz (nI r) = r from nI_clamp (by omega)]
                    have e8 := fil_sL (M.2.2 0) (60 * pz t) r (fun _ => 0)
                    rw [← e9] at e8
                    have e7 := ih (r + 1) (by omega) (by omega)
                    rw [← e8] at e7
                    exact e7
              refine s_locals [1, 2, 3, 4, 0] rfl ?_
              have e9 : msa (msa M 36 (pz t) w) 37 (pz t) x0 = mrl (msa (msa M 36 (pz t) w) 37 (pz t) x0) 0 (fil (M.2.2 0) (60 * pz t) 0 (fun _ => 0)) := by rw [fil_0]; exact (mrl_id (msa (msa M 36 (pz t) w) 37 (pz t) x0) 0).symm
              have e8 := LP 61 0 (by decide) (by decide)
              rw [← e9] at e8
              exact e8
            · refine s_iconst (v := 0) dX12_tape_60 (by decide) ?_
              refine s_goto dX12_tape_61 (tgt := 65) (by decide) ?_
              refine s_topi (fun x0 ex0 => ?_)
              refine sM_length dX12_tape_65 hP (by exact rng_in c5 rfl) ?_
              refine s_iconst (v := 0) dX12_tape_66 (by decide) ?_
              refine s_istore dX12_tape_67 (by decide) rfl ?_
              have LP : ∀ (n : Nat) (r : Nat), 60 - r < n → r ≤ 60 → Sem (d + 2) qX12_tape 0 0 69 [(0, .ref 95), (1, .int t), (2, .int w), (3, .int ln), (4, .int (nI r))] [] (mh P (mrl (msa (msa M 36 (pz t) w) 37 (pz t) x0) 0 (fil (M.2.2 0) (60 * pz t) r (fun _ => 0))) D) (PI fun y h => y = (sp_tape M t w ln).1 ∧ h = mh P (sp_tape M t w ln).2 D) := by
                intro n
                induction n with
                | zero => intro r hm; exact absurd hm (Nat.not_lt_zero _)
                | succ n ih =>
                  intro r hm h1
                  refine s_iload (j := 4) dX12_tape_69 rfl ?_
                  refine s_bipush (v := 60) dX12_tape_71 (by decide) ?_
                  refine s_icmp_ge dX12_tape_73 (tgt := 95) (by decide) (fun c73 => ?_) (fun c73 => ?_)
                  · obtain rfl : r = 60 := Nat.le_antisymm h1 ((nI_leI (a := 60) (by decide) (by omega)).mp c73)
                    refine s_iconst (v := 1) dX12_tape_95 (by decide) ?_
                    exact e_iret dX12_tape_96 rfl (by subst ex0; first | exact absurd c21 c34 | exact absurd c34 c21 | exact absurd c57 (Int32.not_le.mpr c21) | exact absurd c57 (Int32.not_le.mpr c34) | exact absurd (Int32.not_le.mp c57) c21 | exact absurd (Int32.not_le.mp c57) c34 | (rw [sp_tape, if_pos c5, if_pos c17, if_pos (Int32.not_le.mp c57)]; exact ⟨rfl, rfl⟩))
                  · have hr : r < 60 := Nat.lt_of_not_le fun z => c73 ((nI_leI (a := 60) (by decide) (by omega)).mpr z)
                    refine s_aload_nr (j := 0) dX12_tape_76 rfl ?_
                    refine gM_item dX12_tape_77 rfl hP ?_
                    refine s_bipush (v := 60) dX12_tape_80 (by decide) ?_
                    refine s_iload_n (j := 1) dX12_tape_82 rfl ?_
                    refine s_imul dX12_tape_83 ?_
                    refine s_iload (j := 4) dX12_tape_84 rfl ?_
                    refine s_iadd dX12_tape_86 ?_
                    refine s_lconst (v := 0) dX12_tape_87 (by decide) ?_
                    refine sM_item dX12_tape_88 hP (by exact ix_in (rng_in (n := 6) c5 rfl) (vp_in_nI (n := r) (N := 60) (by omega) (by decide)) (c := 60) rfl (by decide) (by decide)) ?_
                    refine s_iinc (j := 4) (v := _ + (1)) dX12_tape_89 rfl rfl (by decide) rfl ?_
                    refine s_goto dX12_tape_92 (tgt := 69) (by decide) ?_
                    refine s_locals [1, 2, 3, 4, 0] rfl ?_
                    rw [nI_1, mrl_sl]
                    have e9 : pz (60 * t + nI r) = 60 * pz t + r := by rw [ix_pz (rng_in (n := 6) c5 rfl) (vp_in_nI (n := r) (N := 60) (by omega) (by decide)) (c := 60) rfl (by decide), show pz (nI r) = r from nI_clamp (by omega)]
                    have e8 := fil_sL (M.2.2 0) (60 * pz t) r (fun _ => 0)
                    rw [← e9] at e8
                    have e7 := ih (r + 1) (by omega) (by omega)
                    rw [← e8] at e7
                    exact e7
              refine s_locals [1, 2, 3, 4, 0] rfl ?_
              have e9 : msa (msa M 36 (pz t) w) 37 (pz t) x0 = mrl (msa (msa M 36 (pz t) w) 37 (pz t) x0) 0 (fil (M.2.2 0) (60 * pz t) 0 (fun _ => 0)) := by rw [fil_0]; exact (mrl_id (msa (msa M 36 (pz t) w) 37 (pz t) x0) 0).symm
              have e8 := LP 61 0 (by decide) (by decide)
              rw [← e9] at e8
              exact e8
          · refine s_iload_n (j := 3) dX12_tape_37 rfl ?_
            refine s_if_ge dX12_tape_38 (tgt := 44) (by decide) (fun c38 => ?_) (fun c38 => ?_)
            · refine s_aload_nr (j := 0) dX12_tape_44 rfl ?_
              refine gM_sort dX12_tape_45 rfl hP ?_
              refine s_iload_n (j := 1) dX12_tape_48 rfl ?_
              refine s_iload_n (j := 2) dX12_tape_49 rfl ?_
              refine sM_sort dX12_tape_50 hP (by exact rng_in c5 rfl) ?_
              refine s_aload_nr (j := 0) dX12_tape_51 rfl ?_
              refine gM_length dX12_tape_52 rfl hP ?_
              refine s_iload_n (j := 1) dX12_tape_55 rfl ?_
              refine s_iload_n (j := 2) dX12_tape_56 rfl ?_
              refine s_if_ge dX12_tape_57 (tgt := 64) (by decide) (fun c57 => ?_) (fun c57 => ?_)
              · refine s_iload_n (j := 3) dX12_tape_64 rfl ?_
                refine s_topi (fun x0 ex0 => ?_)
                refine sM_length dX12_tape_65 hP (by exact rng_in c5 rfl) ?_
                refine s_iconst (v := 0) dX12_tape_66 (by decide) ?_
                refine s_istore dX12_tape_67 (by decide) rfl ?_
                have LP : ∀ (n : Nat) (r : Nat), 60 - r < n → r ≤ 60 → Sem (d + 2) qX12_tape 0 0 69 [(0, .ref 95), (1, .int t), (2, .int w), (3, .int ln), (4, .int (nI r))] [] (mh P (mrl (msa (msa M 36 (pz t) w) 37 (pz t) x0) 0 (fil (M.2.2 0) (60 * pz t) r (fun _ => 0))) D) (PI fun y h => y = (sp_tape M t w ln).1 ∧ h = mh P (sp_tape M t w ln).2 D) := by
                  intro n
                  induction n with
                  | zero => intro r hm; exact absurd hm (Nat.not_lt_zero _)
                  | succ n ih =>
                    intro r hm h1
                    refine s_iload (j := 4) dX12_tape_69 rfl ?_
                    refine s_bipush (v := 60) dX12_tape_71 (by decide) ?_
                    refine s_icmp_ge dX12_tape_73 (tgt := 95) (by decide) (fun c73 => ?_) (fun c73 => ?_)
                    · obtain rfl : r = 60 := Nat.le_antisymm h1 ((nI_leI (a := 60) (by decide) (by omega)).mp c73)
                      refine s_iconst (v := 1) dX12_tape_95 (by decide) ?_
                      exact e_iret dX12_tape_96 rfl (by subst ex0; first | exact absurd c21 c34 | exact absurd c34 c21 | exact absurd c57 (Int32.not_le.mpr c21) | exact absurd c57 (Int32.not_le.mpr c34) | exact absurd (Int32.not_le.mp c57) c21 | exact absurd (Int32.not_le.mp c57) c34 | (rw [sp_tape, if_pos c5, if_pos c17, if_neg (Int32.not_lt.mpr c57), if_neg (Int32.not_lt.mpr c27), if_neg (Int32.not_lt.mpr c38)]; exact ⟨rfl, rfl⟩))
                    · have hr : r < 60 := Nat.lt_of_not_le fun z => c73 ((nI_leI (a := 60) (by decide) (by omega)).mpr z)
                      refine s_aload_nr (j := 0) dX12_tape_76 rfl ?_
                      refine gM_item dX12_tape_77 rfl hP ?_
                      refine s_bipush (v := 60) dX12_tape_80 (by decide) ?_
                      refine s_iload_n (j := 1) dX12_tape_82 rfl ?_
                      refine s_imul dX12_tape_83 ?_
                      refine s_iload (j := 4) dX12_tape_84 rfl ?_
                      refine s_iadd dX12_tape_86 ?_
                      refine s_lconst (v := 0) dX12_tape_87 (by decide) ?_
                      refine sM_item dX12_tape_88 hP (by exact ix_in (rng_in (n := 6) c5 rfl) (vp_in_nI (n := r) (N := 60) (by omega) (by decide)) (c := 60) rfl (by decide) (by decide)) ?_
                      refine s_iinc (j := 4) (v := _ + (1)) dX12_tape_89 rfl rfl (by decide) rfl ?_
                      refine s_goto dX12_tape_92 (tgt := 69) (by decide) ?_
                      refine s_locals [1, 2, 3, 4, 0] rfl ?_
                      rw [nI_1, mrl_sl]
                      have e9 : pz (60 * t + nI r) = 60 * pz t + r := by rw [ix_pz (rng_in (n := 6) c5 rfl) (vp_in_nI (n := r) (N := 60) (by omega) (by decide)) (c := 60) rfl (by decide), show pz (nI r) = r from nI_clamp (by omega)]
                      have e8 := fil_sL (M.2.2 0) (60 * pz t) r (fun _ => 0)
                      rw [← e9] at e8
                      have e7 := ih (r + 1) (by omega) (by omega)
                      rw [← e8] at e7
                      exact e7
                refine s_locals [1, 2, 3, 4, 0] rfl ?_
                have e9 : msa (msa M 36 (pz t) w) 37 (pz t) x0 = mrl (msa (msa M 36 (pz t) w) 37 (pz t) x0) 0 (fil (M.2.2 0) (60 * pz t) 0 (fun _ => 0)) := by rw [fil_0]; exact (mrl_id (msa (msa M 36 (pz t) w) 37 (pz t) x0) 0).symm
                have e8 := LP 61 0 (by decide) (by decide)
                rw [← e9] at e8
                exact e8
              · refine s_iconst (v := 0) dX12_tape_60 (by decide) ?_
                refine s_goto dX12_tape_61 (tgt := 65) (by decide) ?_
                refine s_topi (fun x0 ex0 => ?_)
                refine sM_length dX12_tape_65 hP (by exact rng_in c5 rfl) ?_
                refine s_iconst (v := 0) dX12_tape_66 (by decide) ?_
                refine s_istore dX12_tape_67 (by decide) rfl ?_
                have LP : ∀ (n : Nat) (r : Nat), 60 - r < n → r ≤ 60 → Sem (d + 2) qX12_tape 0 0 69 [(0, .ref 95), (1, .int t), (2, .int w), (3, .int ln), (4, .int (nI r))] [] (mh P (mrl (msa (msa M 36 (pz t) w) 37 (pz t) x0) 0 (fil (M.2.2 0) (60 * pz t) r (fun _ => 0))) D) (PI fun y h => y = (sp_tape M t w ln).1 ∧ h = mh P (sp_tape M t w ln).2 D) := by
                  intro n
                  induction n with
                  | zero => intro r hm; exact absurd hm (Nat.not_lt_zero _)
                  | succ n ih =>
                    intro r hm h1
                    refine s_iload (j := 4) dX12_tape_69 rfl ?_
                    refine s_bipush (v := 60) dX12_tape_71 (by decide) ?_
                    refine s_icmp_ge dX12_tape_73 (tgt := 95) (by decide) (fun c73 => ?_) (fun c73 => ?_)
                    · obtain rfl : r = 60 := Nat.le_antisymm h1 ((nI_leI (a := 60) (by decide) (by omega)).mp c73)
                      refine s_iconst (v := 1) dX12_tape_95 (by decide) ?_
                      exact e_iret dX12_tape_96 rfl (by subst ex0; first | exact absurd c21 c34 | exact absurd c34 c21 | exact absurd c57 (Int32.not_le.mpr c21) | exact absurd c57 (Int32.not_le.mpr c34) | exact absurd (Int32.not_le.mp c57) c21 | exact absurd (Int32.not_le.mp c57) c34 | (rw [sp_tape, if_pos c5, if_pos c17, if_pos (Int32.not_le.mp c57)]; exact ⟨rfl, rfl⟩))
                    · have hr : r < 60 := Nat.lt_of_not_le fun z => c73 ((nI_leI (a := 60) (by decide) (by omega)).mpr z)
                      refine s_aload_nr (j := 0) dX12_tape_76 rfl ?_
                      refine gM_item dX12_tape_77 rfl hP ?_
                      refine s_bipush (v := 60) dX12_tape_80 (by decide) ?_
                      refine s_iload_n (j := 1) dX12_tape_82 rfl ?_
                      refine s_imul dX12_tape_83 ?_
                      refine s_iload (j := 4) dX12_tape_84 rfl ?_
                      refine s_iadd dX12_tape_86 ?_
                      refine s_lconst (v := 0) dX12_tape_87 (by decide) ?_
                      refine sM_item dX12_tape_88 hP (by exact ix_in (rng_in (n := 6) c5 rfl) (vp_in_nI (n := r) (N := 60) (by omega) (by decide)) (c := 60) rfl (by decide) (by decide)) ?_
                      refine s_iinc (j := 4) (v := _ + (1)) dX12_tape_89 rfl rfl (by decide) rfl ?_
                      refine s_goto dX12_tape_92 (tgt := 69) (by decide) ?_
                      refine s_locals [1, 2, 3, 4, 0] rfl ?_
                      rw [nI_1, mrl_sl]
                      have e9 : pz (60 * t + nI r) = 60 * pz t + r := by rw [ix_pz (rng_in (n := 6) c5 rfl) (vp_in_nI (n := r) (N := 60) (by omega) (by decide)) (c := 60) rfl (by decide), show pz (nI r) = r from nI_clamp (by omega)]
                      have e8 := fil_sL (M.2.2 0) (60 * pz t) r (fun _ => 0)
                      rw [← e9] at e8
                      have e7 := ih (r + 1) (by omega) (by omega)
                      rw [← e8] at e7
                      exact e7
                refine s_locals [1, 2, 3, 4, 0] rfl ?_
                have e9 : msa (msa M 36 (pz t) w) 37 (pz t) x0 = mrl (msa (msa M 36 (pz t) w) 37 (pz t) x0) 0 (fil (M.2.2 0) (60 * pz t) 0 (fun _ => 0)) := by rw [fil_0]; exact (mrl_id (msa (msa M 36 (pz t) w) 37 (pz t) x0) 0).symm
                have e8 := LP 61 0 (by decide) (by decide)
                rw [← e9] at e8
                exact e8
            · refine s_bipush (v := -14) dX12_tape_41 (by decide) ?_
              exact e_iret dX12_tape_43 rfl (by first | exact absurd c21 c34 | (rw [sp_tape, if_neg c5]; exact ⟨rfl, rfl⟩) | (rw [sp_tape, if_pos c5, if_neg c17]; exact ⟨rfl, rfl⟩) | (rw [sp_tape, if_pos c5, if_pos c17, if_neg c21, if_pos (Int32.not_le.mp c27)]; exact ⟨rfl, rfl⟩) | (rw [sp_tape, if_pos c5, if_pos c17, if_neg c34, if_neg (Int32.not_lt.mpr c27), if_pos (Int32.not_le.mp c38)]; exact ⟨rfl, rfl⟩))
        · refine s_bipush (v := -2) dX12_tape_30 (by decide) ?_
          exact e_iret dX12_tape_32 rfl (by first | exact absurd c21 c34 | (rw [sp_tape, if_neg c5]; exact ⟨rfl, rfl⟩) | (rw [sp_tape, if_pos c5, if_neg c17]; exact ⟨rfl, rfl⟩) | (rw [sp_tape, if_pos c5, if_pos c17, if_neg c21, if_pos (Int32.not_le.mp c27)]; exact ⟨rfl, rfl⟩) | (rw [sp_tape, if_pos c5, if_pos c17, if_neg c34, if_neg (Int32.not_lt.mpr c27), if_pos (Int32.not_le.mp c38)]; exact ⟨rfl, rfl⟩))
  · replace c5 := b2i_0.mp c5
    refine s_iconst (v := -1) dX12_tape_8 (by decide) ?_
    exact e_iret dX12_tape_9 rfl (by first | exact absurd c21 c34 | (rw [sp_tape, if_neg c5]; exact ⟨rfl, rfl⟩) | (rw [sp_tape, if_pos c5, if_neg c17]; exact ⟨rfl, rfl⟩) | (rw [sp_tape, if_pos c5, if_pos c17, if_neg c21, if_pos (Int32.not_le.mp c27)]; exact ⟨rfl, rfl⟩) | (rw [sp_tape, if_pos c5, if_pos c17, if_neg c34, if_neg (Int32.not_lt.mpr c27), if_pos (Int32.not_le.mp c38)]; exact ⟨rfl, rfl⟩))
