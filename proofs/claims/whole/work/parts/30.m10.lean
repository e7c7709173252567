theorem mrl_id2 (M : MZ) : mrl M 1 (M.2.2 1) = M := mrl_id M 1
set_option maxRecDepth 100000 in
set_option maxHeartbeats 800000 in
theorem m_shift (d : Nat) (P D : HP) (M : MZ) (hP : P.length = 95) (t a o b w : Int32) (hlen : ∀ j, j < 6 → 0 ≤ M.2.1 37 j ∧ M.2.1 37 j ≤ 60) : Con (d + 2) qX12_shift 0 0 [.ref 95, .int t, .int a, .int o, .int b, .int w] (mh P M D) (PI fun y h => y = (sp_shift M t a o b w).1 ∧ ∃ f, h = mh P (mrl (sp_shift M t a o b w).2 1 f) D) := by
  refine Con.of (by decide +kernel) (Nat.le_of_ble_eq_true rfl) ?_
  show Sem (d + 2) qX12_shift 0 0 0 [(0, .ref 95), (1, .int t), (2, .int a), (3, .int o), (4, .int b), (5, .int w)] [] (mh P M D) _
  refine s_aload_nr (j := 0) dX12_shift_0 rfl ?_
  refine s_iload_n (j := 1) dX12_shift_1 rfl ?_
  refine s_V1i cv_X12_339 rfl dX12_shift_2 (mh_get (k := 0) hP rfl) rfl (Nat.le_of_ble_eq_true rfl) (m_isTape _ P D _ hP _) (fun y2 h2 q2 => ?_)
  obtain ⟨rfl, rfl⟩ := q2
  refine s_if_eq dX12_shift_5 (tgt := 16) (by decide) (fun c5 => ?_) (fun c5 => ?_)
  · replace c5 := b2i_0.mp c5
    refine s_iconst (v := -1) dX12_shift_16 (by decide) ?_
    exact e_iret dX12_shift_17 rfl (by refine ⟨?_, M.2.2 1, ?_⟩; all_goals (try rw [mrl_id2]); all_goals unfold sp_shift; all_goals (first | rw [if_neg c5] | rw [if_pos c5]); all_goals (first | rw [if_neg c13] | rw [if_pos c13] | skip); all_goals (first | rw [if_pos c24] | rw [if_neg c24] | skip); all_goals (first | rw [if_pos c33] | rw [if_neg c33] | skip); all_goals (first | rw [if_pos c51] | rw [if_neg c51] | skip); all_goals (first | rw [if_pos c59] | rw [if_neg c59] | skip); all_goals (first | rw [if_pos c63] | rw [if_neg c63] | skip); all_goals (first | rw [if_pos c68] | rw [if_neg c68] | skip); all_goals (first | rw [if_pos c81] | rw [if_neg c81] | skip); all_goals (first | rw [if_neg c95] | skip); all_goals first | rfl | (rw [mrl_id]))
  · replace c5 := b2i_n0.mp c5
    refine s_aload_nr (j := 0) dX12_shift_8 rfl ?_
    refine s_iload_n (j := 3) dX12_shift_9 rfl ?_
    refine s_V1i cv_X12_339 rfl dX12_shift_10 (mh_get (k := 0) hP rfl) rfl (Nat.le_of_ble_eq_true rfl) (m_isTape _ P D _ hP _) (fun y10 h10 q10 => ?_)
    obtain ⟨rfl, rfl⟩ := q10
    refine s_if_ne dX12_shift_13 (tgt := 18) (by decide) (fun c13 => ?_) (fun c13 => ?_)
    · replace c13 := b2i_n0.mp c13
      refine s_aload_nr (j := 0) dX12_shift_18 rfl ?_
      refine gM_sort dX12_shift_19 rfl hP ?_
      refine s_iload_n (j := 1) dX12_shift_22 rfl ?_
      refine lM 37 dX12_shift_23 hP rfl (by exact rng_in c5 rfl) ?_
      refine s_if_lt dX12_shift_24 (tgt := 36) (by decide) (fun c24 => ?_) (fun c24 => ?_)
      · refine s_bipush (v := -11) dX12_shift_36 (by decide) ?_
        exact e_iret dX12_shift_38 rfl (by refine ⟨?_, M.2.2 1, ?_⟩; all_goals (try rw [mrl_id2]); all_goals unfold sp_shift; all_goals (first | rw [if_neg c5] | rw [if_pos c5]); all_goals (first | rw [if_neg c13] | rw [if_pos c13] | skip); all_goals (first | rw [if_pos c24] | rw [if_neg c24] | skip); all_goals (first | rw [if_pos c33] | rw [if_neg c33] | skip); all_goals (first | rw [if_pos c51] | rw [if_neg c51] | skip); all_goals (first | rw [if_pos c59] | rw [if_neg c59] | skip); all_goals (first | rw [if_pos c63] | rw [if_neg c63] | skip); all_goals (first | rw [if_pos c68] | rw [if_neg c68] | skip); all_goals (first | rw [if_pos c81] | rw [if_neg c81] | skip); all_goals (first | rw [if_neg c95] | skip); all_goals first | rfl | (rw [mrl_id]))
      · refine s_aload_nr (j := 0) dX12_shift_27 rfl ?_
        refine gM_sort dX12_shift_28 rfl hP ?_
        refine s_iload_n (j := 3) dX12_shift_31 rfl ?_
        refine lM 37 dX12_shift_32 hP rfl (by exact rng_in c13 rfl) ?_
        refine s_if_ge dX12_shift_33 (tgt := 39) (by decide) (fun c33 => ?_) (fun c33 => ?_)
        · refine s_aload_nr (j := 0) dX12_shift_39 rfl ?_
          refine gM_sort dX12_shift_40 rfl hP ?_
          refine s_iload_n (j := 1) dX12_shift_43 rfl ?_
          refine lM 37 dX12_shift_44 hP rfl (by exact rng_in c5 rfl) ?_
          refine s_aload_nr (j := 0) dX12_shift_45 rfl ?_
          refine gM_sort dX12_shift_46 rfl hP ?_
          refine s_iload_n (j := 3) dX12_shift_49 rfl ?_
          refine lM 37 dX12_shift_50 hP rfl (by exact rng_in c13 rfl) ?_
          refine s_icmp_eq dX12_shift_51 (tgt := 57) (by decide) (fun c51 => ?_) (fun c51 => ?_)
          · refine s_iload (j := 5) dX12_shift_57 rfl ?_
            refine s_if_lt dX12_shift_59 (tgt := 98) (by decide) (fun c59 => ?_) (fun c59 => ?_)
            · refine s_bipush (v := -13) dX12_shift_98 (by decide) ?_
              exact e_iret dX12_shift_100 rfl (by refine ⟨?_, M.2.2 1, ?_⟩; all_goals (try rw [mrl_id2]); all_goals unfold sp_shift; all_goals (first | rw [if_neg c5] | rw [if_pos c5]); all_goals (first | rw [if_neg c13] | rw [if_pos c13] | skip); all_goals (first | rw [if_pos c24] | rw [if_neg c24] | skip); all_goals (first | rw [if_pos c33] | rw [if_neg c33] | skip); all_goals (first | rw [if_pos c51] | rw [if_neg c51] | skip); all_goals (first | rw [if_pos c59] | rw [if_neg c59] | skip); all_goals (first | rw [if_pos c63] | rw [if_neg c63] | skip); all_goals (first | rw [if_pos c68] | rw [if_neg c68] | skip); all_goals (first | rw [if_pos c81] | rw [if_neg c81] | skip); all_goals (first | rw [if_neg c95] | skip); all_goals first | rfl | (rw [mrl_id]))
            · refine s_iload_n (j := 2) dX12_shift_62 rfl ?_
              refine s_if_lt dX12_shift_63 (tgt := 98) (by decide) (fun c63 => ?_) (fun c63 => ?_)
              · refine s_bipush (v := -13) dX12_shift_98 (by decide) ?_
                exact e_iret dX12_shift_100 rfl (by refine ⟨?_, M.2.2 1, ?_⟩; all_goals (try rw [mrl_id2]); all_goals unfold sp_shift; all_goals (first | rw [if_neg c5] | rw [if_pos c5]); all_goals (first | rw [if_neg c13] | rw [if_pos c13] | skip); all_goals (first | rw [if_pos c24] | rw [if_neg c24] | skip); all_goals (first | rw [if_pos c33] | rw [if_neg c33] | skip); all_goals (first | rw [if_pos c51] | rw [if_neg c51] | skip); all_goals (first | rw [if_pos c59] | rw [if_neg c59] | skip); all_goals (first | rw [if_pos c63] | rw [if_neg c63] | skip); all_goals (first | rw [if_pos c68] | rw [if_neg c68] | skip); all_goals (first | rw [if_pos c81] | rw [if_neg c81] | skip); all_goals (first | rw [if_neg c95] | skip); all_goals first | rfl | (rw [mrl_id]))
              · refine s_iload (j := 4) dX12_shift_66 rfl ?_
                refine s_if_lt dX12_shift_68 (tgt := 98) (by decide) (fun c68 => ?_) (fun c68 => ?_)
                · refine s_bipush (v := -13) dX12_shift_98 (by decide) ?_
                  exact e_iret dX12_shift_100 rfl (by refine ⟨?_, M.2.2 1, ?_⟩; all_goals (try rw [mrl_id2]); all_goals unfold sp_shift; all_goals (first | rw [if_neg c5] | rw [if_pos c5]); all_goals (first | rw [if_neg c13] | rw [if_pos c13] | skip); all_goals (first | rw [if_pos c24] | rw [if_neg c24] | skip); all_goals (first | rw [if_pos c33] | rw [if_neg c33] | skip); all_goals (first | rw [if_pos c51] | rw [if_neg c51] | skip); all_goals (first | rw [if_pos c59] | rw [if_neg c59] | skip); all_goals (first | rw [if_pos c63] | rw [if_neg c63] | skip); all_goals (first | rw [if_pos c68] | rw [if_neg c68] | skip); all_goals (first | rw [if_pos c81] | rw [if_neg c81] | skip); all_goals (first | rw [if_neg c95] | skip); all_goals first | rfl | (rw [mrl_id]))
                · refine s_iload_n (j := 2) dX12_shift_71 rfl ?_
                  refine s_aload_nr (j := 0) dX12_shift_72 rfl ?_
                  refine gM_length dX12_shift_73 rfl hP ?_
                  refine s_iload_n (j := 1) dX12_shift_76 rfl ?_
                  refine lM 38 dX12_shift_77 hP rfl (by first | exact rng_in c13 rfl | exact rng_in c5 rfl) ?_
                  refine s_iload (j := 5) dX12_shift_78 rfl ?_
                  refine s_isub dX12_shift_80 ?_
                  refine s_icmp_gt dX12_shift_81 (tgt := 98) (by decide) (fun c81 => ?_) (fun c81 => ?_)
                  · refine s_bipush (v := -13) dX12_shift_98 (by decide) ?_
                    exact e_iret dX12_shift_100 rfl (by refine ⟨?_, M.2.2 1, ?_⟩; all_goals (try rw [mrl_id2]); all_goals unfold sp_shift; all_goals (first | rw [if_neg c5] | rw [if_pos c5]); all_goals (first | rw [if_neg c13] | rw [if_pos c13] | skip); all_goals (first | rw [if_pos c24] | rw [if_neg c24] | skip); all_goals (first | rw [if_pos c33] | rw [if_neg c33] | skip); all_goals (first | rw [if_pos c51] | rw [if_neg c51] | skip); all_goals (first | rw [if_pos c59] | rw [if_neg c59] | skip); all_goals (first | rw [if_pos c63] | rw [if_neg c63] | skip); all_goals (first | rw [if_pos c68] | rw [if_neg c68] | skip); all_goals (first | rw [if_pos c81] | rw [if_neg c81] | skip); all_goals (first | rw [if_neg c95] | skip); all_goals first | rfl | (rw [mrl_id]))
                  · refine s_iload (j := 4) dX12_shift_84 rfl ?_
                    refine s_aload_nr (j := 0) dX12_shift_86 rfl ?_
                    refine gM_length dX12_shift_87 rfl hP ?_
                    refine s_iload_n (j := 3) dX12_shift_90 rfl ?_
                    refine lM 38 dX12_shift_91 hP rfl (by exact rng_in c13 rfl) ?_
                    refine s_iload (j := 5) dX12_shift_92 rfl ?_
                    refine s_isub dX12_shift_94 ?_
                    refine s_icmp_le dX12_shift_95 (tgt := 101) (by decide) (fun c95 => ?_) (fun c95 => ?_)
                    · obtain ⟨N, hN, eN⟩ := nI_of c59
                      obtain ⟨A, hA, eA⟩ := nI_of c63
                      obtain ⟨B, hB, eB⟩ := nI_of c68
                      have pA : pz a = A := by rw [eA]; exact nI_clamp hA
                      have pB : pz b = B := by rw [eB]; exact nI_clamp hB
                      have pN : pz w = N := by rw [eN]; exact nI_clamp hN
                      have l1 := sh_le (hlen _ (pz_lt (rng_in (n := 6) c5 rfl))) hA hN (by rw [← eA, ← eN]; exact Int32.not_lt.mp c81)
                      have l2 := sh_le (hlen _ (pz_lt (rng_in (n := 6) c13 rfl))) hB hN (by rw [← eB, ← eN]; exact c95)
                      have eT := nI_pz c5.1
                      have eO := nI_pz c13.1
                      have lT := pz_lt (rng_in (n := 6) c5 rfl)
                      have lO := pz_lt (rng_in (n := 6) c13 rfl)
                      generalize hT : pz t = T at *
                      generalize hO : pz o = O at *
                      refine s_iconst (v := 0) dX12_shift_101 (by decide) ?_
                      refine s_istore dX12_shift_102 (by decide) rfl ?_
                      have LA : ∀ (n : Nat) (r : Nat), N - r < n → r ≤ N → Sem (d + 2) qX12_shift 0 0 104 [(0, .ref 95), (1, .int t), (2, .int a), (3, .int o), (4, .int b), (5, .int w), (6, .int (nI r))] [] (mh P (mrl M 1 (fil (M.2.2 1) 0 r (fun k => M.2.2 0 (60 * T + A + k)))) D) (PI fun y h => y = (sp_shift M t a o b w).1 ∧ ∃ f, h = mh P (mrl (sp_shift M t a o b w).2 1 f) D) := by
                        intro n
                        induction n with
                        | zero => intro r hm; exact absurd hm (Nat.not_lt_zero _)
                        | succ n iha =>
                          intro r hma h1
                          refine s_iload (j := 6) dX12_shift_104 rfl ?_
                          refine s_iload (j := 5) dX12_shift_106 rfl ?_
                          refine s_icmp_ge dX12_shift_108 (tgt := 138) (by decide) (fun c108 => ?_) (fun c108 => ?_)
                          · rw [eN] at c108
                            obtain rfl : N = r := (Nat.le_antisymm h1 ((nI_leI (by omega) (by omega)).mp c108)).symm
                            refine s_iconst (v := 0) dX12_shift_138 (by decide) ?_
                            refine s_istore dX12_shift_139 (by decide) rfl ?_
                            have LB : ∀ (n : Nat) (r : Nat), N - r < n → r ≤ N → Sem (d + 2) qX12_shift 0 0 141 [(0, .ref 95), (1, .int t), (2, .int a), (3, .int o), (4, .int b), (5, .int w), (6, .int (nI r))] [] (mh P (mrl (mrl M 0 (fil (M.2.2 0) (60 * O + B) r (fun k => M.2.2 0 (60 * T + A + k)))) 1 (fil (M.2.2 1) 0 N (fun k => M.2.2 0 (60 * T + A + k)))) D) (PI fun y h => y = (sp_shift M t a o b w).1 ∧ ∃ f, h = mh P (mrl (sp_shift M t a o b w).2 1 f) D) := by
                              intro n
                              induction n with
                              | zero => intro r hm; exact absurd hm (Nat.not_lt_zero _)
                              | succ n ihb =>
                                intro r hmb h1
                                refine s_iload (j := 6) dX12_shift_141 rfl ?_
                                refine s_iload (j := 5) dX12_shift_143 rfl ?_
                                refine s_icmp_ge dX12_shift_145 (tgt := 176) (by decide) (fun c145 => ?_) (fun c145 => ?_)
                                · rw [eN] at c145
                                  obtain rfl : N = r := (Nat.le_antisymm h1 ((nI_leI (by omega) (by omega)).mp c145)).symm
                                  refine s_iload (j := 5) dX12_shift_176 rfl ?_
                                  exact e_iret dX12_shift_178 rfl (by rw [sp_shift, if_pos c5, if_pos c13, if_neg c24, if_pos c33, if_pos c51, if_neg c59, if_neg c63, if_neg c68, if_neg c81, if_pos c95]; exact ⟨rfl, _, by rw [shI, pA, pB, pN, hT, hO]⟩)
                                · rw [eN] at c145
                                  have hr : r < N := Nat.lt_of_not_le fun z => c145 ((nI_leI (by omega) (by omega)).mpr z)
                                  refine s_aload_nr (j := 0) dX12_shift_148 rfl ?_
                                  refine gM_item dX12_shift_149 rfl hP ?_
                                  refine s_bipush (v := 60) dX12_shift_152 (by decide) ?_
                                  refine s_iload_n (j := 3) dX12_shift_154 rfl ?_
                                  refine s_imul dX12_shift_155 ?_
                                  refine s_iload (j := 4) dX12_shift_156 rfl ?_
                                  refine s_iadd dX12_shift_158 ?_
                                  refine s_iload (j := 6) dX12_shift_159 rfl ?_
                                  refine s_iadd dX12_shift_161 ?_
                                  refine s_aload_nr (j := 0) dX12_shift_162 rfl ?_
                                  refine gM_aside dX12_shift_163 rfl hP ?_
                                  refine s_iload (j := 6) dX12_shift_166 rfl ?_
                                  refine llM 40 dX12_shift_168 hP rfl (by exact vp_in_nI (by omega) (by decide)) ?_
                                  refine sM_item dX12_shift_169 hP (by rw [eB, sh_ix eO]; exact vp_in_nI (by omega) (by decide)) ?_
                                  refine s_iinc (j := 6) (v := _ + (1)) dX12_shift_170 rfl rfl (by decide) rfl ?_
                                  refine s_goto dX12_shift_173 (tgt := 141) (by decide) ?_
                                  refine s_locals [1, 2, 3, 4, 5, 6, 0] rfl ?_
                                  rw [nI_1, mrl_sw]
                                  have e8 := fil_sL (M.2.2 0) (60 * O + B) r (fun k => M.2.2 0 (60 * T + A + k))
                                  have e7 := ihb (r + 1) (by omega) (by omega)
                                  rw [← e8] at e7
                                  rw [show (60 * o + b + nI r).toNatClampNeg = 60 * O + B + r by rw [eB, sh_ix eO]; exact nI_clamp (by omega)]
                                  rw [show ((mrl (mrl M 0 (fil (M.2.2 0) (60 * O + B) r (fun k => M.2.2 0 (60 * T + A + k)))) 1 (fil (M.2.2 1) 0 N (fun k => M.2.2 0 (60 * T + A + k)))).2.2 1 (nI r).toNatClampNeg) = (fun k => M.2.2 0 (60 * T + A + k)) r by rw [show (nI r).toNatClampNeg = r from nI_clamp (by omega)]; exact fil_lt (f := M.2.2 1) (g := (fun k => M.2.2 0 (60 * T + A + k))) (n := N) (j := r) (by omega)]
                                  exact e7
                            refine s_locals [1, 2, 3, 4, 5, 6, 0] rfl ?_
                            have e9 : mrl M 1 (fil (M.2.2 1) 0 N (fun k => M.2.2 0 (60 * T + A + k))) = mrl (mrl M 0 (fil (M.2.2 0) (60 * O + B) 0 (fun k => M.2.2 0 (60 * T + A + k)))) 1 (fil (M.2.2 1) 0 N (fun k => M.2.2 0 (60 * T + A + k))) := by rw [fil_0, mrl_id]
                            have e8 := LB (N + 1) 0 (by omega) (Nat.zero_le _)
                            rw [← e9] at e8
                            exact e8
                          · rw [eN] at c108
                            have hr : r < N := Nat.lt_of_not_le fun z => c108 ((nI_leI (by omega) (by omega)).mpr z)
                            refine s_aload_nr (j := 0) dX12_shift_111 rfl ?_
                            refine gM_aside dX12_shift_112 rfl hP ?_
                            refine s_iload (j := 6) dX12_shift_115 rfl ?_
                            refine s_aload_nr (j := 0) dX12_shift_117 rfl ?_
                            refine gM_item dX12_shift_118 rfl hP ?_
                            refine s_bipush (v := 60) dX12_shift_121 (by decide) ?_
                            refine s_iload_n (j := 1) dX12_shift_123 rfl ?_
                            refine s_imul dX12_shift_124 ?_
                            refine s_iload_n (j := 2) dX12_shift_125 rfl ?_
                            refine s_iadd dX12_shift_126 ?_
                            refine s_iload (j := 6) dX12_shift_127 rfl ?_
                            refine s_iadd dX12_shift_129 ?_
                            refine llM 39 dX12_shift_130 hP rfl (by rw [eA, sh_ix eT]; exact vp_in_nI (by omega) (by decide)) ?_
                            refine sM_aside dX12_shift_131 hP (by exact vp_in_nI (by omega) (by decide)) ?_
                            refine s_iinc (j := 6) (v := _ + (1)) dX12_shift_132 rfl rfl (by decide) rfl ?_
                            refine s_goto dX12_shift_135 (tgt := 104) (by decide) ?_
                            refine s_locals [1, 2, 3, 4, 5, 6, 0] rfl ?_
                            rw [nI_1, mrl_sl]
                            have e8 := fil_sL (M.2.2 1) 0 r (fun k => M.2.2 0 (60 * T + A + k))
                            rw [Nat.zero_add] at e8
                            have e7 := iha (r + 1) (by omega) (by omega)
                            rw [← e8] at e7
                            rw [show (nI r).toNatClampNeg = r from nI_clamp (by omega), show (60 * t + a + nI r).toNatClampNeg = 60 * T + A + r by rw [eA, sh_ix eT]; exact nI_clamp (by omega)]
                            exact e7
                      refine s_locals [1, 2, 3, 4, 5, 6, 0] rfl ?_
                      have e9 : M = mrl M 1 (fil (M.2.2 1) 0 0 (fun k => M.2.2 0 (60 * T + A + k))) := by rw [fil_0]; exact (mrl_id M 1).symm
                      have e8 := LA (N + 1) 0 (by omega) (Nat.zero_le _)
                      rw [← e9] at e8
                      exact e8
                    · refine s_bipush (v := -13) dX12_shift_98 (by decide) ?_
                      exact e_iret dX12_shift_100 rfl (by refine ⟨?_, M.2.2 1, ?_⟩; all_goals (try rw [mrl_id2]); all_goals unfold sp_shift; all_goals (first | rw [if_neg c5] | rw [if_pos c5]); all_goals (first | rw [if_neg c13] | rw [if_pos c13] | skip); all_goals (first | rw [if_pos c24] | rw [if_neg c24] | skip); all_goals (first | rw [if_pos c33] | rw [if_neg c33] | skip); all_goals (first | rw [if_pos c51] | rw [if_neg c51] | skip); all_goals (first | rw [if_pos c59] | rw [if_neg c59] | skip); all_goals (first | rw [if_pos c63] | rw [if_neg c63] | skip); all_goals (first | rw [if_pos c68] | rw [if_neg c68] | skip); all_goals (first | rw [if_pos c81] | rw [if_neg c81] | skip); all_goals (first | rw [if_neg c95] | skip); all_goals first | rfl | (rw [mrl_id]))
          · refine s_bipush (v := -12) dX12_shift_54 (by decide) ?_
            exact e_iret dX12_shift_56 rfl (by refine ⟨?_, M.2.2 1, ?_⟩; all_goals (try rw [mrl_id2]); all_goals unfold sp_shift; all_goals (first | rw [if_neg c5] | rw [if_pos c5]); all_goals (first | rw [if_neg c13] | rw [if_pos c13] | skip); all_goals (first | rw [if_pos c24] | rw [if_neg c24] | skip); all_goals (first | rw [if_pos c33] | rw [if_neg c33] | skip); all_goals (first | rw [if_pos c51] | rw [if_neg c51] | skip); all_goals (first | rw [if_pos c59] | rw [if_neg c59] | skip); all_goals (first | rw [if_pos c63] | rw [if_neg c63] | skip); all_goals (first | rw [if_pos c68] | rw [if_neg c68] | skip); all_goals (first | rw [if_pos c81] | rw [if_neg c81] | skip); all_goals (first | rw [if_neg c95] | skip); all_goals first | rfl | (rw [mrl_id]))
        · refine s_bipush (v := -11) dX12_shift_36 (by decide) ?_
          exact e_iret dX12_shift_38 rfl (by refine ⟨?_, M.2.2 1, ?_⟩; all_goals (try rw [mrl_id2]); all_goals unfold sp_shift; all_goals (first | rw [if_neg c5] | rw [if_pos c5]); all_goals (first | rw [if_neg c13] | rw [if_pos c13] | skip); all_goals (first | rw [if_pos c24] | rw [if_neg c24] | skip); all_goals (first | rw [if_pos c33] | rw [if_neg c33] | skip); all_goals (first | rw [if_pos c51] | rw [if_neg c51] | skip); all_goals (first | rw [if_pos c59] | rw [if_neg c59] | skip); all_goals (first | rw [if_pos c63] | rw [if_neg c63] | skip); all_goals (first | rw [if_pos c68] | rw [if_neg c68] | skip); all_goals (first | rw [if_pos c81] | rw [if_neg c81] | skip); all_goals (first | rw [if_neg c95] | skip); all_goals first | rfl | (rw [mrl_id]))
    · replace c13 := b2i_0.mp c13
      refine s_iconst (v := -1) dX12_shift_16 (by decide) ?_
      exact e_iret dX12_shift_17 rfl (by refine ⟨?_, M.2.2 1, ?_⟩; all_goals (try rw [mrl_id2]); all_goals unfold sp_shift; all_goals (first | rw [if_neg c5] | rw [if_pos c5]); all_goals (first | rw [if_neg c13] | rw [if_pos c13] | skip); all_goals (first | rw [if_pos c24] | rw [if_neg c24] | skip); all_goals (first | rw [if_pos c33] | rw [if_neg c33] | skip); all_goals (first | rw [if_pos c51] | rw [if_neg c51] | skip); all_goals (first | rw [if_pos c59] | rw [if_neg c59] | skip); all_goals (first | rw [if_pos c63] | rw [if_neg c63] | skip); all_goals (first | rw [if_pos c68] | rw [if_neg c68] | skip); all_goals (first | rw [if_pos c81] | rw [if_neg c81] | skip); all_goals (first | rw [if_neg c95] | skip); all_goals first | rfl | (rw [mrl_id]))
