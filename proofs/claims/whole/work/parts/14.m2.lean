set_option maxRecDepth 100000 in
set_option maxHeartbeats 4000000 in
theorem m_firstOf (d : Nat) (P D : HP) (M : MZ) (hP : P.length = 95) (p : Int32) (hp : vp_in p 4) (hs : ∀ i, i < 4 → 0 ≤ M.2.1 4 i) : Con d qX12_firstOf 0 0 [.ref 95, .int p] (mh P M D) (XI (mFirst M p) (mh P M D)) := by
  refine Con.of (by decide +kernel) (Nat.le_of_ble_eq_true rfl) ?_
  show Sem d qX12_firstOf 0 0 0 [(0, .ref 95), (1, .int p)] [] (mh P M D) _
  refine s_aload_nr (j := 0) dX12_firstOf_0 rfl ?_
  refine gM_kind dX12_firstOf_1 rfl hP ?_
  refine s_iload_n (j := 1) dX12_firstOf_4 rfl ?_
  refine lM 1 dX12_firstOf_5 hP rfl (by first | exact hp | exact rows_in hp (hs _ (pz_lt hp))) ?_
  refine s_topi (fun x6 ex6 => ?_)
  by_cases k6_0 : x6 = 2
  · refine s_tswIn dX12_firstOf_6 (tgt := 40) (by rw [k6_0]; decide) (by rw [k6_0]; decide) (off := 34) (by rw [k6_0]; decide) (by decide) ?_
    replace ex6 := ex6.symm.trans k6_0
    clear k6_0
    refine s_aload_nr (j := 0) dX12_firstOf_40 rfl ?_
    refine gM_soft dX12_firstOf_41 rfl hP ?_
    refine s_iload_n (j := 1) dX12_firstOf_44 rfl ?_
    refine lM 4 dX12_firstOf_45 hP rfl (by first | exact hp | exact rows_in hp (hs _ (pz_lt hp))) ?_
    exact e_iret dX12_firstOf_46 rfl (by exact ⟨by simp [mFirst, pz, *] <;> (try (intro z; exact absurd z (Int32.not_lt.mpr (by assumption)))), rfl⟩)
  by_cases k6_1 : x6 = 3
  · refine s_tswIn dX12_firstOf_6 (tgt := 79) (by rw [k6_1]; decide) (by rw [k6_1]; decide) (off := 73) (by rw [k6_1]; decide) (by decide) ?_
    replace ex6 := ex6.symm.trans k6_1
    clear k6_1 k6_0
    refine s_aload_nr (j := 0) dX12_firstOf_79 rfl ?_
    refine gM_hard dX12_firstOf_80 rfl hP ?_
    refine s_iload_n (j := 1) dX12_firstOf_83 rfl ?_
    refine lM 3 dX12_firstOf_84 hP rfl (by first | exact hp | exact rows_in hp (hs _ (pz_lt hp))) ?_
    refine s_aload_nr (j := 0) dX12_firstOf_85 rfl ?_
    refine gM_served dX12_firstOf_86 rfl hP ?_
    refine s_iload_n (j := 1) dX12_firstOf_89 rfl ?_
    refine lM 5 dX12_firstOf_90 hP rfl (by first | exact hp | exact rows_in hp (hs _ (pz_lt hp))) ?_
    refine s_bipush (v := 20) dX12_firstOf_91 (by decide) ?_
    refine s_idiv dX12_firstOf_93 (by decide) ?_
    refine s_icmp_ge dX12_firstOf_94 (tgt := 101) (by decide) (fun c94 => ?_) (fun c94 => ?_)
    · refine s_aload_nr (j := 0) dX12_firstOf_101 rfl ?_
      refine gM_hard dX12_firstOf_102 rfl hP ?_
      refine s_iload_n (j := 1) dX12_firstOf_105 rfl ?_
      refine lM 3 dX12_firstOf_106 hP rfl (by first | exact hp | exact rows_in hp (hs _ (pz_lt hp))) ?_
      refine s_aload_nr (j := 0) dX12_firstOf_107 rfl ?_
      refine gM_served dX12_firstOf_108 rfl hP ?_
      refine s_iload_n (j := 1) dX12_firstOf_111 rfl ?_
      refine lM 5 dX12_firstOf_112 hP rfl (by first | exact hp | exact rows_in hp (hs _ (pz_lt hp))) ?_
      refine s_bipush (v := 20) dX12_firstOf_113 (by decide) ?_
      refine s_idiv dX12_firstOf_115 (by decide) ?_
      refine s_isub dX12_firstOf_116 ?_
      exact e_iret dX12_firstOf_117 rfl (by exact ⟨by simp [mFirst, pz, *] <;> (try (intro z; exact absurd z (Int32.not_lt.mpr (by assumption)))), rfl⟩)
    · refine s_iconst (v := 0) dX12_firstOf_97 (by decide) ?_
      refine s_goto dX12_firstOf_98 (tgt := 117) (by decide) ?_
      exact e_iret dX12_firstOf_117 rfl (by exact ⟨by simp [mFirst, pz, *] <;> (try (intro z; exact absurd z (Int32.not_lt.mpr (by assumption)))), rfl⟩)
  by_cases k6_2 : x6 = 4
  · refine s_tswIn dX12_firstOf_6 (tgt := 136) (by rw [k6_2]; decide) (by rw [k6_2]; decide) (off := 130) (by rw [k6_2]; decide) (by decide) ?_
    replace ex6 := ex6.symm.trans k6_2
    clear k6_2 k6_1 k6_0
    refine s_aload_nr (j := 0) dX12_firstOf_136 rfl ?_
    refine gM_hard dX12_firstOf_137 rfl hP ?_
    refine s_iload_n (j := 1) dX12_firstOf_140 rfl ?_
    refine lM 3 dX12_firstOf_141 hP rfl (by first | exact hp | exact rows_in hp (hs _ (pz_lt hp))) ?_
    exact e_iret dX12_firstOf_142 rfl (by exact ⟨by simp [mFirst, pz, *] <;> (try (intro z; exact absurd z (Int32.not_lt.mpr (by assumption)))), rfl⟩)
  by_cases k6_3 : x6 = 5
  · refine s_tswIn dX12_firstOf_6 (tgt := 47) (by rw [k6_3]; decide) (by rw [k6_3]; decide) (off := 41) (by rw [k6_3]; decide) (by decide) ?_
    replace ex6 := ex6.symm.trans k6_3
    clear k6_3 k6_2 k6_1 k6_0
    refine s_aload_nr (j := 0) dX12_firstOf_47 rfl ?_
    refine gM_won dX12_firstOf_48 rfl hP ?_
    refine s_iconst (v := 3) dX12_firstOf_51 (by decide) ?_
    refine s_icmp_eq dX12_firstOf_52 (tgt := 63) (by decide) (fun c52 => ?_) (fun c52 => ?_)
    · refine s_aload_nr (j := 0) dX12_firstOf_63 rfl ?_
      refine gM_hard dX12_firstOf_64 rfl hP ?_
      refine s_iload_n (j := 1) dX12_firstOf_67 rfl ?_
      refine lM 3 dX12_firstOf_68 hP rfl (by first | exact hp | exact rows_in hp (hs _ (pz_lt hp))) ?_
      refine s_goto dX12_firstOf_69 (tgt := 78) (by decide) ?_
      exact e_iret dX12_firstOf_78 rfl (by exact ⟨by simp [mFirst, pz, *] <;> (try (intro z; exact absurd z (Int32.not_lt.mpr (by assumption)))), rfl⟩)
    · refine s_aload_nr (j := 0) dX12_firstOf_55 rfl ?_
      refine gM_lost dX12_firstOf_56 rfl hP ?_
      refine s_iconst (v := 3) dX12_firstOf_59 (by decide) ?_
      refine s_icmp_ne dX12_firstOf_60 (tgt := 72) (by decide) (fun c60 => ?_) (fun c60 => ?_)
      · refine s_aload_nr (j := 0) dX12_firstOf_72 rfl ?_
        refine gM_soft dX12_firstOf_73 rfl hP ?_
        refine s_iload_n (j := 1) dX12_firstOf_76 rfl ?_
        refine lM 4 dX12_firstOf_77 hP rfl (by first | exact hp | exact rows_in hp (hs _ (pz_lt hp))) ?_
        exact e_iret dX12_firstOf_78 rfl (by exact ⟨by simp [mFirst, pz, *] <;> (try (intro z; exact absurd z (Int32.not_lt.mpr (by assumption)))), rfl⟩)
      · refine s_aload_nr (j := 0) dX12_firstOf_63 rfl ?_
        refine gM_hard dX12_firstOf_64 rfl hP ?_
        refine s_iload_n (j := 1) dX12_firstOf_67 rfl ?_
        refine lM 3 dX12_firstOf_68 hP rfl (by first | exact hp | exact rows_in hp (hs _ (pz_lt hp))) ?_
        refine s_goto dX12_firstOf_69 (tgt := 78) (by decide) ?_
        exact e_iret dX12_firstOf_78 rfl (by exact ⟨by simp [mFirst, pz, *] <;> (try (intro z; exact absurd z (Int32.not_lt.mpr (by assumption)))), rfl⟩)
  by_cases k6_4 : x6 = 6
  · refine s_tswIn dX12_firstOf_6 (tgt := 118) (by rw [k6_4]; decide) (by rw [k6_4]; decide) (off := 112) (by rw [k6_4]; decide) (by decide) ?_
    replace ex6 := ex6.symm.trans k6_4
    clear k6_4 k6_3 k6_2 k6_1 k6_0
    refine s_aload_nr (j := 0) dX12_firstOf_118 rfl ?_
    refine gM_rows dX12_firstOf_119 rfl hP ?_
    refine s_iconst (v := 4) dX12_firstOf_122 (by decide) ?_
    refine s_iload_n (j := 1) dX12_firstOf_123 rfl ?_
    refine s_imul dX12_firstOf_124 ?_
    refine s_aload_nr (j := 0) dX12_firstOf_125 rfl ?_
    refine gM_served dX12_firstOf_126 rfl hP ?_
    refine s_iload_n (j := 1) dX12_firstOf_129 rfl ?_
    refine lM 5 dX12_firstOf_130 hP rfl (by first | exact hp | exact rows_in hp (hs _ (pz_lt hp))) ?_
    refine s_iconst (v := 4) dX12_firstOf_131 (by decide) ?_
    refine s_irem dX12_firstOf_132 (by decide) ?_
    refine s_iadd dX12_firstOf_133 ?_
    refine lM 6 dX12_firstOf_134 hP rfl (by first | exact hp | exact rows_in hp (hs _ (pz_lt hp))) ?_
    exact e_iret dX12_firstOf_135 rfl (by exact ⟨by simp [mFirst, pz, *] <;> (try (intro z; exact absurd z (Int32.not_lt.mpr (by assumption)))), rfl⟩)
  refine s_tswOut dX12_firstOf_6 (tgt := 136) (by have a0 := lv_neT (a := 2) k6_0 rfl; have a1 := lv_neT (a := 3) k6_1 rfl; have a2 := lv_neT (a := 4) k6_2 rfl; have a3 := lv_neT (a := 5) k6_3 rfl; have a4 := lv_neT (a := 6) k6_4 rfl; omega) (by decide) ?_
  replace k6_0 : ¬ _ = _ := fun z => k6_0 (ex6.trans z)
  replace k6_1 : ¬ _ = _ := fun z => k6_1 (ex6.trans z)
  replace k6_2 : ¬ _ = _ := fun z => k6_2 (ex6.trans z)
  replace k6_3 : ¬ _ = _ := fun z => k6_3 (ex6.trans z)
  replace k6_4 : ¬ _ = _ := fun z => k6_4 (ex6.trans z)
  clear ex6
  refine s_aload_nr (j := 0) dX12_firstOf_136 rfl ?_
  refine gM_hard dX12_firstOf_137 rfl hP ?_
  refine s_iload_n (j := 1) dX12_firstOf_140 rfl ?_
  refine lM 3 dX12_firstOf_141 hP rfl (by first | exact hp | exact rows_in hp (hs _ (pz_lt hp))) ?_
  exact e_iret dX12_firstOf_142 rfl (by exact ⟨by simp [mFirst, pz, *] <;> (try (intro z; exact absurd z (Int32.not_lt.mpr (by assumption)))), rfl⟩)

set_option maxRecDepth 100000 in
set_option maxHeartbeats 4000000 in
theorem m_secondOf (d : Nat) (P D : HP) (M : MZ) (hP : P.length = 95) (p : Int32) (hp : vp_in p 4) : Con d qX12_secondOf 0 0 [.ref 95, .int p] (mh P M D) (XI (mSecond M p) (mh P M D)) := by
  refine Con.of (by decide +kernel) (Nat.le_of_ble_eq_true rfl) ?_
  show Sem d qX12_secondOf 0 0 0 [(0, .ref 95), (1, .int p)] [] (mh P M D) _
  refine s_aload_nr (j := 0) dX12_secondOf_0 rfl ?_
  refine gM_kind dX12_secondOf_1 rfl hP ?_
  refine s_iload_n (j := 1) dX12_secondOf_4 rfl ?_
  refine lM 1 dX12_secondOf_5 hP rfl (by exact hp) ?_
  refine s_iconst (v := 1) dX12_secondOf_6 (by decide) ?_
  refine s_icmp_eq dX12_secondOf_7 (tgt := 20) (by decide) (fun c7 => ?_) (fun c7 => ?_)
  · refine s_aload_nr (j := 0) dX12_secondOf_20 rfl ?_
    refine gM_hard dX12_secondOf_21 rfl hP ?_
    refine s_iload_n (j := 1) dX12_secondOf_24 rfl ?_
    refine lM 3 dX12_secondOf_25 hP rfl (by exact hp) ?_
    refine s_goto dX12_secondOf_26 (tgt := 35) (by decide) ?_
    exact e_iret dX12_secondOf_35 rfl (by exact ⟨by simp [mSecond, pz, *], rfl⟩)
  · refine s_aload_nr (j := 0) dX12_secondOf_10 rfl ?_
    refine gM_kind dX12_secondOf_11 rfl hP ?_
    refine s_iload_n (j := 1) dX12_secondOf_14 rfl ?_
    refine lM 1 dX12_secondOf_15 hP rfl (by exact hp) ?_
    refine s_iconst (v := 4) dX12_secondOf_16 (by decide) ?_
    refine s_icmp_ne dX12_secondOf_17 (tgt := 29) (by decide) (fun c17 => ?_) (fun c17 => ?_)
    · refine s_aload_nr (j := 0) dX12_secondOf_29 rfl ?_
      refine gM_soft dX12_secondOf_30 rfl hP ?_
      refine s_iload_n (j := 1) dX12_secondOf_33 rfl ?_
      refine lM 4 dX12_secondOf_34 hP rfl (by exact hp) ?_
      exact e_iret dX12_secondOf_35 rfl (by exact ⟨by simp [mSecond, pz, *], rfl⟩)
    · refine s_aload_nr (j := 0) dX12_secondOf_20 rfl ?_
      refine gM_hard dX12_secondOf_21 rfl hP ?_
      refine s_iload_n (j := 1) dX12_secondOf_24 rfl ?_
      refine lM 3 dX12_secondOf_25 hP rfl (by exact hp) ?_
      refine s_goto dX12_secondOf_26 (tgt := 35) (by decide) ?_
      exact e_iret dX12_secondOf_35 rfl (by exact ⟨by simp [mSecond, pz, *], rfl⟩)

set_option maxRecDepth 100000 in
set_option maxHeartbeats 4000000 in
theorem m_body (d : Nat) (P D : HP) (M : MZ) (hP : P.length = 95) (tr : List Int32) (g : Nat → Int32) (hg : TRo tr g) (hl : tr.length < 1000) (b : Int32) : Con d qX12_body 0 0 [.ref 95, .int b] (mh P (mtr M tr g) D) (PV fun h => ∃ g2, TRo (tr ++ [b]) g2 ∧ h = mh P (mtr M (tr ++ [b]) g2) D) := by
  refine Con.of (by decide +kernel) (Nat.le_of_ble_eq_true rfl) ?_
  show Sem d qX12_body 0 0 0 [(0, .ref 95), (1, .int b)] [] (mh P (mtr M tr g) D) _
  refine s_aload_nr (j := 0) dX12_body_0 rfl ?_
  refine gM_ran dX12_body_1 rfl hP ?_
  refine s_bipush (v := 20) dX12_body_4 (by decide) ?_
  refine s_icmp_ge dX12_body_6 (tgt := 19) (by decide) (fun c6 => ?_) (fun c6 => ?_)
  · refine s_aload_nr (j := 0) dX12_body_19 rfl ?_
    refine s_dup dX12_body_20 rfl ?_
    refine gM_ran dX12_body_21 rfl hP ?_
    refine s_iconst (v := 1) dX12_body_24 (by decide) ?_
    refine s_iadd dX12_body_25 ?_
    refine pM_ran dX12_body_26 rfl hP ?_
    exact e_vret dX12_body_29 rfl (by first | exact ⟨_, TRo.push hg b, congrArg (fun z => mh P z D) (mtr_push M tr g b hl)⟩ | exact ⟨_, TRo.over hg b (by have e20 : (20 : Int32) = nI 20 := rfl; rw [e20] at c6; exact (nI_leI (by decide) (by omega)).mp c6), congrArg (fun z => mh P z D) (mtr_over M tr g b)⟩)
  · refine s_aload_nr (j := 0) dX12_body_9 rfl ?_
    refine gM_bodies dX12_body_10 rfl hP ?_
    refine s_aload_nr (j := 0) dX12_body_13 rfl ?_
    refine gM_ran dX12_body_14 rfl hP ?_
    refine s_iload_n (j := 1) dX12_body_17 rfl ?_
    refine sM_bodies dX12_body_18 hP (by have e20 : (20 : Int32) = nI 20 := rfl; show vp_in (nI tr.length) 20; refine vp_in_nI ?_ (by decide); refine Nat.lt_of_not_le fun z => c6 ?_; rw [e20]; exact nI_le z (by omega)) ?_
    refine s_aload_nr (j := 0) dX12_body_19 rfl ?_
    refine s_dup dX12_body_20 rfl ?_
    refine gM_ran dX12_body_21 rfl hP ?_
    refine s_iconst (v := 1) dX12_body_24 (by decide) ?_
    refine s_iadd dX12_body_25 ?_
    refine pM_ran dX12_body_26 rfl hP ?_
    exact e_vret dX12_body_29 rfl (by first | exact ⟨_, TRo.push hg b, congrArg (fun z => mh P z D) (mtr_push M tr g b hl)⟩ | exact ⟨_, TRo.over hg b (by have e20 : (20 : Int32) = nI 20 := rfl; rw [e20] at c6; exact (nI_leI (by decide) (by omega)).mp c6), congrArg (fun z => mh P z D) (mtr_over M tr g b)⟩)

set_option maxRecDepth 100000 in
set_option maxHeartbeats 4000000 in
theorem m_T0 (d : Nat) (P D : HP) (M : MZ) (hP : P.length = 95) (tr : List Int32) (g : Nat → Int32) (hg : TRo tr g) (hl : tr.length ≤ 998) (i x : Int32) : Con (d + 1) qX12_serverTosses 0 0 [.ref 95, .int i, .int x] (mh P (mtr M tr g) D) (PI fun y h => y = ((x + i, ([10] : List Int32))).1 ∧ ∃ g2, TRo (tr ++ ((x + i, ([10] : List Int32))).2) g2 ∧ h = mh P (mtr M (tr ++ ((x + i, ([10] : List Int32))).2) g2) D) := by
  refine Con.of (by decide +kernel) (Nat.le_of_ble_eq_true rfl) ?_
  show Sem (d + 1) qX12_serverTosses 0 0 0 [(0, .ref 95), (1, .int i), (2, .int x)] [] (mh P (mtr M tr g) D) _
  refine s_aload_nr (j := 0) dX12_serverTosses_0 rfl ?_
  refine s_bipush (v := 10) dX12_serverTosses_1 (by decide) ?_
  refine s_V1v cv_X12_342 rfl dX12_serverTosses_3 (mh_get (k := 0) hP rfl) rfl (Nat.le_of_ble_eq_true rfl) (m_body _ P D M hP _ _ (by assumption) (by (try simp only [List.length_append, List.length_cons, List.length_nil]); omega) _) (fun h3 q3 => ?_)
  obtain ⟨g3, hg3, rfl⟩ := q3
  refine s_iload_n (j := 2) dX12_serverTosses_6 rfl ?_
  refine s_iload_n (j := 1) dX12_serverTosses_7 rfl ?_
  refine s_iadd dX12_serverTosses_8 ?_
  exact e_iret dX12_serverTosses_9 rfl (by exact ⟨rfl, _, by assumption, rfl⟩)

set_option maxRecDepth 100000 in
set_option maxHeartbeats 4000000 in
theorem m_T (d : Nat) (P D : HP) (M : MZ) (hP : P.length = 95) (tr : List Int32) (g : Nat → Int32) (hg : TRo tr g) (hl : tr.length ≤ 990) (i x : Int32) (hi : vp_in i 4) : Con (d + 2) qX12_tossesAct 0 0 [.ref 95, .int i, .int x] (mh P (mtr M tr g) D) (PI fun y h => y = (aT (M.2.1 0 i.toNatClampNeg) (M.2.1 1 i.toNatClampNeg) i x).1 ∧ ∃ g2, TRo (tr ++ (aT (M.2.1 0 i.toNatClampNeg) (M.2.1 1 i.toNatClampNeg) i x).2) g2 ∧ h = mh P (mtr M (tr ++ (aT (M.2.1 0 i.toNatClampNeg) (M.2.1 1 i.toNatClampNeg) i x).2) g2) D) := by
  refine Con.of (by decide +kernel) (Nat.le_of_ble_eq_true rfl) ?_
  show Sem (d + 2) qX12_tossesAct 0 0 0 [(0, .ref 95), (1, .int i), (2, .int x)] [] (mh P (mtr M tr g) D) _
  refine s_aload_nr (j := 0) dX12_tossesAct_0 rfl ?_
  refine gM_kind dX12_tossesAct_1 rfl hP ?_
  refine s_iload_n (j := 1) dX12_tossesAct_4 rfl ?_
  refine lM 1 dX12_tossesAct_5 hP rfl (by exact hi) ?_
  refine s_topi (fun x6 ex6 => ?_)
  by_cases k6_0 : x6 = 2
  · refine s_tswIn dX12_tossesAct_6 (tgt := 40) (by rw [k6_0]; decide) (by rw [k6_0]; decide) (off := 34) (by rw [k6_0]; decide) (by decide) ?_
    replace ex6 := ex6.symm.trans k6_0
    clear k6_0
    refine s_aload_nr (j := 0) dX12_tossesAct_40 rfl ?_
    refine s_bipush (v := 30) dX12_tossesAct_41 (by decide) ?_
    refine s_V1v cv_X12_342 rfl dX12_tossesAct_43 (mh_get (k := 0) hP rfl) rfl (Nat.le_of_ble_eq_true rfl) (m_body _ P D M hP _ _ (by assumption) (by (try simp only [List.length_append, List.length_cons, List.length_nil]); omega) _) (fun h43 q43 => ?_)
    obtain ⟨g43, hg43, rfl⟩ := q43
    refine s_aload_nr (j := 0) dX12_tossesAct_46 rfl ?_
    refine s_iload_n (j := 1) dX12_tossesAct_47 rfl ?_
    refine s_iload_n (j := 2) dX12_tossesAct_48 rfl ?_
    refine s_iconst (v := 3) dX12_tossesAct_49 (by decide) ?_
    refine s_imul dX12_tossesAct_50 ?_
    refine s_V2i cv_X12_345 rfl dX12_tossesAct_51 (mh_get (k := 0) hP rfl) rfl (Nat.le_of_ble_eq_true rfl) (m_T0 _ P D M hP _ _ (by assumption) (by (try simp only [List.length_append, List.length_cons, List.length_nil]); omega) _ _ ) (fun y51 h51 q51 => ?_)
    obtain ⟨rfl, g51, hg51, rfl⟩ := q51
    exact e_iret dX12_tossesAct_54 rfl (by (try simp only [mtr_0, mtr_1, pz] at *); have e9 : aT (M.2.1 0 i.toNatClampNeg) (M.2.1 1 i.toNatClampNeg) i x = (x * 3 + i, [30, 10]) := (by first | rfl | (simp [aT, *]; done)); rw [e9]; exact ⟨by first | rfl | (simp; done), g51, by simpa using hg51, by simp⟩)
  by_cases k6_1 : x6 = 3
  · refine s_tswIn dX12_tossesAct_6 (tgt := 89) (by rw [k6_1]; decide) (by rw [k6_1]; decide) (off := 83) (by rw [k6_1]; decide) (by decide) ?_
    replace ex6 := ex6.symm.trans k6_1
    clear k6_1 k6_0
    refine s_aload_nr (j := 0) dX12_tossesAct_89 rfl ?_
    refine s_iload_n (j := 1) dX12_tossesAct_90 rfl ?_
    refine s_iload_n (j := 2) dX12_tossesAct_91 rfl ?_
    refine s_V2i cv_X12_345 rfl dX12_tossesAct_92 (mh_get (k := 0) hP rfl) rfl (Nat.le_of_ble_eq_true rfl) (m_T0 _ P D M hP _ _ (by assumption) (by (try simp only [List.length_append, List.length_cons, List.length_nil]); omega) _ _ ) (fun y92 h92 q92 => ?_)
    obtain ⟨rfl, g92, hg92, rfl⟩ := q92
    exact e_iret dX12_tossesAct_95 rfl (by (try simp only [mtr_0, mtr_1, pz] at *); have e9 : aT (M.2.1 0 i.toNatClampNeg) (M.2.1 1 i.toNatClampNeg) i x = (x + i, [10]) := (by first | rfl | (simp [aT, *]; done)); rw [e9]; exact ⟨by first | rfl | (simp; done), g92, by simpa using hg92, by simp⟩)
  by_cases k6_2 : x6 = 4
  · refine s_tswIn dX12_tossesAct_6 (tgt := 55) (by rw [k6_2]; decide) (by rw [k6_2]; decide) (off := 49) (by rw [k6_2]; decide) (by decide) ?_
    replace ex6 := ex6.symm.trans k6_2
    clear k6_2 k6_1 k6_0
    refine s_aload_nr (j := 0) dX12_tossesAct_55 rfl ?_
    refine s_bipush (v := 50) dX12_tossesAct_56 (by decide) ?_
    refine s_V1v cv_X12_342 rfl dX12_tossesAct_58 (mh_get (k := 0) hP rfl) rfl (Nat.le_of_ble_eq_true rfl) (m_body _ P D M hP _ _ (by assumption) (by (try simp only [List.length_append, List.length_cons, List.length_nil]); omega) _) (fun h58 q58 => ?_)
    obtain ⟨g58, hg58, rfl⟩ := q58
    refine s_aload_nr (j := 0) dX12_tossesAct_61 rfl ?_
    refine s_iload_n (j := 1) dX12_tossesAct_62 rfl ?_
    refine s_iload_n (j := 2) dX12_tossesAct_63 rfl ?_
    refine s_V2i cv_X12_345 rfl dX12_tossesAct_64 (mh_get (k := 0) hP rfl) rfl (Nat.le_of_ble_eq_true rfl) (m_T0 _ P D M hP _ _ (by assumption) (by (try simp only [List.length_append, List.length_cons, List.length_nil]); omega) _ _ ) (fun y64 h64 q64 => ?_)
    obtain ⟨rfl, g64, hg64, rfl⟩ := q64
    refine s_ineg dX12_tossesAct_67 ?_
    exact e_iret dX12_tossesAct_68 rfl (by (try simp only [mtr_0, mtr_1, pz] at *); have e9 : aT (M.2.1 0 i.toNatClampNeg) (M.2.1 1 i.toNatClampNeg) i x = (-(x + i), [50, 10]) := (by first | rfl | (simp [aT, *]; done)); rw [e9]; exact ⟨by first | rfl | (simp; done), g64, by simpa using hg64, by simp⟩)
  by_cases k6_3 : x6 = 5
  · refine s_tswIn dX12_tossesAct_6 (tgt := 40) (by rw [k6_3]; decide) (by rw [k6_3]; decide) (off := 34) (by rw [k6_3]; decide) (by decide) ?_
    replace ex6 := ex6.symm.trans k6_3
    clear k6_3 k6_2 k6_1 k6_0
    refine s_aload_nr (j := 0) dX12_tossesAct_40 rfl ?_
    refine s_bipush (v := 30) dX12_tossesAct_41 (by decide) ?_
    refine s_V1v cv_X12_342 rfl dX12_tossesAct_43 (mh_get (k := 0) hP rfl) rfl (Nat.le_of_ble_eq_true rfl) (m_body _ P D M hP _ _ (by assumption) (by (try simp only [List.length_append, List.length_cons, List.length_nil]); omega) _) (fun h43 q43 => ?_)
    obtain ⟨g43, hg43, rfl⟩ := q43
    refine s_aload_nr (j := 0) dX12_tossesAct_46 rfl ?_
    refine s_iload_n (j := 1) dX12_tossesAct_47 rfl ?_
    refine s_iload_n (j := 2) dX12_tossesAct_48 rfl ?_
    refine s_iconst (v := 3) dX12_tossesAct_49 (by decide) ?_
    refine s_imul dX12_tossesAct_50 ?_
    refine s_V2i cv_X12_345 rfl dX12_tossesAct_51 (mh_get (k := 0) hP rfl) rfl (Nat.le_of_ble_eq_true rfl) (m_T0 _ P D M hP _ _ (by assumption) (by (try simp only [List.length_append, List.length_cons, List.length_nil]); omega) _ _ ) (fun y51 h51 q51 => ?_)
    obtain ⟨rfl, g51, hg51, rfl⟩ := q51
    exact e_iret dX12_tossesAct_54 rfl (by (try simp only [mtr_0, mtr_1, pz] at *); have e9 : aT (M.2.1 0 i.toNatClampNeg) (M.2.1 1 i.toNatClampNeg) i x = (x * 3 + i, [30, 10]) := (by first | rfl | (simp [aT, *]; done)); rw [e9]; exact ⟨by first | rfl | (simp; done), g51, by simpa using hg51, by simp⟩)
  by_cases k6_4 : x6 = 6
  · refine s_tswIn dX12_tossesAct_6 (tgt := 69) (by rw [k6_4]; decide) (by rw [k6_4]; decide) (off := 63) (by rw [k6_4]; decide) (by decide) ?_
    replace ex6 := ex6.symm.trans k6_4
    clear k6_4 k6_3 k6_2 k6_1 k6_0
    refine s_aload_nr (j := 0) dX12_tossesAct_69 rfl ?_
    refine s_bipush (v := 71) dX12_tossesAct_70 (by decide) ?_
    refine s_V1v cv_X12_342 rfl dX12_tossesAct_72 (mh_get (k := 0) hP rfl) rfl (Nat.le_of_ble_eq_true rfl) (m_body _ P D M hP _ _ (by assumption) (by (try simp only [List.length_append, List.length_cons, List.length_nil]); omega) _) (fun h72 q72 => ?_)
    obtain ⟨g72, hg72, rfl⟩ := q72
    refine s_aload_nr (j := 0) dX12_tossesAct_75 rfl ?_
    refine s_iload_n (j := 1) dX12_tossesAct_76 rfl ?_
    refine s_iload_n (j := 2) dX12_tossesAct_77 rfl ?_
    refine s_V2i cv_X12_345 rfl dX12_tossesAct_78 (mh_get (k := 0) hP rfl) rfl (Nat.le_of_ble_eq_true rfl) (m_T0 _ P D M hP _ _ (by assumption) (by (try simp only [List.length_append, List.length_cons, List.length_nil]); omega) _ _ ) (fun y78 h78 q78 => ?_)
    obtain ⟨rfl, g78, hg78, rfl⟩ := q78
    refine s_aload_nr (j := 0) dX12_tossesAct_81 rfl ?_
    refine gM_v dX12_tossesAct_82 rfl hP ?_
    refine s_iload_n (j := 1) dX12_tossesAct_85 rfl ?_
    refine lM 2 dX12_tossesAct_86 hP rfl (by exact hi) ?_
    refine s_ixor dX12_tossesAct_87 ?_
    exact e_iret dX12_tossesAct_88 rfl (by (try simp only [mtr_0, mtr_1, pz] at *); have e9 : aT (M.2.1 0 i.toNatClampNeg) (M.2.1 1 i.toNatClampNeg) i x = ((x + i) ^^^ M.2.1 1 i.toNatClampNeg, [71, 10]) := (by first | rfl | (simp [aT, *]; done)); rw [e9]; exact ⟨by first | rfl | (simp; done), g78, by simpa using hg78, by simp⟩)
  refine s_tswOut dX12_tossesAct_6 (tgt := 89) (by have a0 := lv_neT (a := 2) k6_0 rfl; have a1 := lv_neT (a := 3) k6_1 rfl; have a2 := lv_neT (a := 4) k6_2 rfl; have a3 := lv_neT (a := 5) k6_3 rfl; have a4 := lv_neT (a := 6) k6_4 rfl; omega) (by decide) ?_
  replace k6_0 : ¬ _ = _ := fun z => k6_0 (ex6.trans z)
  replace k6_1 : ¬ _ = _ := fun z => k6_1 (ex6.trans z)
  replace k6_2 : ¬ _ = _ := fun z => k6_2 (ex6.trans z)
  replace k6_3 : ¬ _ = _ := fun z => k6_3 (ex6.trans z)
  replace k6_4 : ¬ _ = _ := fun z => k6_4 (ex6.trans z)
  clear ex6
  refine s_aload_nr (j := 0) dX12_tossesAct_89 rfl ?_
  refine s_iload_n (j := 1) dX12_tossesAct_90 rfl ?_
  refine s_iload_n (j := 2) dX12_tossesAct_91 rfl ?_
  refine s_V2i cv_X12_345 rfl dX12_tossesAct_92 (mh_get (k := 0) hP rfl) rfl (Nat.le_of_ble_eq_true rfl) (m_T0 _ P D M hP _ _ (by assumption) (by (try simp only [List.length_append, List.length_cons, List.length_nil]); omega) _ _ ) (fun y92 h92 q92 => ?_)
  obtain ⟨rfl, g92, hg92, rfl⟩ := q92
  exact e_iret dX12_tossesAct_95 rfl (by (try simp only [mtr_0, mtr_1, pz] at *); have e9 : aT (M.2.1 0 i.toNatClampNeg) (M.2.1 1 i.toNatClampNeg) i x = (x + i, [10]) := (by first | rfl | (simp [aT, *]; done)); rw [e9]; exact ⟨by first | rfl | (simp; done), g92, by simpa using hg92, by simp⟩)

set_option maxRecDepth 100000 in
set_option maxHeartbeats 4000000 in
theorem m_S0 (d : Nat) (P D : HP) (M : MZ) (hP : P.length = 95) (tr : List Int32) (g : Nat → Int32) (hg : TRo tr g) (hl : tr.length ≤ 980) (i x : Int32) (hi : vp_in i 4) : Con (d + 3) qX12_serverStrikes 0 0 [.ref 95, .int i, .int x] (mh P (mtr M tr g) D) (PI fun y h => y = (aS0 (M.2.1 0 i.toNatClampNeg) (M.2.1 1 i.toNatClampNeg) i x).1 ∧ ∃ g2, TRo (tr ++ (aS0 (M.2.1 0 i.toNatClampNeg) (M.2.1 1 i.toNatClampNeg) i x).2) g2 ∧ h = mh P (mtr M (tr ++ (aS0 (M.2.1 0 i.toNatClampNeg) (M.2.1 1 i.toNatClampNeg) i x).2) g2) D) := by
  refine Con.of (by decide +kernel) (Nat.le_of_ble_eq_true rfl) ?_
  show Sem (d + 3) qX12_serverStrikes 0 0 0 [(0, .ref 95), (1, .int i), (2, .int x)] [] (mh P (mtr M tr g) D) _
  refine s_aload_nr (j := 0) dX12_serverStrikes_0 rfl ?_
  refine s_bipush (v := 11) dX12_serverStrikes_1 (by decide) ?_
  refine s_V1v cv_X12_342 rfl dX12_serverStrikes_3 (mh_get (k := 0) hP rfl) rfl (Nat.le_of_ble_eq_true rfl) (m_body _ P D M hP _ _ (by assumption) (by (try simp only [List.length_append, List.length_cons, List.length_nil]); omega) _) (fun h3 q3 => ?_)
  obtain ⟨g3, hg3, rfl⟩ := q3
  refine s_aload_nr (j := 0) dX12_serverStrikes_6 rfl ?_
  refine s_iload_n (j := 1) dX12_serverStrikes_7 rfl ?_
  refine s_iload_n (j := 2) dX12_serverStrikes_8 rfl ?_
  refine s_V2i cv_X12_348 rfl dX12_serverStrikes_9 (mh_get (k := 0) hP rfl) rfl (Nat.le_of_ble_eq_true rfl) (m_T _ P D M hP _ _ (by assumption) (by (try simp only [List.length_append, List.length_cons, List.length_nil]); omega) _ _ hi ) (fun y9 h9 q9 => ?_)
  obtain ⟨rfl, g9, hg9, rfl⟩ := q9
  refine s_aload_nr (j := 0) dX12_serverStrikes_12 rfl ?_
  refine gM_v dX12_serverStrikes_13 rfl hP ?_
  refine s_iload_n (j := 1) dX12_serverStrikes_16 rfl ?_
  refine lM 2 dX12_serverStrikes_17 hP rfl (by exact hi) ?_
  refine s_isub dX12_serverStrikes_18 ?_
  exact e_iret dX12_serverStrikes_19 rfl (by (try simp only [mtr_0, mtr_1, pz] at *); have e9 : aS0 (M.2.1 0 i.toNatClampNeg) (M.2.1 1 i.toNatClampNeg) i x = ((aT (M.2.1 0 i.toNatClampNeg) (M.2.1 1 i.toNatClampNeg) i x).1 - M.2.1 1 i.toNatClampNeg, 11 :: (aT (M.2.1 0 i.toNatClampNeg) (M.2.1 1 i.toNatClampNeg) i x).2) := (by first | rfl | (simp [aS0, *]; done)); rw [e9]; exact ⟨by first | rfl | (simp; done), g9, by simpa using hg9, by simp⟩)

set_option maxRecDepth 100000 in
set_option maxHeartbeats 4000000 in
theorem m_SD (d : Nat) (P D : HP) (M : MZ) (hP : P.length = 95) (tr : List Int32) (g : Nat → Int32) (hg : TRo tr g) (hl : tr.length ≤ 970) (i x : Int32) (hi : vp_in i 4) : Con (d + 4) qX12_daringStrikes 0 0 [.ref 95, .int i, .int x] (mh P (mtr M tr g) D) (PI fun y h => y = (aSD (M.2.1 0 i.toNatClampNeg) (M.2.1 1 i.toNatClampNeg) i x).1 ∧ ∃ g2, TRo (tr ++ (aSD (M.2.1 0 i.toNatClampNeg) (M.2.1 1 i.toNatClampNeg) i x).2) g2 ∧ h = mh P (mtr M (tr ++ (aSD (M.2.1 0 i.toNatClampNeg) (M.2.1 1 i.toNatClampNeg) i x).2) g2) D) := by
  refine Con.of (by decide +kernel) (Nat.le_of_ble_eq_true rfl) ?_
  show Sem (d + 4) qX12_daringStrikes 0 0 0 [(0, .ref 95), (1, .int i), (2, .int x)] [] (mh P (mtr M tr g) D) _
  refine s_aload_nr (j := 0) dX12_daringStrikes_0 rfl ?_
  refine s_bipush (v := 20) dX12_daringStrikes_1 (by decide) ?_
  refine s_V1v cv_X12_342 rfl dX12_daringStrikes_3 (mh_get (k := 0) hP rfl) rfl (Nat.le_of_ble_eq_true rfl) (m_body _ P D M hP _ _ (by assumption) (by (try simp only [List.length_append, List.length_cons, List.length_nil]); omega) _) (fun h3 q3 => ?_)
  obtain ⟨g3, hg3, rfl⟩ := q3
  refine s_aload_nr (j := 0) dX12_daringStrikes_6 rfl ?_
  refine s_iload_n (j := 1) dX12_daringStrikes_7 rfl ?_
  refine s_iload_n (j := 2) dX12_daringStrikes_8 rfl ?_
  refine s_V2i cv_X12_351 rfl dX12_daringStrikes_9 (mh_get (k := 0) hP rfl) rfl (Nat.le_of_ble_eq_true rfl) (m_S0 _ P D M hP _ _ (by assumption) (by (try simp only [List.length_append, List.length_cons, List.length_nil]); omega) _ _ hi ) (fun y9 h9 q9 => ?_)
  obtain ⟨rfl, g9, hg9, rfl⟩ := q9
  refine s_bipush (v := 6) dX12_daringStrikes_12 (by decide) ?_
  refine s_ixor dX12_daringStrikes_14 ?_
  exact e_iret dX12_daringStrikes_15 rfl (by (try simp only [mtr_0, mtr_1, pz] at *); have e9 : aSD (M.2.1 0 i.toNatClampNeg) (M.2.1 1 i.toNatClampNeg) i x = ((aS0 (M.2.1 0 i.toNatClampNeg) (M.2.1 1 i.toNatClampNeg) i x).1 ^^^ 6, 20 :: (aS0 (M.2.1 0 i.toNatClampNeg) (M.2.1 1 i.toNatClampNeg) i x).2) := (by first | rfl | (simp [aSD, *]; done)); rw [e9]; exact ⟨by first | rfl | (simp; done), g9, by simpa using hg9, by simp⟩)

set_option maxRecDepth 100000 in
set_option maxHeartbeats 4000000 in
theorem m_S (d : Nat) (P D : HP) (M : MZ) (hP : P.length = 95) (tr : List Int32) (g : Nat → Int32) (hg : TRo tr g) (hl : tr.length ≤ 960) (i x : Int32) (hi : vp_in i 4) : Con (d + 5) qX12_strikesAct 0 0 [.ref 95, .int i, .int x] (mh P (mtr M tr g) D) (PI fun y h => y = (aS (M.2.1 0 i.toNatClampNeg) (M.2.1 1 i.toNatClampNeg) i x).1 ∧ ∃ g2, TRo (tr ++ (aS (M.2.1 0 i.toNatClampNeg) (M.2.1 1 i.toNatClampNeg) i x).2) g2 ∧ h = mh P (mtr M (tr ++ (aS (M.2.1 0 i.toNatClampNeg) (M.2.1 1 i.toNatClampNeg) i x).2) g2) D) := by
  refine Con.of (by decide +kernel) (Nat.le_of_ble_eq_true rfl) ?_
  show Sem (d + 5) qX12_strikesAct 0 0 0 [(0, .ref 95), (1, .int i), (2, .int x)] [] (mh P (mtr M tr g) D) _
  refine s_aload_nr (j := 0) dX12_strikesAct_0 rfl ?_
  refine gM_kind dX12_strikesAct_1 rfl hP ?_
  refine s_iload_n (j := 1) dX12_strikesAct_4 rfl ?_
  refine lM 1 dX12_strikesAct_5 hP rfl (by exact hi) ?_
  refine s_topi (fun x6 ex6 => ?_)
  by_cases k6_0 : x6 = 1
  · refine s_lsw dX12_strikesAct_6 (tgt := 40) (by decide) (off := 34) (by rw [k6_0]; decide) (by decide) ?_
    replace ex6 := ex6.symm.trans k6_0
    clear k6_0
    refine s_aload_nr (j := 0) dX12_strikesAct_40 rfl ?_
    refine s_iload_n (j := 1) dX12_strikesAct_41 rfl ?_
    refine s_iload_n (j := 2) dX12_strikesAct_42 rfl ?_
    refine s_V2i cv_X12_354 rfl dX12_strikesAct_43 (mh_get (k := 0) hP rfl) rfl (Nat.le_of_ble_eq_true rfl) (m_SD _ P D M hP _ _ (by assumption) (by (try simp only [List.length_append, List.length_cons, List.length_nil]); omega) _ _ hi ) (fun y43 h43 q43 => ?_)
    obtain ⟨rfl, g43, hg43, rfl⟩ := q43
    exact e_iret dX12_strikesAct_46 rfl (by (try simp only [mtr_0, mtr_1, pz] at *); have e9 : aS (M.2.1 0 i.toNatClampNeg) (M.2.1 1 i.toNatClampNeg) i x = ((aSD (M.2.1 0 i.toNatClampNeg) (M.2.1 1 i.toNatClampNeg) i x).1, (aSD (M.2.1 0 i.toNatClampNeg) (M.2.1 1 i.toNatClampNeg) i x).2) := (by first | rfl | (simp [aS, *]; done)); rw [e9]; exact ⟨by first | rfl | (simp; done), g43, by simpa using hg43, by simp⟩)
  by_cases k6_1 : x6 = 4
  · refine s_lsw dX12_strikesAct_6 (tgt := 47) (by decide) (off := 41) (by rw [k6_1]; decide) (by decide) ?_
    replace ex6 := ex6.symm.trans k6_1
    clear k6_1 k6_0
    refine s_aload_nr (j := 0) dX12_strikesAct_47 rfl ?_
    refine s_bipush (v := 51) dX12_strikesAct_48 (by decide) ?_
    refine s_V1v cv_X12_342 rfl dX12_strikesAct_50 (mh_get (k := 0) hP rfl) rfl (Nat.le_of_ble_eq_true rfl) (m_body _ P D M hP _ _ (by assumption) (by (try simp only [List.length_append, List.length_cons, List.length_nil]); omega) _) (fun h50 q50 => ?_)
    obtain ⟨g50, hg50, rfl⟩ := q50
    refine s_aload_nr (j := 0) dX12_strikesAct_53 rfl ?_
    refine s_iload_n (j := 1) dX12_strikesAct_54 rfl ?_
    refine s_iload_n (j := 2) dX12_strikesAct_55 rfl ?_
    refine s_iconst (v := 1) dX12_strikesAct_56 (by decide) ?_
    refine s_iadd dX12_strikesAct_57 ?_
    refine s_V2i cv_X12_354 rfl dX12_strikesAct_58 (mh_get (k := 0) hP rfl) rfl (Nat.le_of_ble_eq_true rfl) (m_SD _ P D M hP _ _ (by assumption) (by (try simp only [List.length_append, List.length_cons, List.length_nil]); omega) _ _ hi ) (fun y58 h58 q58 => ?_)
    obtain ⟨rfl, g58, hg58, rfl⟩ := q58
    exact e_iret dX12_strikesAct_61 rfl (by (try simp only [mtr_0, mtr_1, pz] at *); have e9 : aS (M.2.1 0 i.toNatClampNeg) (M.2.1 1 i.toNatClampNeg) i x = ((aSD (M.2.1 0 i.toNatClampNeg) (M.2.1 1 i.toNatClampNeg) i (x + 1)).1, 51 :: (aSD (M.2.1 0 i.toNatClampNeg) (M.2.1 1 i.toNatClampNeg) i (x + 1)).2) := (by first | rfl | (simp [aS, *]; done)); rw [e9]; exact ⟨by first | rfl | (simp; done), g58, by simpa using hg58, by simp⟩)
  by_cases k6_2 : x6 = 6
  · refine s_lsw dX12_strikesAct_6 (tgt := 62) (by decide) (off := 56) (by rw [k6_2]; decide) (by decide) ?_
    replace ex6 := ex6.symm.trans k6_2
    clear k6_2 k6_1 k6_0
    refine s_aload_nr (j := 0) dX12_strikesAct_62 rfl ?_
    refine s_bipush (v := 70) dX12_strikesAct_63 (by decide) ?_
    refine s_V1v cv_X12_342 rfl dX12_strikesAct_65 (mh_get (k := 0) hP rfl) rfl (Nat.le_of_ble_eq_true rfl) (m_body _ P D M hP _ _ (by assumption) (by (try simp only [List.length_append, List.length_cons, List.length_nil]); omega) _) (fun h65 q65 => ?_)
    obtain ⟨g65, hg65, rfl⟩ := q65
    refine s_aload_nr (j := 0) dX12_strikesAct_68 rfl ?_
    refine s_iload_n (j := 1) dX12_strikesAct_69 rfl ?_
    refine s_iload_n (j := 2) dX12_strikesAct_70 rfl ?_
    refine s_V2i cv_X12_351 rfl dX12_strikesAct_71 (mh_get (k := 0) hP rfl) rfl (Nat.le_of_ble_eq_true rfl) (m_S0 _ P D M hP _ _ (by assumption) (by (try simp only [List.length_append, List.length_cons, List.length_nil]); omega) _ _ hi ) (fun y71 h71 q71 => ?_)
    obtain ⟨rfl, g71, hg71, rfl⟩ := q71
    refine s_istore_n dX12_strikesAct_74 (by decide) rfl ?_
    refine s_iload_n (j := 0) dX12_strikesAct_75 rfl ?_
    refine s_aload_nr (j := 1) dX12_strikesAct_76 rfl ?_
    refine s_iload_n (j := 2) dX12_strikesAct_77 rfl ?_
    refine s_iconst (v := 2) dX12_strikesAct_78 (by decide) ?_
    refine s_V2i cv_X12_345 rfl dX12_strikesAct_79 (mh_get (k := 0) hP rfl) rfl (Nat.le_of_ble_eq_true rfl) (m_T0 _ P D M hP _ _ (by assumption) (by have b0 := aS0_len (M.2.1 0 i.toNatClampNeg) (M.2.1 1 i.toNatClampNeg) i x; (try simp only [mtr_0, mtr_1, List.length_append, List.length_cons, List.length_nil]); (try simp only [mtr_0, mtr_1] at b0); omega) _ _ ) (fun y79 h79 q79 => ?_)
    obtain ⟨rfl, g79, hg79, rfl⟩ := q79
    refine s_iadd dX12_strikesAct_82 ?_
    exact e_iret dX12_strikesAct_83 rfl (by (try simp only [mtr_0, mtr_1, pz] at *); have e9 : aS (M.2.1 0 i.toNatClampNeg) (M.2.1 1 i.toNatClampNeg) i x = ((aS0 (M.2.1 0 i.toNatClampNeg) (M.2.1 1 i.toNatClampNeg) i x).1 + (2 + i), 70 :: ((aS0 (M.2.1 0 i.toNatClampNeg) (M.2.1 1 i.toNatClampNeg) i x).2 ++ [10])) := (by first | rfl | (simp [aS, *]; done)); rw [e9]; exact ⟨by first | rfl | (simp; done), g79, by simpa using hg79, by simp⟩)
  refine s_lsw dX12_strikesAct_6 (tgt := 84) (by decide) (off := 78) (by show Op.lookupswitch.offset [(1, 34), (4, 41), (6, 56)] _ _ = _; rw [lv_osw (a := 1) k6_0 rfl, lv_osw (a := 4) k6_1 rfl, lv_osw (a := 6) k6_2 rfl]; rfl) (by decide) ?_
  replace k6_0 : ¬ _ = _ := fun z => k6_0 (ex6.trans z)
  replace k6_1 : ¬ _ = _ := fun z => k6_1 (ex6.trans z)
  replace k6_2 : ¬ _ = _ := fun z => k6_2 (ex6.trans z)
  clear ex6
  refine s_aload_nr (j := 0) dX12_strikesAct_84 rfl ?_
  refine s_iload_n (j := 1) dX12_strikesAct_85 rfl ?_
  refine s_iload_n (j := 2) dX12_strikesAct_86 rfl ?_
  refine s_V2i cv_X12_351 rfl dX12_strikesAct_87 (mh_get (k := 0) hP rfl) rfl (Nat.le_of_ble_eq_true rfl) (m_S0 _ P D M hP _ _ (by assumption) (by (try simp only [List.length_append, List.length_cons, List.length_nil]); omega) _ _ hi ) (fun y87 h87 q87 => ?_)
  obtain ⟨rfl, g87, hg87, rfl⟩ := q87
  exact e_iret dX12_strikesAct_90 rfl (by (try simp only [mtr_0, mtr_1, pz] at *); have e9 : aS (M.2.1 0 i.toNatClampNeg) (M.2.1 1 i.toNatClampNeg) i x = ((aS0 (M.2.1 0 i.toNatClampNeg) (M.2.1 1 i.toNatClampNeg) i x).1, (aS0 (M.2.1 0 i.toNatClampNeg) (M.2.1 1 i.toNatClampNeg) i x).2) := (by first | rfl | (simp [aS, *]; done)); rw [e9]; exact ⟨by first | rfl | (simp; done), g87, by simpa using hg87, by simp⟩)

set_option maxRecDepth 100000 in
set_option maxHeartbeats 4000000 in
theorem m_L0 (d : Nat) (P D : HP) (M : MZ) (hP : P.length = 95) (tr : List Int32) (g : Nat → Int32) (hg : TRo tr g) (hl : tr.length ≤ 950) (i x : Int32) (hi : vp_in i 4) : Con (d + 6) qX12_serverTells 0 0 [.ref 95, .int i, .int x] (mh P (mtr M tr g) D) (PI fun y h => y = (aL0 (M.2.1 0 i.toNatClampNeg) (M.2.1 1 i.toNatClampNeg) i x).1 ∧ ∃ g2, TRo (tr ++ (aL0 (M.2.1 0 i.toNatClampNeg) (M.2.1 1 i.toNatClampNeg) i x).2) g2 ∧ h = mh P (mtr M (tr ++ (aL0 (M.2.1 0 i.toNatClampNeg) (M.2.1 1 i.toNatClampNeg) i x).2) g2) D) := by
  refine Con.of (by decide +kernel) (Nat.le_of_ble_eq_true rfl) ?_
  show Sem (d + 6) qX12_serverTells 0 0 0 [(0, .ref 95), (1, .int i), (2, .int x)] [] (mh P (mtr M tr g) D) _
  refine s_aload_nr (j := 0) dX12_serverTells_0 rfl ?_
  refine s_bipush (v := 12) dX12_serverTells_1 (by decide) ?_
  refine s_V1v cv_X12_342 rfl dX12_serverTells_3 (mh_get (k := 0) hP rfl) rfl (Nat.le_of_ble_eq_true rfl) (m_body _ P D M hP _ _ (by assumption) (by (try simp only [List.length_append, List.length_cons, List.length_nil]); omega) _) (fun h3 q3 => ?_)
  obtain ⟨g3, hg3, rfl⟩ := q3
  refine s_aload_nr (j := 0) dX12_serverTells_6 rfl ?_
  refine s_iload_n (j := 1) dX12_serverTells_7 rfl ?_
  refine s_iload_n (j := 2) dX12_serverTells_8 rfl ?_
  refine s_V2i cv_X12_357 rfl dX12_serverTells_9 (mh_get (k := 0) hP rfl) rfl (Nat.le_of_ble_eq_true rfl) (m_S _ P D M hP _ _ (by assumption) (by (try simp only [List.length_append, List.length_cons, List.length_nil]); omega) _ _ hi ) (fun y9 h9 q9 => ?_)
  obtain ⟨rfl, g9, hg9, rfl⟩ := q9
  refine s_iconst (v := 2) dX12_serverTells_12 (by decide) ?_
  refine s_imul dX12_serverTells_13 ?_
  exact e_iret dX12_serverTells_14 rfl (by (try simp only [mtr_0, mtr_1, pz] at *); have e9 : aL0 (M.2.1 0 i.toNatClampNeg) (M.2.1 1 i.toNatClampNeg) i x = ((aS (M.2.1 0 i.toNatClampNeg) (M.2.1 1 i.toNatClampNeg) i x).1 * 2, 12 :: (aS (M.2.1 0 i.toNatClampNeg) (M.2.1 1 i.toNatClampNeg) i x).2) := (by first | rfl | (simp [aL0, *]; done)); rw [e9]; exact ⟨by first | rfl | (simp; done), g9, by simpa using hg9, by simp⟩)

set_option maxRecDepth 100000 in
set_option maxHeartbeats 4000000 in
theorem m_L (d : Nat) (P D : HP) (M : MZ) (hP : P.length = 95) (tr : List Int32) (g : Nat → Int32) (hg : TRo tr g) (hl : tr.length ≤ 940) (i x : Int32) (hi : vp_in i 4) : Con (d + 7) qX12_tellsAct 0 0 [.ref 95, .int i, .int x] (mh P (mtr M tr g) D) (PI fun y h => y = (aL (M.2.1 0 i.toNatClampNeg) (M.2.1 1 i.toNatClampNeg) i x).1 ∧ ∃ g2, TRo (tr ++ (aL (M.2.1 0 i.toNatClampNeg) (M.2.1 1 i.toNatClampNeg) i x).2) g2 ∧ h = mh P (mtr M (tr ++ (aL (M.2.1 0 i.toNatClampNeg) (M.2.1 1 i.toNatClampNeg) i x).2) g2) D) := by
  refine Con.of (by decide +kernel) (Nat.le_of_ble_eq_true rfl) ?_
  show Sem (d + 7) qX12_tellsAct 0 0 0 [(0, .ref 95), (1, .int i), (2, .int x)] [] (mh P (mtr M tr g) D) _
  refine s_aload_nr (j := 0) dX12_tellsAct_0 rfl ?_
  refine gM_kind dX12_tellsAct_1 rfl hP ?_
  refine s_iload_n (j := 1) dX12_tellsAct_4 rfl ?_
  refine lM 1 dX12_tellsAct_5 hP rfl (by exact hi) ?_
  refine s_topi (fun x6 ex6 => ?_)
  by_cases k6_0 : x6 = 3
  · refine s_tswIn dX12_tellsAct_6 (tgt := 36) (by rw [k6_0]; decide) (by rw [k6_0]; decide) (off := 30) (by rw [k6_0]; decide) (by decide) ?_
    replace ex6 := ex6.symm.trans k6_0
    clear k6_0
    refine s_aload_nr (j := 0) dX12_tellsAct_36 rfl ?_
    refine s_bipush (v := 40) dX12_tellsAct_37 (by decide) ?_
    refine s_V1v cv_X12_342 rfl dX12_tellsAct_39 (mh_get (k := 0) hP rfl) rfl (Nat.le_of_ble_eq_true rfl) (m_body _ P D M hP _ _ (by assumption) (by (try simp only [List.length_append, List.length_cons, List.length_nil]); omega) _) (fun h39 q39 => ?_)
    obtain ⟨g39, hg39, rfl⟩ := q39
    refine s_aload_nr (j := 0) dX12_tellsAct_42 rfl ?_
    refine s_iload_n (j := 1) dX12_tellsAct_43 rfl ?_
    refine s_iload_n (j := 2) dX12_tellsAct_44 rfl ?_
    refine s_V2i cv_X12_360 rfl dX12_tellsAct_45 (mh_get (k := 0) hP rfl) rfl (Nat.le_of_ble_eq_true rfl) (m_L0 _ P D M hP _ _ (by assumption) (by (try simp only [List.length_append, List.length_cons, List.length_nil]); omega) _ _ hi ) (fun y45 h45 q45 => ?_)
    obtain ⟨rfl, g45, hg45, rfl⟩ := q45
    refine s_istore_n dX12_tellsAct_48 (by decide) rfl ?_
    refine s_iload_n (j := 0) dX12_tellsAct_49 rfl ?_
    refine s_aload_nr (j := 1) dX12_tellsAct_50 rfl ?_
    refine s_iload_n (j := 2) dX12_tellsAct_51 rfl ?_
    refine s_iconst (v := 1) dX12_tellsAct_52 (by decide) ?_
    refine s_V2i cv_X12_357 rfl dX12_tellsAct_53 (mh_get (k := 0) hP rfl) rfl (Nat.le_of_ble_eq_true rfl) (m_S _ P D M hP _ _ (by assumption) (by have b0 := aL0_len (M.2.1 0 i.toNatClampNeg) (M.2.1 1 i.toNatClampNeg) i x; (try simp only [mtr_0, mtr_1, List.length_append, List.length_cons, List.length_nil]); (try simp only [mtr_0, mtr_1] at b0); omega) _ _ hi ) (fun y53 h53 q53 => ?_)
    obtain ⟨rfl, g53, hg53, rfl⟩ := q53
    refine s_iadd dX12_tellsAct_56 ?_
    exact e_iret dX12_tellsAct_57 rfl (by (try simp only [mtr_0, mtr_1, pz] at *); have e9 : aL (M.2.1 0 i.toNatClampNeg) (M.2.1 1 i.toNatClampNeg) i x = ((aL0 (M.2.1 0 i.toNatClampNeg) (M.2.1 1 i.toNatClampNeg) i x).1 + (aS (M.2.1 0 i.toNatClampNeg) (M.2.1 1 i.toNatClampNeg) i 1).1, 40 :: ((aL0 (M.2.1 0 i.toNatClampNeg) (M.2.1 1 i.toNatClampNeg) i x).2 ++ (aS (M.2.1 0 i.toNatClampNeg) (M.2.1 1 i.toNatClampNeg) i 1).2)) := (by first | rfl | (simp [aL, *]; done)); rw [e9]; exact ⟨by first | rfl | (simp; done), g53, by simpa using hg53, by simp⟩)
  by_cases k6_1 : x6 = 4
  · refine s_tswIn dX12_tellsAct_6 (tgt := 73) (by rw [k6_1]; decide) (by rw [k6_1]; decide) (off := 67) (by rw [k6_1]; decide) (by decide) ?_
    replace ex6 := ex6.symm.trans k6_1
    clear k6_1 k6_0
    refine s_aload_nr (j := 0) dX12_tellsAct_73 rfl ?_
    refine s_iload_n (j := 1) dX12_tellsAct_74 rfl ?_
    refine s_iload_n (j := 2) dX12_tellsAct_75 rfl ?_
    refine s_V2i cv_X12_360 rfl dX12_tellsAct_76 (mh_get (k := 0) hP rfl) rfl (Nat.le_of_ble_eq_true rfl) (m_L0 _ P D M hP _ _ (by assumption) (by (try simp only [List.length_append, List.length_cons, List.length_nil]); omega) _ _ hi ) (fun y76 h76 q76 => ?_)
    obtain ⟨rfl, g76, hg76, rfl⟩ := q76
    exact e_iret dX12_tellsAct_79 rfl (by (try simp only [mtr_0, mtr_1, pz] at *); have e9 : aL (M.2.1 0 i.toNatClampNeg) (M.2.1 1 i.toNatClampNeg) i x = ((aL0 (M.2.1 0 i.toNatClampNeg) (M.2.1 1 i.toNatClampNeg) i x).1, (aL0 (M.2.1 0 i.toNatClampNeg) (M.2.1 1 i.toNatClampNeg) i x).2) := (by first | rfl | (simp [aL, *]; done)); rw [e9]; exact ⟨by first | rfl | (simp; done), g76, by simpa using hg76, by simp⟩)
  by_cases k6_2 : x6 = 5
  · refine s_tswIn dX12_tellsAct_6 (tgt := 58) (by rw [k6_2]; decide) (by rw [k6_2]; decide) (off := 52) (by rw [k6_2]; decide) (by decide) ?_
    replace ex6 := ex6.symm.trans k6_2
    clear k6_2 k6_1 k6_0
    refine s_aload_nr (j := 0) dX12_tellsAct_58 rfl ?_
    refine s_bipush (v := 60) dX12_tellsAct_59 (by decide) ?_
    refine s_V1v cv_X12_342 rfl dX12_tellsAct_61 (mh_get (k := 0) hP rfl) rfl (Nat.le_of_ble_eq_true rfl) (m_body _ P D M hP _ _ (by assumption) (by (try simp only [List.length_append, List.length_cons, List.length_nil]); omega) _) (fun h61 q61 => ?_)
    obtain ⟨g61, hg61, rfl⟩ := q61
    refine s_aload_nr (j := 0) dX12_tellsAct_64 rfl ?_
    refine s_iload_n (j := 1) dX12_tellsAct_65 rfl ?_
    refine s_iload_n (j := 2) dX12_tellsAct_66 rfl ?_
    refine s_iload_n (j := 1) dX12_tellsAct_67 rfl ?_
    refine s_isub dX12_tellsAct_68 ?_
    refine s_V2i cv_X12_360 rfl dX12_tellsAct_69 (mh_get (k := 0) hP rfl) rfl (Nat.le_of_ble_eq_true rfl) (m_L0 _ P D M hP _ _ (by assumption) (by (try simp only [List.length_append, List.length_cons, List.length_nil]); omega) _ _ hi ) (fun y69 h69 q69 => ?_)
    obtain ⟨rfl, g69, hg69, rfl⟩ := q69
    exact e_iret dX12_tellsAct_72 rfl (by (try simp only [mtr_0, mtr_1, pz] at *); have e9 : aL (M.2.1 0 i.toNatClampNeg) (M.2.1 1 i.toNatClampNeg) i x = ((aL0 (M.2.1 0 i.toNatClampNeg) (M.2.1 1 i.toNatClampNeg) i (x - i)).1, 60 :: (aL0 (M.2.1 0 i.toNatClampNeg) (M.2.1 1 i.toNatClampNeg) i (x - i)).2) := (by first | rfl | (simp [aL, *]; done)); rw [e9]; exact ⟨by first | rfl | (simp; done), g69, by simpa using hg69, by simp⟩)
  by_cases k6_3 : x6 = 6
  · refine s_tswIn dX12_tellsAct_6 (tgt := 36) (by rw [k6_3]; decide) (by rw [k6_3]; decide) (off := 30) (by rw [k6_3]; decide) (by decide) ?_
    replace ex6 := ex6.symm.trans k6_3
    clear k6_3 k6_2 k6_1 k6_0
    refine s_aload_nr (j := 0) dX12_tellsAct_36 rfl ?_
    refine s_bipush (v := 40) dX12_tellsAct_37 (by decide) ?_
    refine s_V1v cv_X12_342 rfl dX12_tellsAct_39 (mh_get (k := 0) hP rfl) rfl (Nat.le_of_ble_eq_true rfl) (m_body _ P D M hP _ _ (by assumption) (by (try simp only [List.length_append, List.length_cons, List.length_nil]); omega) _) (fun h39 q39 => ?_)
    obtain ⟨g39, hg39, rfl⟩ := q39
    refine s_aload_nr (j := 0) dX12_tellsAct_42 rfl ?_
    refine s_iload_n (j := 1) dX12_tellsAct_43 rfl ?_
    refine s_iload_n (j := 2) dX12_tellsAct_44 rfl ?_
    refine s_V2i cv_X12_360 rfl dX12_tellsAct_45 (mh_get (k := 0) hP rfl) rfl (Nat.le_of_ble_eq_true rfl) (m_L0 _ P D M hP _ _ (by assumption) (by (try simp only [List.length_append, List.length_cons, List.length_nil]); omega) _ _ hi ) (fun y45 h45 q45 => ?_)
    obtain ⟨rfl, g45, hg45, rfl⟩ := q45
    refine s_istore_n dX12_tellsAct_48 (by decide) rfl ?_
    refine s_iload_n (j := 0) dX12_tellsAct_49 rfl ?_
    refine s_aload_nr (j := 1) dX12_tellsAct_50 rfl ?_
    refine s_iload_n (j := 2) dX12_tellsAct_51 rfl ?_
    refine s_iconst (v := 1) dX12_tellsAct_52 (by decide) ?_
    refine s_V2i cv_X12_357 rfl dX12_tellsAct_53 (mh_get (k := 0) hP rfl) rfl (Nat.le_of_ble_eq_true rfl) (m_S _ P D M hP _ _ (by assumption) (by have b0 := aL0_len (M.2.1 0 i.toNatClampNeg) (M.2.1 1 i.toNatClampNeg) i x; (try simp only [mtr_0, mtr_1, List.length_append, List.length_cons, List.length_nil]); (try simp only [mtr_0, mtr_1] at b0); omega) _ _ hi ) (fun y53 h53 q53 => ?_)
    obtain ⟨rfl, g53, hg53, rfl⟩ := q53
    refine s_iadd dX12_tellsAct_56 ?_
    exact e_iret dX12_tellsAct_57 rfl (by (try simp only [mtr_0, mtr_1, pz] at *); have e9 : aL (M.2.1 0 i.toNatClampNeg) (M.2.1 1 i.toNatClampNeg) i x = ((aL0 (M.2.1 0 i.toNatClampNeg) (M.2.1 1 i.toNatClampNeg) i x).1 + (aS (M.2.1 0 i.toNatClampNeg) (M.2.1 1 i.toNatClampNeg) i 1).1, 40 :: ((aL0 (M.2.1 0 i.toNatClampNeg) (M.2.1 1 i.toNatClampNeg) i x).2 ++ (aS (M.2.1 0 i.toNatClampNeg) (M.2.1 1 i.toNatClampNeg) i 1).2)) := (by first | rfl | (simp [aL, *]; done)); rw [e9]; exact ⟨by first | rfl | (simp; done), g53, by simpa using hg53, by simp⟩)
  refine s_tswOut dX12_tellsAct_6 (tgt := 73) (by have a0 := lv_neT (a := 3) k6_0 rfl; have a1 := lv_neT (a := 4) k6_1 rfl; have a2 := lv_neT (a := 5) k6_2 rfl; have a3 := lv_neT (a := 6) k6_3 rfl; omega) (by decide) ?_
  replace k6_0 : ¬ _ = _ := fun z => k6_0 (ex6.trans z)
  replace k6_1 : ¬ _ = _ := fun z => k6_1 (ex6.trans z)
  replace k6_2 : ¬ _ = _ := fun z => k6_2 (ex6.trans z)
  replace k6_3 : ¬ _ = _ := fun z => k6_3 (ex6.trans z)
  clear ex6
  refine s_aload_nr (j := 0) dX12_tellsAct_73 rfl ?_
  refine s_iload_n (j := 1) dX12_tellsAct_74 rfl ?_
  refine s_iload_n (j := 2) dX12_tellsAct_75 rfl ?_
  refine s_V2i cv_X12_360 rfl dX12_tellsAct_76 (mh_get (k := 0) hP rfl) rfl (Nat.le_of_ble_eq_true rfl) (m_L0 _ P D M hP _ _ (by assumption) (by (try simp only [List.length_append, List.length_cons, List.length_nil]); omega) _ _ hi ) (fun y76 h76 q76 => ?_)
  obtain ⟨rfl, g76, hg76, rfl⟩ := q76
  exact e_iret dX12_tellsAct_79 rfl (by (try simp only [mtr_0, mtr_1, pz] at *); have e9 : aL (M.2.1 0 i.toNatClampNeg) (M.2.1 1 i.toNatClampNeg) i x = ((aL0 (M.2.1 0 i.toNatClampNeg) (M.2.1 1 i.toNatClampNeg) i x).1, (aL0 (M.2.1 0 i.toNatClampNeg) (M.2.1 1 i.toNatClampNeg) i x).2) := (by first | rfl | (simp [aL, *]; done)); rw [e9]; exact ⟨by first | rfl | (simp; done), g76, by simpa using hg76, by simp⟩)
