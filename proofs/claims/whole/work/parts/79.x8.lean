set_option maxRecDepth 100000 in
set_option maxHeartbeats 800000 in
theorem x_of (d : Nat) (X : XZ) (M : MZ) (D : HP) (hR : SR X D 0 M) (hK : KI M) {cl : CLs} (hC : CX X M cl) (p w : Int32) : Con (d + 4) qX11_of 0 0 [.ref 0, .int p, .int w] (xh X M D) (PI fun y h => y = sp_of M cl p w ∧ ∃ X2, h = xh X2 M D ∧ FQ X X2) := by
  refine Con.of (by decide +kernel) (Nat.le_of_ble_eq_true rfl) ?_
  show Sem (d + 4) qX11_of 0 0 0 [(0, .ref 0), (1, .int p), (2, .int w)] [] (xh X M D) _
  refine s_aload_nr (j := 0) dX11_of_0 rfl ?_
  refine s_iload_n (j := 1) dX11_of_1 rfl ?_
  refine s_V1r cv_X11_83 rfl dX11_of_2 xg_X11 rfl (Nat.le_of_ble_eq_true rfl) (x_serverAt _ _ M D hR hK.1.1 _) (fun y2 h2 q2 => ?_)
  rcases q2 with ⟨⟨hp, n, rfl, hs⟩ | ⟨hp, rfl⟩, rfl⟩
  · skip
    refine s_astore_nr dX11_of_5 (by decide) rfl ?_
    refine s_aload_nr (j := 0) dX11_of_6 rfl ?_
    refine s_ifnonnullr dX11_of_7 (tgt := 12) (by decide) ?_
    have hp4 := in4_of hK.1.1 hp
    refine s_iload_n (j := 3) dX11_of_12 rfl ?_
    refine s_bipush (v := 10) dX11_of_13 (by decide) ?_
    refine s_isub dX11_of_15 ?_
    refine s_bipush (v := 10) dX11_of_16 (by decide) ?_
    refine s_S2i cs_X11_67 rfl dX11_of_18 (Nat.le_of_ble_eq_true rfl) (x_wC _ _ _ _ (9) (by decide)) (fun y18 h18 q18 => ?_)
    obtain ⟨rfl, rfl⟩ := q18
    refine s_if_eq dX11_of_21 (tgt := 37) (by decide) (fun c21 => ?_) (fun c21 => ?_)
    · replace c21 := b2i_0.mp c21
      refine s_iload_n (j := 3) dX11_of_37 rfl ?_
      refine s_bipush (v := 20) dX11_of_38 (by decide) ?_
      refine s_isub dX11_of_40 ?_
      refine s_bipush (v := 10) dX11_of_41 (by decide) ?_
      refine s_S2i cs_X11_67 rfl dX11_of_43 (Nat.le_of_ble_eq_true rfl) (x_wC _ _ _ _ (9) (by decide)) (fun y43 h43 q43 => ?_)
      obtain ⟨rfl, rfl⟩ := q43
      refine s_if_eq dX11_of_46 (tgt := 62) (by decide) (fun c46 => ?_) (fun c46 => ?_)
      · replace c46 := b2i_0.mp c46
        refine s_iload_n (j := 3) dX11_of_62 rfl ?_
        refine s_topi (fun x63 ex63 => ?_)
        by_cases k63_0 : x63 = 0
        · refine s_tswIn dX11_of_63 (tgt := 104) (by rw [k63_0]; decide) (by rw [k63_0]; decide) (off := 41) (by rw [k63_0]; decide) (by decide) ?_
          replace ex63 := ex63.symm.trans k63_0
          clear k63_0
          refine s_aload_nr (j := 0) dX11_of_104 rfl ?_
          refine gS_X11_94 hs dX11_of_105 rfl ?_
          exact e_iret dX11_of_108 rfl (by unfold sp_of; rw [if_pos hp, if_neg (of_3 (fun z => c21 (w10.mpr z)) (fun z => c46 (w20.mpr z)))]; rw [ex63]; exact ⟨rfl, _, rfl, FQ.rf _⟩)
        by_cases k63_1 : x63 = 1
        · refine s_tswIn dX11_of_63 (tgt := 109) (by rw [k63_1]; decide) (by rw [k63_1]; decide) (off := 46) (by rw [k63_1]; decide) (by decide) ?_
          replace ex63 := ex63.symm.trans k63_1
          clear k63_1 k63_0
          refine s_aload_nr (j := 0) dX11_of_109 rfl ?_
          refine gS_X11_99 hs dX11_of_110 rfl ?_
          exact e_iret dX11_of_113 rfl (by unfold sp_of; rw [if_pos hp, if_neg (of_3 (fun z => c21 (w10.mpr z)) (fun z => c46 (w20.mpr z)))]; rw [ex63]; exact ⟨rfl, _, rfl, FQ.rf _⟩)
        by_cases k63_2 : x63 = 2
        · refine s_tswIn dX11_of_63 (tgt := 114) (by rw [k63_2]; decide) (by rw [k63_2]; decide) (off := 51) (by rw [k63_2]; decide) (by decide) ?_
          replace ex63 := ex63.symm.trans k63_2
          clear k63_2 k63_1 k63_0
          refine s_aload_nr (j := 1) dX11_of_114 rfl ?_
          refine gX_X11_12 dX11_of_115 rfl ?_
          refine gX_X11_102 (w := 0) (by decide) dX11_of_118 rfl ?_
          refine s_aload_nr (j := 0) dX11_of_121 rfl ?_
          refine gS_X11_105 hs dX11_of_122 rfl ?_
          refine lX_X4_hard (w := 0) (by decide) dX11_of_125 (by exact hp4) ?_
          exact e_iret dX11_of_126 rfl (by unfold sp_of; rw [if_pos hp, if_neg (of_3 (fun z => c21 (w10.mpr z)) (fun z => c46 (w20.mpr z)))]; rw [ex63]; exact ⟨hR.2.1.1 _ (pz_lt hp4), _, rfl, FQ.rf _⟩)
        by_cases k63_3 : x63 = 3
        · refine s_tswIn dX11_of_63 (tgt := 127) (by rw [k63_3]; decide) (by rw [k63_3]; decide) (off := 64) (by rw [k63_3]; decide) (by decide) ?_
          replace ex63 := ex63.symm.trans k63_3
          clear k63_3 k63_2 k63_1 k63_0
          refine s_aload_nr (j := 1) dX11_of_127 rfl ?_
          refine gX_X11_12 dX11_of_128 rfl ?_
          refine gX_X11_108 (w := 0) (by decide) dX11_of_131 rfl ?_
          refine s_aload_nr (j := 0) dX11_of_134 rfl ?_
          refine gS_X11_105 hs dX11_of_135 rfl ?_
          refine lX_X4_soft (w := 0) (by decide) dX11_of_138 (by exact hp4) ?_
          exact e_iret dX11_of_139 rfl (by unfold sp_of; rw [if_pos hp, if_neg (of_3 (fun z => c21 (w10.mpr z)) (fun z => c46 (w20.mpr z)))]; rw [ex63]; exact ⟨hR.2.1.2.1 _ (pz_lt hp4), _, rfl, FQ.rf _⟩)
        by_cases k63_4 : x63 = 4
        · refine s_tswIn dX11_of_63 (tgt := 140) (by rw [k63_4]; decide) (by rw [k63_4]; decide) (off := 77) (by rw [k63_4]; decide) (by decide) ?_
          replace ex63 := ex63.symm.trans k63_4
          clear k63_4 k63_3 k63_2 k63_1 k63_0
          refine s_aload_nr (j := 1) dX11_of_140 rfl ?_
          refine gX_X11_12 dX11_of_141 rfl ?_
          refine gX_X11_111 (w := 0) (by decide) dX11_of_144 rfl ?_
          refine s_aload_nr (j := 0) dX11_of_147 rfl ?_
          refine gS_X11_105 hs dX11_of_148 rfl ?_
          refine lX_X4_served (w := 0) (by decide) dX11_of_151 (by exact hp4) ?_
          exact e_iret dX11_of_152 rfl (by unfold sp_of; rw [if_pos hp, if_neg (of_3 (fun z => c21 (w10.mpr z)) (fun z => c46 (w20.mpr z)))]; rw [ex63]; exact ⟨hR.2.1.2.2.1 _ (pz_lt hp4), _, rfl, FQ.rf _⟩)
        by_cases k63_5 : x63 = 5
        · refine s_tswIn dX11_of_63 (tgt := 153) (by rw [k63_5]; decide) (by rw [k63_5]; decide) (off := 90) (by rw [k63_5]; decide) (by decide) ?_
          replace ex63 := ex63.symm.trans k63_5
          clear k63_5 k63_4 k63_3 k63_2 k63_1 k63_0
          refine s_aload_nr (j := 0) dX11_of_153 rfl ?_
          refine s_aload_nr (j := 1) dX11_of_154 rfl ?_
          refine gX_X11_12 dX11_of_155 rfl ?_
          refine u1i_X11_114 hs dX11_of_158 rfl (Nat.le_of_ble_eq_true rfl) (x_first _ X M D (w := 0) (by decide) hR hK hs hp4) (fun y158 h158 q158 => ?_)
          obtain ⟨rfl, rfl⟩ := q158
          exact e_iret dX11_of_161 rfl (by unfold sp_of; rw [if_pos hp, if_neg (of_3 (fun z => c21 (w10.mpr z)) (fun z => c46 (w20.mpr z)))]; rw [ex63]; exact ⟨rfl, _, rfl, FQ.rf _⟩)
        by_cases k63_6 : x63 = 6
        · refine s_tswIn dX11_of_63 (tgt := 162) (by rw [k63_6]; decide) (by rw [k63_6]; decide) (off := 99) (by rw [k63_6]; decide) (by decide) ?_
          replace ex63 := ex63.symm.trans k63_6
          clear k63_6 k63_5 k63_4 k63_3 k63_2 k63_1 k63_0
          refine s_aload_nr (j := 0) dX11_of_162 rfl ?_
          refine s_aload_nr (j := 1) dX11_of_163 rfl ?_
          refine gX_X11_12 dX11_of_164 rfl ?_
          refine u1i_X11_118 hs dX11_of_167 rfl (Nat.le_of_ble_eq_true rfl) (x_second _ X M D (w := 0) (by decide) hR hs hp4) (fun y167 h167 q167 => ?_)
          obtain ⟨rfl, rfl⟩ := q167
          exact e_iret dX11_of_170 rfl (by unfold sp_of; rw [if_pos hp, if_neg (of_3 (fun z => c21 (w10.mpr z)) (fun z => c46 (w20.mpr z)))]; rw [ex63]; exact ⟨rfl, _, rfl, FQ.rf _⟩)
        refine s_tswOut dX11_of_63 (tgt := 171) (by have a0 := lv_neT (a := 0) k63_0 rfl; have a1 := lv_neT (a := 1) k63_1 rfl; have a2 := lv_neT (a := 2) k63_2 rfl; have a3 := lv_neT (a := 3) k63_3 rfl; have a4 := lv_neT (a := 4) k63_4 rfl; have a5 := lv_neT (a := 5) k63_5 rfl; have a6 := lv_neT (a := 6) k63_6 rfl; omega) (by decide) ?_
        replace k63_0 : ¬ _ = _ := fun z => k63_0 (ex63.trans z)
        replace k63_1 : ¬ _ = _ := fun z => k63_1 (ex63.trans z)
        replace k63_2 : ¬ _ = _ := fun z => k63_2 (ex63.trans z)
        replace k63_3 : ¬ _ = _ := fun z => k63_3 (ex63.trans z)
        replace k63_4 : ¬ _ = _ := fun z => k63_4 (ex63.trans z)
        replace k63_5 : ¬ _ = _ := fun z => k63_5 (ex63.trans z)
        replace k63_6 : ¬ _ = _ := fun z => k63_6 (ex63.trans z)
        clear ex63
        refine s_iconst (v := -1) dX11_of_171 (by decide) ?_
        exact e_iret dX11_of_172 rfl (by unfold sp_of; rw [if_pos hp, if_neg (of_3 (fun z => c21 (w10.mpr z)) (fun z => c46 (w20.mpr z))), if_neg k63_0, if_neg k63_1, if_neg k63_2, if_neg k63_3, if_neg k63_4, if_neg k63_5, if_neg k63_6]; exact ⟨rfl, _, rfl, FQ.rf _⟩)
      · replace c46 := b2i_n0.mp c46
        refine s_aload_nr (j := 1) dX11_of_49 rfl ?_
        refine gX_X11_12 dX11_of_50 rfl ?_
        refine s_aload_nr (j := 0) dX11_of_53 rfl ?_
        refine s_iload_n (j := 3) dX11_of_54 rfl ?_
        refine s_bipush (v := 20) dX11_of_55 (by decide) ?_
        refine s_isub dX11_of_57 ?_
        refine s_V2i cv_X11_91 rfl dX11_of_58 (xg_X4 (w := 0) (by decide)) rfl (Nat.le_of_ble_eq_true rfl) (x_winsOf _ X M D (w := 0) (by decide) hR hK hC hs hp4 _) (fun y58 h58 q58 => ?_)
        obtain ⟨rfl, g, rfl⟩ := q58
        exact e_iret dX11_of_61 rfl (by unfold sp_of; rw [if_pos hp, if_pos (of_2 (w20.mp c46)).1, if_pos (of_2 (w20.mp c46)).2]; exact ⟨rfl, _, rfl, (FQ.rf _).lt0 _⟩)
    · replace c21 := b2i_n0.mp c21
      refine s_aload_nr (j := 1) dX11_of_24 rfl ?_
      refine gX_X11_12 dX11_of_25 rfl ?_
      refine s_aload_nr (j := 0) dX11_of_28 rfl ?_
      refine s_iload_n (j := 3) dX11_of_29 rfl ?_
      refine s_bipush (v := 10) dX11_of_30 (by decide) ?_
      refine s_isub dX11_of_32 ?_
      refine s_V2i cv_X11_87 rfl dX11_of_33 (xg_X4 (w := 0) (by decide)) rfl (Nat.le_of_ble_eq_true rfl) (x_inOf _ X M D (w := 0) (by decide) hR hK hC hs hp4 _) (fun y33 h33 q33 => ?_)
      obtain ⟨rfl, g, rfl⟩ := q33
      exact e_iret dX11_of_36 rfl (by unfold sp_of; rw [if_pos hp, if_pos (of_1 (w10.mp c21)).1, if_neg (of_1 (w10.mp c21)).2]; exact ⟨rfl, _, rfl, (FQ.rf _).lt0 _⟩)
  · skip
    refine s_astore_n0 dX11_of_5 (by decide) rfl ?_
    refine s_aload_n0 (j := 0) dX11_of_6 rfl ?_
    refine s_ifnonnull0 dX11_of_7 ?_
    refine s_iconst (v := -1) dX11_of_10 (by decide) ?_
    exact e_iret dX11_of_11 rfl (by unfold sp_of; rw [if_neg hp]; exact ⟨rfl, _, rfl, FQ.rf _⟩)

set_option maxRecDepth 100000 in
set_option maxHeartbeats 800000 in
theorem x_chance (d : Nat) (X : XZ) (M : MZ) (D : HP) (hR : SR X D 0 M) (hK : KI M) {cl : CLs} (hC : CX X M cl) (p a b : Int32) : Con (d + 5) qX11_chance 0 0 [.ref 0, .int p, .int a, .int b] (xh X M D) (PI fun y h => y = sp_chance M cl p a b ∧ ∃ X2, h = xh X2 M D ∧ FQ X X2) := by
  refine Con.of (by decide +kernel) (Nat.le_of_ble_eq_true rfl) ?_
  show Sem (d + 5) qX11_chance 0 0 0 [(0, .ref 0), (1, .int p), (2, .int a), (3, .int b)] [] (xh X M D) _
  refine s_aload_nr (j := 0) dX11_chance_0 rfl ?_
  refine s_iload_n (j := 1) dX11_chance_1 rfl ?_
  refine s_V1r cv_X11_83 rfl dX11_chance_2 xg_X11 rfl (Nat.le_of_ble_eq_true rfl) (x_serverAt _ _ M D hR hK.1.1 _) (fun y2 h2 q2 => ?_)
  rcases q2 with ⟨⟨hp, n, rfl, hs⟩ | ⟨hp, rfl⟩, rfl⟩
  · skip
    refine s_astorer dX11_chance_5 (by decide) rfl ?_
    refine s_aloadr (j := 0) dX11_chance_7 rfl ?_
    refine s_ifnullr dX11_chance_9 ?_
    refine s_iload_n (j := 3) dX11_chance_12 rfl ?_
    refine s_bipush (v := 10) dX11_chance_13 (by decide) ?_
    refine s_S2i cs_X11_67 rfl dX11_chance_15 (Nat.le_of_ble_eq_true rfl) (x_wC _ _ _ _ (9) (by decide)) (fun y15 h15 q15 => ?_)
    obtain ⟨rfl, rfl⟩ := q15
    refine s_if_eq dX11_chance_18 (tgt := 30) (by decide) (fun c18 => ?_) (fun c18 => ?_)
    · replace c18 := b2i_0.mp c18
      refine s_iconst (v := -1) dX11_chance_30 (by decide) ?_
      exact e_iret dX11_chance_31 rfl (by unfold sp_chance; (first | rw [if_pos hp] | rw [if_neg hp] | skip); (first | rw [if_pos c18] | rw [if_neg c18] | skip); first | exact ⟨rfl, _, rfl, FQ.rf _⟩ | exact ⟨rfl, _, rfl, (FQ.rf _).lt0 _⟩)
    · replace c18 := b2i_n0.mp c18
      refine s_iload_n (j := 4) dX11_chance_21 rfl ?_
      refine s_bipush (v := 10) dX11_chance_22 (by decide) ?_
      refine s_S2i cs_X11_67 rfl dX11_chance_24 (Nat.le_of_ble_eq_true rfl) (x_wC _ _ _ _ (9) (by decide)) (fun y24 h24 q24 => ?_)
      obtain ⟨rfl, rfl⟩ := q24
      refine s_if_ne dX11_chance_27 (tgt := 32) (by decide) (fun c27 => ?_) (fun c27 => ?_)
      · replace c27 := b2i_n0.mp c27
        refine s_aload_nr (j := 1) dX11_chance_32 rfl ?_
        refine gX_X11_12 dX11_chance_33 rfl ?_
        refine s_aloadr (j := 0) dX11_chance_36 rfl ?_
        refine s_iload_n (j := 3) dX11_chance_38 rfl ?_
        refine s_iload_n (j := 4) dX11_chance_39 rfl ?_
        refine s_V3i cv_X11_157 rfl dX11_chance_40 (xg_X4 (w := 0) (by decide)) rfl (Nat.le_of_ble_eq_true rfl) (x_chanceBy _ X M D (w := 0) (by decide) hR hK hC hs (in4_of hK.1.1 hp) _ _) (fun y40 h40 q40 => ?_)
        obtain ⟨rfl, g, rfl⟩ := q40
        exact e_iret dX11_chance_43 rfl (by unfold sp_chance; (first | rw [if_pos hp] | rw [if_neg hp] | skip); (first | rw [if_pos c18] | rw [if_neg c18] | skip); (first | rw [if_pos c27] | rw [if_neg c27] | skip); first | exact ⟨rfl, _, rfl, FQ.rf _⟩ | exact ⟨rfl, _, rfl, (FQ.rf _).lt0 _⟩)
      · replace c27 := b2i_0.mp c27
        refine s_iconst (v := -1) dX11_chance_30 (by decide) ?_
        exact e_iret dX11_chance_31 rfl (by unfold sp_chance; (first | rw [if_pos hp] | rw [if_neg hp] | skip); (first | rw [if_pos c18] | rw [if_neg c18] | skip); (first | rw [if_pos c27] | rw [if_neg c27] | skip); first | exact ⟨rfl, _, rfl, FQ.rf _⟩ | exact ⟨rfl, _, rfl, (FQ.rf _).lt0 _⟩)
  · skip
    refine s_astore0 dX11_chance_5 (by decide) rfl ?_
    refine s_aload0 (j := 0) dX11_chance_7 rfl ?_
    refine s_ifnull0 dX11_chance_9 (tgt := 30) (by decide) ?_
    refine s_iconst (v := -1) dX11_chance_30 (by decide) ?_
    exact e_iret dX11_chance_31 rfl (by unfold sp_chance; (first | rw [if_pos hp] | rw [if_neg hp] | skip); first | exact ⟨rfl, _, rfl, FQ.rf _⟩ | exact ⟨rfl, _, rfl, (FQ.rf _).lt0 _⟩)

set_option maxRecDepth 100000 in
set_option maxHeartbeats 800000 in
theorem x_faults (d : Nat) (X : XZ) (M : MZ) (D : HP) (hR : SR X D 0 M) (hK : KI M) {cl : CLs} (hC : CX X M cl) (p a b : Int32) : Con (d + 5) qX11_faults 0 0 [.ref 0, .int p, .int a, .int b] (xh X M D) (PI fun y h => y = sp_faults M cl p a b ∧ ∃ X2, h = xh X2 M D ∧ FQ X X2) := by
  refine Con.of (by decide +kernel) (Nat.le_of_ble_eq_true rfl) ?_
  show Sem (d + 5) qX11_faults 0 0 0 [(0, .ref 0), (1, .int p), (2, .int a), (3, .int b)] [] (xh X M D) _
  refine s_aload_nr (j := 0) dX11_faults_0 rfl ?_
  refine s_iload_n (j := 1) dX11_faults_1 rfl ?_
  refine s_V1r cv_X11_83 rfl dX11_faults_2 xg_X11 rfl (Nat.le_of_ble_eq_true rfl) (x_serverAt _ _ M D hR hK.1.1 _) (fun y2 h2 q2 => ?_)
  rcases q2 with ⟨⟨hp, n, rfl, hs⟩ | ⟨hp, rfl⟩, rfl⟩
  · skip
    refine s_astorer dX11_faults_5 (by decide) rfl ?_
    refine s_aloadr (j := 0) dX11_faults_7 rfl ?_
    refine s_ifnullr dX11_faults_9 ?_
    refine s_iload_n (j := 3) dX11_faults_12 rfl ?_
    refine s_bipush (v := 10) dX11_faults_13 (by decide) ?_
    refine s_S2i cs_X11_67 rfl dX11_faults_15 (Nat.le_of_ble_eq_true rfl) (x_wC _ _ _ _ (9) (by decide)) (fun y15 h15 q15 => ?_)
    obtain ⟨rfl, rfl⟩ := q15
    refine s_if_eq dX11_faults_18 (tgt := 30) (by decide) (fun c18 => ?_) (fun c18 => ?_)
    · replace c18 := b2i_0.mp c18
      refine s_iconst (v := -1) dX11_faults_30 (by decide) ?_
      exact e_iret dX11_faults_31 rfl (by unfold sp_faults; (first | rw [if_pos hp] | rw [if_neg hp] | skip); (first | rw [if_pos c18] | rw [if_neg c18] | skip); first | exact ⟨rfl, _, rfl, FQ.rf _⟩ | exact ⟨rfl, _, rfl, (FQ.rf _).lt0 _⟩)
    · replace c18 := b2i_n0.mp c18
      refine s_iload_n (j := 4) dX11_faults_21 rfl ?_
      refine s_bipush (v := 10) dX11_faults_22 (by decide) ?_
      refine s_S2i cs_X11_67 rfl dX11_faults_24 (Nat.le_of_ble_eq_true rfl) (x_wC _ _ _ _ (9) (by decide)) (fun y24 h24 q24 => ?_)
      obtain ⟨rfl, rfl⟩ := q24
      refine s_if_ne dX11_faults_27 (tgt := 32) (by decide) (fun c27 => ?_) (fun c27 => ?_)
      · replace c27 := b2i_n0.mp c27
        refine s_aload_nr (j := 1) dX11_faults_32 rfl ?_
        refine gX_X11_12 dX11_faults_33 rfl ?_
        refine s_aloadr (j := 0) dX11_faults_36 rfl ?_
        refine s_iload_n (j := 3) dX11_faults_38 rfl ?_
        refine s_iload_n (j := 4) dX11_faults_39 rfl ?_
        refine s_V3i cv_X11_160 rfl dX11_faults_40 (xg_X4 (w := 0) (by decide)) rfl (Nat.le_of_ble_eq_true rfl) (x_faultsBy _ X M D (w := 0) (by decide) hR hK hC hs (in4_of hK.1.1 hp) _ _) (fun y40 h40 q40 => ?_)
        obtain ⟨rfl, g, rfl⟩ := q40
        exact e_iret dX11_faults_43 rfl (by unfold sp_faults; (first | rw [if_pos hp] | rw [if_neg hp] | skip); (first | rw [if_pos c18] | rw [if_neg c18] | skip); (first | rw [if_pos c27] | rw [if_neg c27] | skip); first | exact ⟨rfl, _, rfl, FQ.rf _⟩ | exact ⟨rfl, _, rfl, (FQ.rf _).lt0 _⟩)
      · replace c27 := b2i_0.mp c27
        refine s_iconst (v := -1) dX11_faults_30 (by decide) ?_
        exact e_iret dX11_faults_31 rfl (by unfold sp_faults; (first | rw [if_pos hp] | rw [if_neg hp] | skip); (first | rw [if_pos c18] | rw [if_neg c18] | skip); (first | rw [if_pos c27] | rw [if_neg c27] | skip); first | exact ⟨rfl, _, rfl, FQ.rf _⟩ | exact ⟨rfl, _, rfl, (FQ.rf _).lt0 _⟩)
  · skip
    refine s_astore0 dX11_faults_5 (by decide) rfl ?_
    refine s_aload0 (j := 0) dX11_faults_7 rfl ?_
    refine s_ifnull0 dX11_faults_9 (tgt := 30) (by decide) ?_
    refine s_iconst (v := -1) dX11_faults_30 (by decide) ?_
    exact e_iret dX11_faults_31 rfl (by unfold sp_faults; (first | rw [if_pos hp] | rw [if_neg hp] | skip); first | exact ⟨rfl, _, rfl, FQ.rf _⟩ | exact ⟨rfl, _, rfl, (FQ.rf _).lt0 _⟩)

set_option maxRecDepth 100000 in
set_option maxHeartbeats 800000 in
theorem x_dare (d : Nat) (X : XZ) (M : MZ) (D : HP) (hR : SR X D 0 M) (hK : KI M) {cl : CLs} (hC : CX X M cl) (p : Int32) : Con (d + 6) qX11_dare 0 0 [.ref 0, .int p] (xh X M D) (PI fun y h => y = sp_dare M cl p ∧ ∃ X2, h = xh X2 M D ∧ FQ X X2) := by
  refine Con.of (by decide +kernel) (Nat.le_of_ble_eq_true rfl) ?_
  show Sem (d + 6) qX11_dare 0 0 0 [(0, .ref 0), (1, .int p)] [] (xh X M D) _
  refine s_aload_nr (j := 0) dX11_dare_0 rfl ?_
  refine s_iload_n (j := 1) dX11_dare_1 rfl ?_
  refine s_V1r cv_X11_83 rfl dX11_dare_2 xg_X11 rfl (Nat.le_of_ble_eq_true rfl) (x_serverAt _ _ M D hR hK.1.1 _) (fun y2 h2 q2 => ?_)
  rcases q2 with ⟨⟨hp, n, rfl, hs⟩ | ⟨hp, rfl⟩, rfl⟩
  · skip
    refine s_astore_nr dX11_dare_5 (by decide) rfl ?_
    refine s_aload_nr (j := 0) dX11_dare_6 rfl ?_
    refine s_ifnonnullr dX11_dare_7 (tgt := 13) (by decide) ?_
    refine s_aload_nr (j := 0) dX11_dare_13 rfl ?_
    refine s_aload_nr (j := 1) dX11_dare_14 rfl ?_
    refine gX_X11_12 dX11_dare_15 rfl ?_
    refine u1i_X11_114 hs dX11_dare_18 rfl (Nat.le_of_ble_eq_true rfl) (x_first _ X M D (w := 0) (by decide) hR hK hs (in4_of hK.1.1 hp)) (fun y18 h18 q18 => ?_)
    obtain ⟨rfl, rfl⟩ := q18
    refine s_istore_n dX11_dare_21 (by decide) rfl ?_
    refine s_aload_nr (j := 2) dX11_dare_22 rfl ?_
    refine gX_X11_12 dX11_dare_23 rfl ?_
    refine s_aload_nr (j := 1) dX11_dare_26 rfl ?_
    refine s_iload_n (j := 0) dX11_dare_27 rfl ?_
    refine s_iload_n (j := 0) dX11_dare_28 rfl ?_
    refine s_V3i cv_X11_157 rfl dX11_dare_29 (xg_X4 (w := 0) (by decide)) rfl (Nat.le_of_ble_eq_true rfl) (x_chanceBy _ X M D (w := 0) (by decide) hR hK hC hs (in4_of hK.1.1 hp) _ _) (fun y29 h29 q29 => ?_)
    obtain ⟨rfl, g, rfl⟩ := q29
    refine s_aload_nr (j := 2) dX11_dare_32 rfl ?_
    refine gX_X11_12 dX11_dare_33 rfl ?_
    refine s_aload_nr (j := 1) dX11_dare_36 rfl ?_
    refine s_V1i cv_X11_175 rfl dX11_dare_37 (xg_X4 (w := 0) (by decide)) rfl (Nat.le_of_ble_eq_true rfl) (x_chanceOf _ (xlt X 0 g) M D (w := 0) (by decide) hR.lt hK (hC.lt (by decide)) hs (in4_of hK.1.1 hp)) (fun y37 h37 q37 => ?_)
    obtain ⟨rfl, g2, rfl⟩ := q37
    refine s_isub dX11_dare_40 ?_
    exact e_iret dX11_dare_41 rfl (by unfold sp_dare; (first | rw [if_pos hp] | rw [if_neg hp] | skip); first | exact ⟨rfl, _, rfl, FQ.rf _⟩ | exact ⟨rfl, _, rfl, ((FQ.rf _).lt0 _).lt0 _⟩)
  · skip
    refine s_astore_n0 dX11_dare_5 (by decide) rfl ?_
    refine s_aload_n0 (j := 0) dX11_dare_6 rfl ?_
    refine s_ifnonnull0 dX11_dare_7 ?_
    refine s_ldc dX11_dare_10 rfl m785 ?_
    exact e_iret dX11_dare_12 rfl (by unfold sp_dare; (first | rw [if_pos hp] | rw [if_neg hp] | skip); first | exact ⟨rfl, _, rfl, FQ.rf _⟩ | exact ⟨rfl, _, rfl, ((FQ.rf _).lt0 _).lt0 _⟩)
