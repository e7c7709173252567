set_option maxRecDepth 100000 in
set_option maxHeartbeats 800000 in
theorem m_image (d : Nat) (P D : HP) (M : MZ) (hP : P.length = 95) : Con d qX12_image 0 0 [.ref 95] (mh P M D) (PI fun y h => y = M.1 0 ∧ ∃ A, IMG M.2.1 A ∧ h = mh P (imS M.1, A, M.2.2) D) := by
  refine Con.of (by decide +kernel) (Nat.le_of_ble_eq_true rfl) ?_
  show Sem d qX12_image 0 0 0 [(0, .ref 95)] [] (mh P M D) _
  refine s_aload_nr (j := 0) dX12_image_0 rfl ?_
  refine s_iconst (v := 1) dX12_image_1 (by decide) ?_
  refine pM_hasImage dX12_image_2 rfl hP (by decide) (by decide) ?_
  refine s_aload_nr (j := 0) dX12_image_5 rfl ?_
  refine s_aload_nr (j := 0) dX12_image_6 rfl ?_
  refine gM_the dX12_image_7 rfl hP ?_
  refine pM_imageThe dX12_image_10 rfl hP ?_
  refine s_aload_nr (j := 0) dX12_image_13 rfl ?_
  refine s_aload_nr (j := 0) dX12_image_14 rfl ?_
  refine gM_servers dX12_image_15 rfl hP ?_
  refine pM_imageServers dX12_image_18 rfl hP ?_
  refine s_aload_nr (j := 0) dX12_image_21 rfl ?_
  refine s_aload_nr (j := 0) dX12_image_22 rfl ?_
  refine gM_won dX12_image_23 rfl hP ?_
  refine pM_imageWon dX12_image_26 rfl hP ?_
  refine s_aload_nr (j := 0) dX12_image_29 rfl ?_
  refine s_aload_nr (j := 0) dX12_image_30 rfl ?_
  refine gM_lost dX12_image_31 rfl hP ?_
  refine pM_imageLost dX12_image_34 rfl hP ?_
  refine s_aload_nr (j := 0) dX12_image_37 rfl ?_
  refine s_aload_nr (j := 0) dX12_image_38 rfl ?_
  refine gM_stance dX12_image_39 rfl hP ?_
  refine pM_imageStance dX12_image_42 rfl hP ?_
  refine s_aload_nr (j := 0) dX12_image_45 rfl ?_
  refine s_aload_nr (j := 0) dX12_image_46 rfl ?_
  refine gM_seen dX12_image_47 rfl hP ?_
  refine pM_imageSeen dX12_image_50 rfl hP ?_
  refine s_aload_nr (j := 0) dX12_image_53 rfl ?_
  refine s_aload_nr (j := 0) dX12_image_54 rfl ?_
  refine gM_books dX12_image_55 rfl hP ?_
  refine pM_imageBooks dX12_image_58 rfl hP ?_
  refine s_iconst (v := 0) dX12_image_61 (by decide) ?_
  refine s_istore_n dX12_image_62 (by decide) rfl ?_
  have LA : ∀ (n : Nat) (k : Nat) (A1 : Nat → Nat → Int32), 4 - k < n → k ≤ 4 → CPX A1 M.2.1 (· - 24) 24 29 k 24 → Sem d qX12_image 0 0 63 [(0, .ref 95), (1, .int (nI k))] [] (mh P (imS M.1, A1, M.2.2) D) (PI fun y h => y = M.1 0 ∧ ∃ A, IMG M.2.1 A ∧ h = mh P (imS M.1, A, M.2.2) D) := by
    intro n
    induction n with
    | zero => intro k A1 hm; exact absurd hm (Nat.not_lt_zero _)
    | succ n iha =>
      intro k A1 hm1 hk1 hA1
      refine s_iload_n (j := 1) dX12_image_63 rfl ?_
      refine s_iconst (v := 4) dX12_image_64 (by decide) ?_
      refine s_icmp_ge dX12_image_65 (tgt := 134) (by decide) (fun c65 => ?_) (fun c65 => ?_)
      · obtain rfl : k = 4 := Nat.le_antisymm hk1 ((nI_leI (a := 4) (by decide) (by omega)).mp c65)
        refine s_iconst (v := 0) dX12_image_134 (by decide) ?_
        refine s_istore_n dX12_image_135 (by decide) rfl ?_
        have LB : ∀ (n : Nat) (k : Nat) (A2 : Nat → Nat → Int32), 16 - k < n → k ≤ 16 → CPX A2 A1 (· - 24) 29 30 k 29 → Sem d qX12_image 0 0 136 [(0, .ref 95), (1, .int (nI k))] [] (mh P (imS M.1, A2, M.2.2) D) (PI fun y h => y = M.1 0 ∧ ∃ A, IMG M.2.1 A ∧ h = mh P (imS M.1, A, M.2.2) D) := by
          intro n
          induction n with
          | zero => intro k A2 hm; exact absurd hm (Nat.not_lt_zero _)
          | succ n ihb =>
            intro k A2 hm2 hk2 hA2
            refine s_iload_n (j := 1) dX12_image_136 rfl ?_
            refine s_bipush (v := 16) dX12_image_137 (by decide) ?_
            refine s_icmp_ge dX12_image_139 (tgt := 160) (by decide) (fun c139 => ?_) (fun c139 => ?_)
            · obtain rfl : k = 16 := Nat.le_antisymm hk2 ((nI_leI (a := 16) (by decide) (by omega)).mp c139)
              refine s_iconst (v := 0) dX12_image_160 (by decide) ?_
              refine s_istore_n dX12_image_161 (by decide) rfl ?_
              have LC : ∀ (n : Nat) (k : Nat) (A3 : Nat → Nat → Int32), 6 - k < n → k ≤ 6 → CPX A3 A2 (· - 12) 30 32 k 30 → Sem d qX12_image 0 0 162 [(0, .ref 95), (1, .int (nI k))] [] (mh P (imS M.1, A3, M.2.2) D) (PI fun y h => y = M.1 0 ∧ ∃ A, IMG M.2.1 A ∧ h = mh P (imS M.1, A, M.2.2) D) := by
                intro n
                induction n with
                | zero => intro k A3 hm; exact absurd hm (Nat.not_lt_zero _)
                | succ n ihc =>
                  intro k A3 hm3 hk3 hA3
                  refine s_iload_n (j := 1) dX12_image_162 rfl ?_
                  refine s_bipush (v := 6) dX12_image_163 (by decide) ?_
                  refine s_icmp_ge dX12_image_165 (tgt := 198) (by decide) (fun c165 => ?_) (fun c165 => ?_)
                  · obtain rfl : k = 6 := Nat.le_antisymm hk3 ((nI_leI (a := 6) (by decide) (by omega)).mp c165)
                    refine s_iconst (v := 0) dX12_image_198 (by decide) ?_
                    refine s_istore_n dX12_image_199 (by decide) rfl ?_
                    have LD : ∀ (n : Nat) (k : Nat) (A4 : Nat → Nat → Int32), 10 - k < n → k ≤ 10 → CPX A4 A3 (· - 12) 32 35 k 32 → Sem d qX12_image 0 0 200 [(0, .ref 95), (1, .int (nI k))] [] (mh P (imS M.1, A4, M.2.2) D) (PI fun y h => y = M.1 0 ∧ ∃ A, IMG M.2.1 A ∧ h = mh P (imS M.1, A, M.2.2) D) := by
                      intro n
                      induction n with
                      | zero => intro k A4 hm; exact absurd hm (Nat.not_lt_zero _)
                      | succ n ihd =>
                        intro k A4 hm4 hk4 hA4
                        refine s_iload_n (j := 1) dX12_image_200 rfl ?_
                        refine s_bipush (v := 10) dX12_image_201 (by decide) ?_
                        refine s_icmp_ge dX12_image_203 (tgt := 248) (by decide) (fun c203 => ?_) (fun c203 => ?_)
                        · obtain rfl : k = 10 := Nat.le_antisymm hk4 ((nI_leI (a := 10) (by decide) (by omega)).mp c203)
                          refine s_aload_nr (j := 0) dX12_image_248 rfl ?_
                          refine gM_servers dX12_image_249 rfl hP ?_
                          exact e_iret dX12_image_252 rfl (by exact ⟨rfl, A4, IMG.of hA1 hA2 hA3 hA4, rfl⟩)
                        · have ltk : k < 10 := Nat.lt_of_not_le fun z => c203 ((nI_leI (a := 10) (by decide) (by omega)).mpr z)
                          refine s_aload_nr (j := 0) dX12_image_206 rfl ?_
                          refine gM_imageWho dX12_image_207 rfl hP ?_
                          refine s_iload_n (j := 1) dX12_image_210 rfl ?_
                          refine s_aload_nr (j := 0) dX12_image_211 rfl ?_
                          refine gM_bookWho dX12_image_212 rfl hP ?_
                          refine s_iload_n (j := 1) dX12_image_215 rfl ?_
                          refine lM 21 dX12_image_216 hP rfl (by exact vp_in_nI (by omega) (by decide)) ?_
                          refine sM_imageWho dX12_image_217 hP (by exact vp_in_nI (by omega) (by decide)) ?_
                          refine s_aload_nr (j := 0) dX12_image_218 rfl ?_
                          refine gM_imageD dX12_image_219 rfl hP ?_
                          refine s_iload_n (j := 1) dX12_image_222 rfl ?_
                          refine s_aload_nr (j := 0) dX12_image_223 rfl ?_
                          refine gM_bookOne dX12_image_224 rfl hP ?_
                          refine s_iload_n (j := 1) dX12_image_227 rfl ?_
                          refine lM 22 dX12_image_228 hP rfl (by exact vp_in_nI (by omega) (by decide)) ?_
                          refine sM_imageD dX12_image_229 hP (by exact vp_in_nI (by omega) (by decide)) ?_
                          refine s_aload_nr (j := 0) dX12_image_230 rfl ?_
                          refine gM_imageE dX12_image_231 rfl hP ?_
                          refine s_iload_n (j := 1) dX12_image_234 rfl ?_
                          refine s_aload_nr (j := 0) dX12_image_235 rfl ?_
                          refine gM_bookTwo dX12_image_236 rfl hP ?_
                          refine s_iload_n (j := 1) dX12_image_239 rfl ?_
                          refine lM 23 dX12_image_240 hP rfl (by exact vp_in_nI (by omega) (by decide)) ?_
                          refine sM_imageE dX12_image_241 hP (by exact vp_in_nI (by omega) (by decide)) ?_
                          refine s_iinc (j := 1) (v := _ + (1)) dX12_image_242 rfl rfl (by decide) rfl ?_
                          refine s_goto dX12_image_245 (tgt := 200) (by decide) ?_
                          refine s_locals [1, 0] rfl ?_
                          rw [nI_1]
                          have ek : (nI k).toNatClampNeg = k := nI_clamp (by omega)
                          rw [ek]
                          exact ihd (k + 1) _ (by omega) (by omega) (((hA4.put (by decide) (by decide) (show A4 20 k = _ from hA4.src (by decide) k)).put (by decide) (by decide) (show A4 21 k = _ from hA4.src (by decide) k)).put (by decide) (by decide) (show A4 22 k = _ from hA4.src (by decide) k)).nxt
                    refine s_locals [1, 0] rfl ?_
                    exact LD 11 0 A3 (by decide) (Nat.zero_le _) (CPX.beg _ _ _ _)
                  · have ltk : k < 6 := Nat.lt_of_not_le fun z => c165 ((nI_leI (a := 6) (by decide) (by omega)).mpr z)
                    refine s_aload_nr (j := 0) dX12_image_168 rfl ?_
                    refine gM_imageOne dX12_image_169 rfl hP ?_
                    refine s_iload_n (j := 1) dX12_image_172 rfl ?_
                    refine s_aload_nr (j := 0) dX12_image_173 rfl ?_
                    refine gM_seenOne dX12_image_174 rfl hP ?_
                    refine s_iload_n (j := 1) dX12_image_177 rfl ?_
                    refine lM 19 dX12_image_178 hP rfl (by exact vp_in_nI (by omega) (by decide)) ?_
                    refine sM_imageOne dX12_image_179 hP (by exact vp_in_nI (by omega) (by decide)) ?_
                    refine s_aload_nr (j := 0) dX12_image_180 rfl ?_
                    refine gM_imageTwo dX12_image_181 rfl hP ?_
                    refine s_iload_n (j := 1) dX12_image_184 rfl ?_
                    refine s_aload_nr (j := 0) dX12_image_185 rfl ?_
                    refine gM_seenTwo dX12_image_186 rfl hP ?_
                    refine s_iload_n (j := 1) dX12_image_189 rfl ?_
                    refine lM 20 dX12_image_190 hP rfl (by exact vp_in_nI (by omega) (by decide)) ?_
                    refine sM_imageTwo dX12_image_191 hP (by exact vp_in_nI (by omega) (by decide)) ?_
                    refine s_iinc (j := 1) (v := _ + (1)) dX12_image_192 rfl rfl (by decide) rfl ?_
                    refine s_goto dX12_image_195 (tgt := 162) (by decide) ?_
                    refine s_locals [1, 0] rfl ?_
                    rw [nI_1]
                    have ek : (nI k).toNatClampNeg = k := nI_clamp (by omega)
                    rw [ek]
                    exact ihc (k + 1) _ (by omega) (by omega) ((hA3.put (by decide) (by decide) (show A3 18 k = _ from hA3.src (by decide) k)).put (by decide) (by decide) (show A3 19 k = _ from hA3.src (by decide) k)).nxt
              refine s_locals [1, 0] rfl ?_
              exact LC 7 0 A2 (by decide) (Nat.zero_le _) (CPX.beg _ _ _ _)
            · have ltk : k < 16 := Nat.lt_of_not_le fun z => c139 ((nI_leI (a := 16) (by decide) (by omega)).mpr z)
              refine s_aload_nr (j := 0) dX12_image_142 rfl ?_
              refine gM_imageRows dX12_image_143 rfl hP ?_
              refine s_iload_n (j := 1) dX12_image_146 rfl ?_
              refine s_aload_nr (j := 0) dX12_image_147 rfl ?_
              refine gM_rows dX12_image_148 rfl hP ?_
              refine s_iload_n (j := 1) dX12_image_151 rfl ?_
              refine lM 6 dX12_image_152 hP rfl (by exact vp_in_nI (by omega) (by decide)) ?_
              refine sM_imageRows dX12_image_153 hP (by exact vp_in_nI (by omega) (by decide)) ?_
              refine s_iinc (j := 1) (v := _ + (1)) dX12_image_154 rfl rfl (by decide) rfl ?_
              refine s_goto dX12_image_157 (tgt := 136) (by decide) ?_
              refine s_locals [1, 0] rfl ?_
              rw [nI_1]
              have ek : (nI k).toNatClampNeg = k := nI_clamp (by omega)
              rw [ek]
              exact ihb (k + 1) _ (by omega) (by omega) (hA2.put (by decide) (by decide) (show A2 5 k = _ from hA2.src (by decide) k)).nxt
        refine s_locals [1, 0] rfl ?_
        exact LB 17 0 A1 (by decide) (Nat.zero_le _) (CPX.beg _ _ _ _)
      · have ltk : k < 4 := Nat.lt_of_not_le fun z => c65 ((nI_leI (a := 4) (by decide) (by omega)).mpr z)
        refine s_aload_nr (j := 0) dX12_image_68 rfl ?_
        refine gM_imageKind dX12_image_69 rfl hP ?_
        refine s_iload_n (j := 1) dX12_image_72 rfl ?_
        refine s_aload_nr (j := 0) dX12_image_73 rfl ?_
        refine gM_kind dX12_image_74 rfl hP ?_
        refine s_iload_n (j := 1) dX12_image_77 rfl ?_
        refine lM 1 dX12_image_78 hP rfl (by exact vp_in_nI (by omega) (by decide)) ?_
        refine sM_imageKind dX12_image_79 hP (by exact vp_in_nI (by omega) (by decide)) ?_
        refine s_aload_nr (j := 0) dX12_image_80 rfl ?_
        refine gM_imageV dX12_image_81 rfl hP ?_
        refine s_iload_n (j := 1) dX12_image_84 rfl ?_
        refine s_aload_nr (j := 0) dX12_image_85 rfl ?_
        refine gM_v dX12_image_86 rfl hP ?_
        refine s_iload_n (j := 1) dX12_image_89 rfl ?_
        refine lM 2 dX12_image_90 hP rfl (by exact vp_in_nI (by omega) (by decide)) ?_
        refine sM_imageV dX12_image_91 hP (by exact vp_in_nI (by omega) (by decide)) ?_
        refine s_aload_nr (j := 0) dX12_image_92 rfl ?_
        refine gM_imageHard dX12_image_93 rfl hP ?_
        refine s_iload_n (j := 1) dX12_image_96 rfl ?_
        refine s_aload_nr (j := 0) dX12_image_97 rfl ?_
        refine gM_hard dX12_image_98 rfl hP ?_
        refine s_iload_n (j := 1) dX12_image_101 rfl ?_
        refine lM 3 dX12_image_102 hP rfl (by exact vp_in_nI (by omega) (by decide)) ?_
        refine sM_imageHard dX12_image_103 hP (by exact vp_in_nI (by omega) (by decide)) ?_
        refine s_aload_nr (j := 0) dX12_image_104 rfl ?_
        refine gM_imageSoft dX12_image_105 rfl hP ?_
        refine s_iload_n (j := 1) dX12_image_108 rfl ?_
        refine s_aload_nr (j := 0) dX12_image_109 rfl ?_
        refine gM_soft dX12_image_110 rfl hP ?_
        refine s_iload_n (j := 1) dX12_image_113 rfl ?_
        refine lM 4 dX12_image_114 hP rfl (by exact vp_in_nI (by omega) (by decide)) ?_
        refine sM_imageSoft dX12_image_115 hP (by exact vp_in_nI (by omega) (by decide)) ?_
        refine s_aload_nr (j := 0) dX12_image_116 rfl ?_
        refine gM_imageServed dX12_image_117 rfl hP ?_
        refine s_iload_n (j := 1) dX12_image_120 rfl ?_
        refine s_aload_nr (j := 0) dX12_image_121 rfl ?_
        refine gM_served dX12_image_122 rfl hP ?_
        refine s_iload_n (j := 1) dX12_image_125 rfl ?_
        refine lM 5 dX12_image_126 hP rfl (by exact vp_in_nI (by omega) (by decide)) ?_
        refine sM_imageServed dX12_image_127 hP (by exact vp_in_nI (by omega) (by decide)) ?_
        refine s_iinc (j := 1) (v := _ + (1)) dX12_image_128 rfl rfl (by decide) rfl ?_
        refine s_goto dX12_image_131 (tgt := 63) (by decide) ?_
        refine s_locals [1, 0] rfl ?_
        rw [nI_1]
        have ek : (nI k).toNatClampNeg = k := nI_clamp (by omega)
        rw [ek]
        exact iha (k + 1) _ (by omega) (by omega) (((((hA1.put (by decide) (by decide) (show A1 0 k = _ from hA1.src (by decide) k)).put (by decide) (by decide) (show A1 1 k = _ from hA1.src (by decide) k)).put (by decide) (by decide) (show A1 2 k = _ from hA1.src (by decide) k)).put (by decide) (by decide) (show A1 3 k = _ from hA1.src (by decide) k)).put (by decide) (by decide) (show A1 4 k = _ from hA1.src (by decide) k)).nxt
  refine s_locals [1, 0] rfl ?_
  exact LA 5 0 M.2.1 (by decide) (Nat.zero_le _) (CPX.beg _ _ _ _)

set_option maxRecDepth 100000 in
set_option maxHeartbeats 800000 in
theorem m_undo (d : Nat) (P D : HP) (M : MZ) (hP : P.length = 95) : Con d qX12_undo 0 0 [.ref 95] (mh P M D) (PI fun y h => (M.1 14 = 0 ∧ y = -3 ∧ h = mh P M D) ∨ (¬ M.1 14 = 0 ∧ y = M.1 16 ∧ ∃ A, IMU M.2.1 A ∧ h = mh P (unS M.1, A, M.2.2) D)) := by
  refine Con.of (by decide +kernel) (Nat.le_of_ble_eq_true rfl) ?_
  show Sem d qX12_undo 0 0 0 [(0, .ref 95)] [] (mh P M D) _
  refine s_aload_nr (j := 0) dX12_undo_0 rfl ?_
  refine gM_hasImage dX12_undo_1 rfl hP ?_
  refine s_if_ne dX12_undo_4 (tgt := 10) (by decide) (fun c4 => ?_) (fun c4 => ?_)
  · refine s_aload_nr (j := 0) dX12_undo_10 rfl ?_
    refine s_aload_nr (j := 0) dX12_undo_11 rfl ?_
    refine gM_imageThe dX12_undo_12 rfl hP ?_
    refine pM_the dX12_undo_15 rfl hP ?_
    refine s_aload_nr (j := 0) dX12_undo_18 rfl ?_
    refine s_aload_nr (j := 0) dX12_undo_19 rfl ?_
    refine gM_imageServers dX12_undo_20 rfl hP ?_
    refine pM_servers dX12_undo_23 rfl hP ?_
    refine s_aload_nr (j := 0) dX12_undo_26 rfl ?_
    refine s_aload_nr (j := 0) dX12_undo_27 rfl ?_
    refine gM_imageWon dX12_undo_28 rfl hP ?_
    refine pM_won dX12_undo_31 rfl hP ?_
    refine s_aload_nr (j := 0) dX12_undo_34 rfl ?_
    refine s_aload_nr (j := 0) dX12_undo_35 rfl ?_
    refine gM_imageLost dX12_undo_36 rfl hP ?_
    refine pM_lost dX12_undo_39 rfl hP ?_
    refine s_aload_nr (j := 0) dX12_undo_42 rfl ?_
    refine s_aload_nr (j := 0) dX12_undo_43 rfl ?_
    refine gM_imageStance dX12_undo_44 rfl hP ?_
    refine pM_stance dX12_undo_47 rfl hP ?_
    refine s_aload_nr (j := 0) dX12_undo_50 rfl ?_
    refine s_aload_nr (j := 0) dX12_undo_51 rfl ?_
    refine gM_imageSeen dX12_undo_52 rfl hP ?_
    refine pM_seen dX12_undo_55 rfl hP ?_
    refine s_aload_nr (j := 0) dX12_undo_58 rfl ?_
    refine s_aload_nr (j := 0) dX12_undo_59 rfl ?_
    refine gM_imageBooks dX12_undo_60 rfl hP ?_
    refine pM_books dX12_undo_63 rfl hP ?_
    refine s_iconst (v := 0) dX12_undo_66 (by decide) ?_
    refine s_istore_n dX12_undo_67 (by decide) rfl ?_
    have LA : ∀ (n : Nat) (k : Nat) (A1 : Nat → Nat → Int32), 4 - k < n → k ≤ 4 → CPX A1 M.2.1 (· + 24) 0 5 k 0 → Sem d qX12_undo 0 0 68 [(0, .ref 95), (1, .int (nI k))] [] (mh P (unS M.1, A1, M.2.2) D) (PI fun y h => (M.1 14 = 0 ∧ y = -3 ∧ h = mh P M D) ∨ (¬ M.1 14 = 0 ∧ y = M.1 16 ∧ ∃ A, IMU M.2.1 A ∧ h = mh P (unS M.1, A, M.2.2) D)) := by
      intro n
      induction n with
      | zero => intro k A1 hm; exact absurd hm (Nat.not_lt_zero _)
      | succ n iha =>
        intro k A1 hm1 hk1 hA1
        refine s_iload_n (j := 1) dX12_undo_68 rfl ?_
        refine s_iconst (v := 4) dX12_undo_69 (by decide) ?_
        refine s_icmp_ge dX12_undo_70 (tgt := 139) (by decide) (fun c70 => ?_) (fun c70 => ?_)
        · obtain rfl : k = 4 := Nat.le_antisymm hk1 ((nI_leI (a := 4) (by decide) (by omega)).mp c70)
          refine s_iconst (v := 0) dX12_undo_139 (by decide) ?_
          refine s_istore_n dX12_undo_140 (by decide) rfl ?_
          have LB : ∀ (n : Nat) (k : Nat) (A2 : Nat → Nat → Int32), 16 - k < n → k ≤ 16 → CPX A2 A1 (· + 24) 5 6 k 5 → Sem d qX12_undo 0 0 141 [(0, .ref 95), (1, .int (nI k))] [] (mh P (unS M.1, A2, M.2.2) D) (PI fun y h => (M.1 14 = 0 ∧ y = -3 ∧ h = mh P M D) ∨ (¬ M.1 14 = 0 ∧ y = M.1 16 ∧ ∃ A, IMU M.2.1 A ∧ h = mh P (unS M.1, A, M.2.2) D)) := by
            intro n
            induction n with
            | zero => intro k A2 hm; exact absurd hm (Nat.not_lt_zero _)
            | succ n ihb =>
              intro k A2 hm2 hk2 hA2
              refine s_iload_n (j := 1) dX12_undo_141 rfl ?_
              refine s_bipush (v := 16) dX12_undo_142 (by decide) ?_
              refine s_icmp_ge dX12_undo_144 (tgt := 165) (by decide) (fun c144 => ?_) (fun c144 => ?_)
              · obtain rfl : k = 16 := Nat.le_antisymm hk2 ((nI_leI (a := 16) (by decide) (by omega)).mp c144)
                refine s_iconst (v := 0) dX12_undo_165 (by decide) ?_
                refine s_istore_n dX12_undo_166 (by decide) rfl ?_
                have LC : ∀ (n : Nat) (k : Nat) (A3 : Nat → Nat → Int32), 6 - k < n → k ≤ 6 → CPX A3 A2 (· + 12) 18 20 k 18 → Sem d qX12_undo 0 0 167 [(0, .ref 95), (1, .int (nI k))] [] (mh P (unS M.1, A3, M.2.2) D) (PI fun y h => (M.1 14 = 0 ∧ y = -3 ∧ h = mh P M D) ∨ (¬ M.1 14 = 0 ∧ y = M.1 16 ∧ ∃ A, IMU M.2.1 A ∧ h = mh P (unS M.1, A, M.2.2) D)) := by
                  intro n
                  induction n with
                  | zero => intro k A3 hm; exact absurd hm (Nat.not_lt_zero _)
                  | succ n ihc =>
                    intro k A3 hm3 hk3 hA3
                    refine s_iload_n (j := 1) dX12_undo_167 rfl ?_
                    refine s_bipush (v := 6) dX12_undo_168 (by decide) ?_
                    refine s_icmp_ge dX12_undo_170 (tgt := 203) (by decide) (fun c170 => ?_) (fun c170 => ?_)
                    · obtain rfl : k = 6 := Nat.le_antisymm hk3 ((nI_leI (a := 6) (by decide) (by omega)).mp c170)
                      refine s_iconst (v := 0) dX12_undo_203 (by decide) ?_
                      refine s_istore_n dX12_undo_204 (by decide) rfl ?_
                      have LD : ∀ (n : Nat) (k : Nat) (A4 : Nat → Nat → Int32), 10 - k < n → k ≤ 10 → CPX A4 A3 (· + 12) 20 23 k 20 → Sem d qX12_undo 0 0 205 [(0, .ref 95), (1, .int (nI k))] [] (mh P (unS M.1, A4, M.2.2) D) (PI fun y h => (M.1 14 = 0 ∧ y = -3 ∧ h = mh P M D) ∨ (¬ M.1 14 = 0 ∧ y = M.1 16 ∧ ∃ A, IMU M.2.1 A ∧ h = mh P (unS M.1, A, M.2.2) D)) := by
                        intro n
                        induction n with
                        | zero => intro k A4 hm; exact absurd hm (Nat.not_lt_zero _)
                        | succ n ihd =>
                          intro k A4 hm4 hk4 hA4
                          refine s_iload_n (j := 1) dX12_undo_205 rfl ?_
                          refine s_bipush (v := 10) dX12_undo_206 (by decide) ?_
                          refine s_icmp_ge dX12_undo_208 (tgt := 253) (by decide) (fun c208 => ?_) (fun c208 => ?_)
                          · obtain rfl : k = 10 := Nat.le_antisymm hk4 ((nI_leI (a := 10) (by decide) (by omega)).mp c208)
                            refine s_aload_nr (j := 0) dX12_undo_253 rfl ?_
                            refine gM_servers dX12_undo_254 rfl hP ?_
                            exact e_iret dX12_undo_257 rfl (by exact Or.inr ⟨c4, rfl, A4, IMU.of hA1 hA2 hA3 hA4, rfl⟩)
                          · have ltk : k < 10 := Nat.lt_of_not_le fun z => c208 ((nI_leI (a := 10) (by decide) (by omega)).mpr z)
                            refine s_aload_nr (j := 0) dX12_undo_211 rfl ?_
                            refine gM_bookWho dX12_undo_212 rfl hP ?_
                            refine s_iload_n (j := 1) dX12_undo_215 rfl ?_
                            refine s_aload_nr (j := 0) dX12_undo_216 rfl ?_
                            refine gM_imageWho dX12_undo_217 rfl hP ?_
                            refine s_iload_n (j := 1) dX12_undo_220 rfl ?_
                            refine lM 33 dX12_undo_221 hP rfl (by exact vp_in_nI (by omega) (by decide)) ?_
                            refine sM_bookWho dX12_undo_222 hP (by exact vp_in_nI (by omega) (by decide)) ?_
                            refine s_aload_nr (j := 0) dX12_undo_223 rfl ?_
                            refine gM_bookOne dX12_undo_224 rfl hP ?_
                            refine s_iload_n (j := 1) dX12_undo_227 rfl ?_
                            refine s_aload_nr (j := 0) dX12_undo_228 rfl ?_
                            refine gM_imageD dX12_undo_229 rfl hP ?_
                            refine s_iload_n (j := 1) dX12_undo_232 rfl ?_
                            refine lM 34 dX12_undo_233 hP rfl (by exact vp_in_nI (by omega) (by decide)) ?_
                            refine sM_bookOne dX12_undo_234 hP (by exact vp_in_nI (by omega) (by decide)) ?_
                            refine s_aload_nr (j := 0) dX12_undo_235 rfl ?_
                            refine gM_bookTwo dX12_undo_236 rfl hP ?_
                            refine s_iload_n (j := 1) dX12_undo_239 rfl ?_
                            refine s_aload_nr (j := 0) dX12_undo_240 rfl ?_
                            refine gM_imageE dX12_undo_241 rfl hP ?_
                            refine s_iload_n (j := 1) dX12_undo_244 rfl ?_
                            refine lM 35 dX12_undo_245 hP rfl (by exact vp_in_nI (by omega) (by decide)) ?_
                            refine sM_bookTwo dX12_undo_246 hP (by exact vp_in_nI (by omega) (by decide)) ?_
                            refine s_iinc (j := 1) (v := _ + (1)) dX12_undo_247 rfl rfl (by decide) rfl ?_
                            refine s_goto dX12_undo_250 (tgt := 205) (by decide) ?_
                            refine s_locals [1, 0] rfl ?_
                            rw [nI_1]
                            have ek : (nI k).toNatClampNeg = k := nI_clamp (by omega)
                            rw [ek]
                            exact ihd (k + 1) _ (by omega) (by omega) (((hA4.put (by decide) (by decide) (show A4 32 k = _ from hA4.src (by decide) k)).put (by decide) (by decide) (show A4 33 k = _ from hA4.src (by decide) k)).put (by decide) (by decide) (show A4 34 k = _ from hA4.src (by decide) k)).nxt
                      refine s_locals [1, 0] rfl ?_
                      exact LD 11 0 A3 (by decide) (Nat.zero_le _) (CPX.beg _ _ _ _)
                    · have ltk : k < 6 := Nat.lt_of_not_le fun z => c170 ((nI_leI (a := 6) (by decide) (by omega)).mpr z)
                      refine s_aload_nr (j := 0) dX12_undo_173 rfl ?_
                      refine gM_seenOne dX12_undo_174 rfl hP ?_
                      refine s_iload_n (j := 1) dX12_undo_177 rfl ?_
                      refine s_aload_nr (j := 0) dX12_undo_178 rfl ?_
                      refine gM_imageOne dX12_undo_179 rfl hP ?_
                      refine s_iload_n (j := 1) dX12_undo_182 rfl ?_
                      refine lM 31 dX12_undo_183 hP rfl (by exact vp_in_nI (by omega) (by decide)) ?_
                      refine sM_seenOne dX12_undo_184 hP (by exact vp_in_nI (by omega) (by decide)) ?_
                      refine s_aload_nr (j := 0) dX12_undo_185 rfl ?_
                      refine gM_seenTwo dX12_undo_186 rfl hP ?_
                      refine s_iload_n (j := 1) dX12_undo_189 rfl ?_
                      refine s_aload_nr (j := 0) dX12_undo_190 rfl ?_
                      refine gM_imageTwo dX12_undo_191 rfl hP ?_
                      refine s_iload_n (j := 1) dX12_undo_194 rfl ?_
                      refine lM 32 dX12_undo_195 hP rfl (by exact vp_in_nI (by omega) (by decide)) ?_
                      refine sM_seenTwo dX12_undo_196 hP (by exact vp_in_nI (by omega) (by decide)) ?_
                      refine s_iinc (j := 1) (v := _ + (1)) dX12_undo_197 rfl rfl (by decide) rfl ?_
                      refine s_goto dX12_undo_200 (tgt := 167) (by decide) ?_
                      refine s_locals [1, 0] rfl ?_
                      rw [nI_1]
                      have ek : (nI k).toNatClampNeg = k := nI_clamp (by omega)
                      rw [ek]
                      exact ihc (k + 1) _ (by omega) (by omega) ((hA3.put (by decide) (by decide) (show A3 30 k = _ from hA3.src (by decide) k)).put (by decide) (by decide) (show A3 31 k = _ from hA3.src (by decide) k)).nxt
                refine s_locals [1, 0] rfl ?_
                exact LC 7 0 A2 (by decide) (Nat.zero_le _) (CPX.beg _ _ _ _)
              · have ltk : k < 16 := Nat.lt_of_not_le fun z => c144 ((nI_leI (a := 16) (by decide) (by omega)).mpr z)
                refine s_aload_nr (j := 0) dX12_undo_147 rfl ?_
                refine gM_rows dX12_undo_148 rfl hP ?_
                refine s_iload_n (j := 1) dX12_undo_151 rfl ?_
                refine s_aload_nr (j := 0) dX12_undo_152 rfl ?_
                refine gM_imageRows dX12_undo_153 rfl hP ?_
                refine s_iload_n (j := 1) dX12_undo_156 rfl ?_
                refine lM 30 dX12_undo_157 hP rfl (by exact vp_in_nI (by omega) (by decide)) ?_
                refine sM_rows dX12_undo_158 hP (by exact vp_in_nI (by omega) (by decide)) ?_
                refine s_iinc (j := 1) (v := _ + (1)) dX12_undo_159 rfl rfl (by decide) rfl ?_
                refine s_goto dX12_undo_162 (tgt := 141) (by decide) ?_
                refine s_locals [1, 0] rfl ?_
                rw [nI_1]
                have ek : (nI k).toNatClampNeg = k := nI_clamp (by omega)
                rw [ek]
                exact ihb (k + 1) _ (by omega) (by omega) (hA2.put (by decide) (by decide) (show A2 29 k = _ from hA2.src (by decide) k)).nxt
          refine s_locals [1, 0] rfl ?_
          exact LB 17 0 A1 (by decide) (Nat.zero_le _) (CPX.beg _ _ _ _)
        · have ltk : k < 4 := Nat.lt_of_not_le fun z => c70 ((nI_leI (a := 4) (by decide) (by omega)).mpr z)
          refine s_aload_nr (j := 0) dX12_undo_73 rfl ?_
          refine gM_kind dX12_undo_74 rfl hP ?_
          refine s_iload_n (j := 1) dX12_undo_77 rfl ?_
          refine s_aload_nr (j := 0) dX12_undo_78 rfl ?_
          refine gM_imageKind dX12_undo_79 rfl hP ?_
          refine s_iload_n (j := 1) dX12_undo_82 rfl ?_
          refine lM 25 dX12_undo_83 hP rfl (by exact vp_in_nI (by omega) (by decide)) ?_
          refine sM_kind dX12_undo_84 hP (by exact vp_in_nI (by omega) (by decide)) ?_
          refine s_aload_nr (j := 0) dX12_undo_85 rfl ?_
          refine gM_v dX12_undo_86 rfl hP ?_
          refine s_iload_n (j := 1) dX12_undo_89 rfl ?_
          refine s_aload_nr (j := 0) dX12_undo_90 rfl ?_
          refine gM_imageV dX12_undo_91 rfl hP ?_
          refine s_iload_n (j := 1) dX12_undo_94 rfl ?_
          refine lM 26 dX12_undo_95 hP rfl (by exact vp_in_nI (by omega) (by decide)) ?_
          refine sM_v dX12_undo_96 hP (by exact vp_in_nI (by omega) (by decide)) ?_
          refine s_aload_nr (j := 0) dX12_undo_97 rfl ?_
          refine gM_hard dX12_undo_98 rfl hP ?_
          refine s_iload_n (j := 1) dX12_undo_101 rfl ?_
          refine s_aload_nr (j := 0) dX12_undo_102 rfl ?_
          refine gM_imageHard dX12_undo_103 rfl hP ?_
          refine s_iload_n (j := 1) dX12_undo_106 rfl ?_
          refine lM 27 dX12_undo_107 hP rfl (by exact vp_in_nI (by omega) (by decide)) ?_
          refine sM_hard dX12_undo_108 hP (by exact vp_in_nI (by omega) (by decide)) ?_
          refine s_aload_nr (j := 0) dX12_undo_109 rfl ?_
          refine gM_soft dX12_undo_110 rfl hP ?_
          refine s_iload_n (j := 1) dX12_undo_113 rfl ?_
          refine s_aload_nr (j := 0) dX12_undo_114 rfl ?_
          refine gM_imageSoft dX12_undo_115 rfl hP ?_
          refine s_iload_n (j := 1) dX12_undo_118 rfl ?_
          refine lM 28 dX12_undo_119 hP rfl (by exact vp_in_nI (by omega) (by decide)) ?_
          refine sM_soft dX12_undo_120 hP (by exact vp_in_nI (by omega) (by decide)) ?_
          refine s_aload_nr (j := 0) dX12_undo_121 rfl ?_
          refine gM_served dX12_undo_122 rfl hP ?_
          refine s_iload_n (j := 1) dX12_undo_125 rfl ?_
          refine s_aload_nr (j := 0) dX12_undo_126 rfl ?_
          refine gM_imageServed dX12_undo_127 rfl hP ?_
          refine s_iload_n (j := 1) dX12_undo_130 rfl ?_
          refine lM 29 dX12_undo_131 hP rfl (by exact vp_in_nI (by omega) (by decide)) ?_
          refine sM_served dX12_undo_132 hP (by exact vp_in_nI (by omega) (by decide)) ?_
          refine s_iinc (j := 1) (v := _ + (1)) dX12_undo_133 rfl rfl (by decide) rfl ?_
          refine s_goto dX12_undo_136 (tgt := 68) (by decide) ?_
          refine s_locals [1, 0] rfl ?_
          rw [nI_1]
          have ek : (nI k).toNatClampNeg = k := nI_clamp (by omega)
          rw [ek]
          exact iha (k + 1) _ (by omega) (by omega) (((((hA1.put (by decide) (by decide) (show A1 24 k = _ from hA1.src (by decide) k)).put (by decide) (by decide) (show A1 25 k = _ from hA1.src (by decide) k)).put (by decide) (by decide) (show A1 26 k = _ from hA1.src (by decide) k)).put (by decide) (by decide) (show A1 27 k = _ from hA1.src (by decide) k)).put (by decide) (by decide) (show A1 28 k = _ from hA1.src (by decide) k)).nxt
    refine s_locals [1, 0] rfl ?_
    exact LA 5 0 M.2.1 (by decide) (Nat.zero_le _) (CPX.beg _ _ _ _)
  · refine s_bipush (v := -3) dX12_undo_7 (by decide) ?_
    exact e_iret dX12_undo_9 rfl (by exact Or.inl ⟨c4, rfl, rfl⟩)

set_option maxRecDepth 100000 in
set_option maxHeartbeats 800000 in
theorem m_act (d : Nat) (P D : HP) (M : MZ) (hP : P.length = 95) (i a x : Int32) (hz : 0 ≤ M.1 0 ∧ M.1 0 ≤ 4) : Con (d + 8) qX12_act 0 0 [.ref 95, .int i, .int a, .int x] (mh P M D) (PI fun y h => y = (sp_act M i a x).1 ∧ ∃ g, TRo (sp_act M i a x).2 g ∧ h = mh P (mtr M (sp_act M i a x).2 g) D) := by
  refine Con.of (by decide +kernel) (Nat.le_of_ble_eq_true rfl) ?_
  show Sem (d + 8) qX12_act 0 0 0 [(0, .ref 95), (1, .int i), (2, .int a), (3, .int x)] [] (mh P M D) _
  refine s_aload_nr (j := 0) dX12_act_0 rfl ?_
  refine s_iconst (v := 0) dX12_act_1 (by decide) ?_
  refine pM_ran dX12_act_2 rfl hP ?_
  rw [mtr_nil]
  refine s_aload_nr (j := 0) dX12_act_5 rfl ?_
  refine s_iload_n (j := 1) dX12_act_6 rfl ?_
  refine s_V1i cv_X12_211 rfl dX12_act_7 (mh_get (k := 0) hP rfl) rfl (Nat.le_of_ble_eq_true rfl) (m_isServer _ P D _ hP _) (fun y7 h7 q7 => ?_)
  obtain ⟨rfl, rfl⟩ := q7
  refine s_if_eq dX12_act_10 (tgt := 23) (by decide) (fun c10 => ?_) (fun c10 => ?_)
  · replace c10 := b2i_0.mp c10
    try have c10 : ¬ isS M i := c10
    refine s_iconst (v := 0) dX12_act_23 (by decide) ?_
    exact e_iret dX12_act_24 rfl (by unfold sp_act; first | rw [if_neg c10]; exact ⟨rfl, _, (fun j h _ => absurd h (Nat.not_lt_zero _)), rfl⟩ | rw [if_pos c10, if_neg c20]; exact ⟨rfl, _, (fun j h _ => absurd h (Nat.not_lt_zero _)), rfl⟩)
  · replace c10 := b2i_n0.mp c10
    have c10 : isS M i := c10
    refine s_aload_nr (j := 0) dX12_act_13 rfl ?_
    refine s_iload_n (j := 2) dX12_act_14 rfl ?_
    refine s_iconst (v := 0) dX12_act_15 (by decide) ?_
    refine s_iconst (v := 2) dX12_act_16 (by decide) ?_
    refine s_V3i cv_X12_203 rfl dX12_act_17 (mh_get (k := 0) hP rfl) rfl (Nat.le_of_ble_eq_true rfl) (m_in _ P D _ hP _ _ _) (fun y17 h17 q17 => ?_)
    obtain ⟨rfl, rfl⟩ := q17
    refine s_if_ne dX12_act_20 (tgt := 25) (by decide) (fun c20 => ?_) (fun c20 => ?_)
    · replace c20 := b2i_n0.mp c20
      refine s_iload_n (j := 2) dX12_act_25 rfl ?_
      refine s_if_ne dX12_act_26 (tgt := 38) (by decide) (fun c26 => ?_) (fun c26 => ?_)
      · refine s_iload_n (j := 2) dX12_act_38 rfl ?_
        refine s_iconst (v := 1) dX12_act_39 (by decide) ?_
        refine s_icmp_ne dX12_act_40 (tgt := 52) (by decide) (fun c40 => ?_) (fun c40 => ?_)
        · refine s_aload_nr (j := 0) dX12_act_52 rfl ?_
          refine s_iload_n (j := 1) dX12_act_53 rfl ?_
          refine s_iload_n (j := 3) dX12_act_54 rfl ?_
          refine s_V2i cv_X12_363 rfl dX12_act_55 (mh_get (k := 0) hP rfl) rfl (Nat.le_of_ble_eq_true rfl) (m_L _ P D M hP [] (M.2.1 35) (fun j h _ => absurd h (Nat.not_lt_zero _)) (by decide) i x (in4_of hz c10)) (fun y55 h55 q55 => ?_)
          obtain ⟨rfl, g55, hg55, rfl⟩ := q55
          exact e_iret dX12_act_58 rfl (by unfold sp_act; rw [if_pos c10, if_pos c20, if_neg c26, if_neg c40]; exact ⟨rfl, g55, hg55, rfl⟩)
        · refine s_aload_nr (j := 0) dX12_act_43 rfl ?_
          refine s_iload_n (j := 1) dX12_act_44 rfl ?_
          refine s_iload_n (j := 3) dX12_act_45 rfl ?_
          refine s_V2i cv_X12_357 rfl dX12_act_46 (mh_get (k := 0) hP rfl) rfl (Nat.le_of_ble_eq_true rfl) (m_S _ P D M hP [] (M.2.1 35) (fun j h _ => absurd h (Nat.not_lt_zero _)) (by decide) i x (in4_of hz c10)) (fun y46 h46 q46 => ?_)
          obtain ⟨rfl, g46, hg46, rfl⟩ := q46
          refine s_goto dX12_act_49 (tgt := 58) (by decide) ?_
          exact e_iret dX12_act_58 rfl (by unfold sp_act; rw [if_pos c10, if_pos c20, if_neg c26, if_pos c40]; exact ⟨rfl, g46, hg46, rfl⟩)
      · refine s_aload_nr (j := 0) dX12_act_29 rfl ?_
        refine s_iload_n (j := 1) dX12_act_30 rfl ?_
        refine s_iload_n (j := 3) dX12_act_31 rfl ?_
        refine s_V2i cv_X12_348 rfl dX12_act_32 (mh_get (k := 0) hP rfl) rfl (Nat.le_of_ble_eq_true rfl) (m_T _ P D M hP [] (M.2.1 35) (fun j h _ => absurd h (Nat.not_lt_zero _)) (by decide) i x (in4_of hz c10)) (fun y32 h32 q32 => ?_)
        obtain ⟨rfl, g32, hg32, rfl⟩ := q32
        refine s_goto dX12_act_35 (tgt := 58) (by decide) ?_
        exact e_iret dX12_act_58 rfl (by unfold sp_act; rw [if_pos c10, if_pos c20, if_pos c26]; exact ⟨rfl, g32, hg32, rfl⟩)
    · replace c20 := b2i_0.mp c20
      try have c10 : ¬ isS M i := c10
      refine s_iconst (v := 0) dX12_act_23 (by decide) ?_
      exact e_iret dX12_act_24 rfl (by unfold sp_act; first | rw [if_neg c10]; exact ⟨rfl, _, (fun j h _ => absurd h (Nat.not_lt_zero _)), rfl⟩ | rw [if_pos c10, if_neg c20]; exact ⟨rfl, _, (fun j h _ => absurd h (Nat.not_lt_zero _)), rfl⟩)
