set_option maxRecDepth 100000 in
set_option maxHeartbeats 800000 in
theorem m_looked (d : Nat) (P D : HP) (M s : MZ) (hP : P.length = 95) (hs : ∀ i, i < 4 → 0 ≤ M.2.1 4 i) (cl : CLs) (hcl : CN M cl) (h13 : bw (M.1 13) 10) (hbk : ∀ j, j < pz (M.1 13) → vp_in (M.2.1 20 j) 4) : Con (d + 5) qX12_looked 0 0 [.ref 95] (mh P (scr M s) D) (XT P D (lkT cl M (pz (M.1 13)) 0) M) := by
  refine Con.of (by decide +kernel) (Nat.le_of_ble_eq_true rfl) ?_
  show Sem (d + 5) qX12_looked 0 0 0 [(0, .ref 95)] [] (mh P (scr M s) D) _
  rw [show mh P (scr M s) D = mh P (scr M (mra s 15 (s.2.1 15))) D by rw [mra_id]]
  generalize s.2.1 15 = g0
  obtain ⟨K, hK, eK⟩ := h13
  have pK : pz (M.1 13) = K := by rw [eK]; exact nI_clamp (by omega)
  rw [pK] at hbk
  refine s_aload_nr (j := 0) dX12_looked_0 rfl ?_
  refine gS_won dX12_looked_1 rfl hP ?_
  refine s_istore_n dX12_looked_4 (by decide) rfl ?_
  refine s_aload_nr (j := 1) dX12_looked_5 rfl ?_
  refine gS_lost dX12_looked_6 rfl hP ?_
  refine s_istore_n dX12_looked_9 (by decide) rfl ?_
  refine s_iconst (v := 0) dX12_looked_10 (by decide) ?_
  refine s_istore_n dX12_looked_11 (by decide) rfl ?_
  have LA : ∀ (n : Nat) (r : Nat) (kf : Nat → Int32), 4 - r < n → r ≤ 4 → (∀ j, j < r → kf j = M.2.1 4 j) → Sem (d + 5) qX12_looked 0 0 12 [(0, .ref 95), (1, .int (M.1 1)), (2, .int (M.1 2)), (3, .int (nI r))] [] (mh P (scr M (mra (mra s 23 kf) 15 g0)) D) (XT P D (lkT cl M (pz (M.1 13)) 0) M) := by
    intro n
    induction n with
    | zero => intro r kf hm; exact absurd hm (Nat.not_lt_zero _)
    | succ n iha =>
      intro r kf hma h1 hkf
      refine s_iload_n (j := 3) dX12_looked_12 rfl ?_
      refine s_iconst (v := 4) dX12_looked_13 (by decide) ?_
      refine s_icmp_ge dX12_looked_14 (tgt := 35) (by decide) (fun c14 => ?_) (fun c14 => ?_)
      · obtain rfl : r = 4 := Nat.le_antisymm h1 ((nI_leI (a := 4) (by decide) (by omega)).mp c14)
        refine s_bipush (v := -5) dX12_looked_35 (by decide) ?_
        refine s_istore_n dX12_looked_37 (by decide) rfl ?_
        refine s_iconst (v := 0) dX12_looked_38 (by decide) ?_
        refine s_istore dX12_looked_39 (by decide) rfl ?_
        have LB : ∀ (n : Nat) (k : Nat) (a b : Int32) (f g : Nat → Int32) (fd : Int32), K - k < n → k ≤ K → (∀ j, j < 4 → 0 ≤ f j) → (∀ j, 4 ≤ j → f j = M.2.1 4 j) → LKI M cl (mlk M a b f) K k fd → Sem (d + 5) qX12_looked 0 0 41 [(0, .ref 95), (1, .int (M.1 1)), (2, .int (M.1 2)), (3, .int fd), (4, .int (nI k))] [] (mh P (scr (mlk M a b f) (mra (mra s 23 kf) 15 g)) D) (XT P D (lkT cl M (pz (M.1 13)) 0) M) := by
          intro n
          induction n with
          | zero => intro k a b f g fd hm; exact absurd hm (Nat.not_lt_zero _)
          | succ n ihb =>
            intro k a b f g fd hmb h1 h3 h4 h2
            refine s_iload (j := 4) dX12_looked_41 rfl ?_
            refine s_aload_nr (j := 0) dX12_looked_43 rfl ?_
            refine gS_books dX12_looked_44 rfl hP ?_
            refine s_icmp_ge dX12_looked_47 (tgt := 113) (by decide) (fun c47 => ?_) (fun c47 => ?_)
            · have efd : fd = lkT cl M K 0 := by
                rw [show (mlk M a b f).1 13 = nI K from eK] at c47
                obtain rfl : K = k := (Nat.le_antisymm h1 ((nI_leI (by omega) (by omega)).mp c47)).symm
                exact h2.out
              refine s_aload_nr (j := 0) dX12_looked_113 rfl ?_
              refine s_iload_n (j := 1) dX12_looked_114 rfl ?_
              refine pS_won dX12_looked_115 rfl hP ?_
              refine s_aload_nr (j := 0) dX12_looked_118 rfl ?_
              refine s_iload_n (j := 2) dX12_looked_119 rfl ?_
              refine pS_lost dX12_looked_120 rfl hP ?_
              rw [mlk_wl, show mlk M (M.1 1) (M.1 2) f = mra M 4 f by unfold mlk; rw [wl_id]]
              refine s_iconst (v := 0) dX12_looked_123 (by decide) ?_
              refine s_istore dX12_looked_124 (by decide) rfl ?_
              have LC : ∀ (n : Nat) (r : Nat) (f : Nat → Int32), 4 - r < n → r ≤ 4 → (∀ j, j < r ∨ 4 ≤ j → f j = M.2.1 4 j) → Sem (d + 5) qX12_looked 0 0 126 [(0, .ref 95), (1, .int (M.1 1)), (2, .int (M.1 2)), (3, .int fd), (4, .int (nI r))] [] (mh P (scr (mra M 4 f) (mra (mra s 23 kf) 15 g)) D) (XT P D (lkT cl M (pz (M.1 13)) 0) M) := by
                intro n
                induction n with
                | zero => intro r f hm; exact absurd hm (Nat.not_lt_zero _)
                | succ n ihc =>
                  intro r f hmc h5 h6
                  refine s_iload (j := 4) dX12_looked_126 rfl ?_
                  refine s_iconst (v := 4) dX12_looked_128 (by decide) ?_
                  refine s_icmp_ge dX12_looked_129 (tgt := 152) (by decide) (fun c129 => ?_) (fun c129 => ?_)
                  · obtain rfl : r = 4 := Nat.le_antisymm h5 ((nI_leI (a := 4) (by decide) (by omega)).mp c129)
                    have ef : f = M.2.1 4 := by
                      funext j
                      exact h6 j (by omega)
                    rw [ef, mra_id]
                    refine s_iload_n (j := 3) dX12_looked_152 rfl ?_
                    exact e_iret dX12_looked_153 rfl (by exact ⟨by rw [pK]; exact efd, _, rfl⟩)
                  · have hr : r < 4 := Nat.lt_of_not_le fun z => c129 ((nI_leI (a := 4) (by decide) (by omega)).mpr z)
                    refine s_aload_nr (j := 0) dX12_looked_132 rfl ?_
                    refine gS_served dX12_looked_133 rfl hP ?_
                    refine s_iload (j := 4) dX12_looked_136 rfl ?_
                    refine s_aload_nr (j := 0) dX12_looked_138 rfl ?_
                    refine gS_keptServed dX12_looked_139 rfl hP ?_
                    refine s_iload (j := 4) dX12_looked_142 rfl ?_
                    refine lS_keptServed dX12_looked_144 hP (by exact vp_in_nI (by omega) (by decide)) ?_
                    refine sS_served dX12_looked_145 hP (by exact vp_in_nI (by omega) (by decide)) ?_
                    refine s_iinc (j := 4) (v := _ + (1)) dX12_looked_146 rfl rfl (by decide) rfl ?_
                    refine s_goto dX12_looked_149 (tgt := 126) (by decide) ?_
                    refine s_locals [1, 2, 3, 4, 0] rfl ?_
                    rw [nI_1, mra_sa]
                    have er : pz (nI r) = r := nI_clamp (by omega)
                    rw [er, show (mra (mra s 23 kf) 15 g).2.1 23 r = kf r from rfl, hkf r (by omega)]
                    exact ihc (r + 1) _ (by omega) (by omega) (fun j hj => by simp only [upd]; split; (rename_i e; rw [e]); exact h6 j (by omega))
              refine s_locals [1, 2, 3, 4, 0] rfl ?_
              exact LC 5 0 f (by decide) (Nat.zero_le _) (fun j hj => h4 j (by omega))
            · have hk : k < K := Nat.lt_of_not_le fun z => c47 (by rw [show (mlk M a b f).1 13 = nI K from eK]; exact (nI_leI (by omega) (by omega)).mpr z)
              have hp := hbk k hk
              refine s_iload_n (j := 3) dX12_looked_50 rfl ?_
              refine s_if_ge dX12_looked_51 (tgt := 113) (by decide) (fun c51 => ?_) (fun c51 => ?_)
              · have efd : fd = lkT cl M K 0 := h2.outf c51
                refine s_aload_nr (j := 0) dX12_looked_113 rfl ?_
                refine s_iload_n (j := 1) dX12_looked_114 rfl ?_
                refine pS_won dX12_looked_115 rfl hP ?_
                refine s_aload_nr (j := 0) dX12_looked_118 rfl ?_
                refine s_iload_n (j := 2) dX12_looked_119 rfl ?_
                refine pS_lost dX12_looked_120 rfl hP ?_
                rw [mlk_wl, show mlk M (M.1 1) (M.1 2) f = mra M 4 f by unfold mlk; rw [wl_id]]
                refine s_iconst (v := 0) dX12_looked_123 (by decide) ?_
                refine s_istore dX12_looked_124 (by decide) rfl ?_
                have LC : ∀ (n : Nat) (r : Nat) (f : Nat → Int32), 4 - r < n → r ≤ 4 → (∀ j, j < r ∨ 4 ≤ j → f j = M.2.1 4 j) → Sem (d + 5) qX12_looked 0 0 126 [(0, .ref 95), (1, .int (M.1 1)), (2, .int (M.1 2)), (3, .int fd), (4, .int (nI r))] [] (mh P (scr (mra M 4 f) (mra (mra s 23 kf) 15 g)) D) (XT P D (lkT cl M (pz (M.1 13)) 0) M) := by
                  intro n
                  induction n with
                  | zero => intro r f hm; exact absurd hm (Nat.not_lt_zero _)
                  | succ n ihc =>
                    intro r f hmc h5 h6
                    refine s_iload (j := 4) dX12_looked_126 rfl ?_
                    refine s_iconst (v := 4) dX12_looked_128 (by decide) ?_
                    refine s_icmp_ge dX12_looked_129 (tgt := 152) (by decide) (fun c129 => ?_) (fun c129 => ?_)
                    · obtain rfl : r = 4 := Nat.le_antisymm h5 ((nI_leI (a := 4) (by decide) (by omega)).mp c129)
                      have ef : f = M.2.1 4 := by
                        funext j
                        exact h6 j (by omega)
                      rw [ef, mra_id]
                      refine s_iload_n (j := 3) dX12_looked_152 rfl ?_
                      exact e_iret dX12_looked_153 rfl (by exact ⟨by rw [pK]; exact efd, _, rfl⟩)
                    · have hr : r < 4 := Nat.lt_of_not_le fun z => c129 ((nI_leI (a := 4) (by decide) (by omega)).mpr z)
                      refine s_aload_nr (j := 0) dX12_looked_132 rfl ?_
                      refine gS_served dX12_looked_133 rfl hP ?_
                      refine s_iload (j := 4) dX12_looked_136 rfl ?_
                      refine s_aload_nr (j := 0) dX12_looked_138 rfl ?_
                      refine gS_keptServed dX12_looked_139 rfl hP ?_
                      refine s_iload (j := 4) dX12_looked_142 rfl ?_
                      refine lS_keptServed dX12_looked_144 hP (by exact vp_in_nI (by omega) (by decide)) ?_
                      refine sS_served dX12_looked_145 hP (by exact vp_in_nI (by omega) (by decide)) ?_
                      refine s_iinc (j := 4) (v := _ + (1)) dX12_looked_146 rfl rfl (by decide) rfl ?_
                      refine s_goto dX12_looked_149 (tgt := 126) (by decide) ?_
                      refine s_locals [1, 2, 3, 4, 0] rfl ?_
                      rw [nI_1, mra_sa]
                      have er : pz (nI r) = r := nI_clamp (by omega)
                      rw [er, show (mra (mra s 23 kf) 15 g).2.1 23 r = kf r from rfl, hkf r (by omega)]
                      exact ihc (r + 1) _ (by omega) (by omega) (fun j hj => by simp only [upd]; split; (rename_i e; rw [e]); exact h6 j (by omega))
                refine s_locals [1, 2, 3, 4, 0] rfl ?_
                exact LC 5 0 f (by decide) (Nat.zero_le _) (fun j hj => h4 j (by omega))
              · refine s_aload_nr (j := 0) dX12_looked_54 rfl ?_
                refine s_V0i cv_X12_302 rfl dX12_looked_55 (mh_get (k := 0) hP rfl) rfl (Nat.le_of_ble_eq_true rfl) (n_isOver _ P D _ _ hP) (fun y55 h55 q55 => ?_)
                obtain ⟨rfl, rfl⟩ := q55
                refine s_if_eq dX12_looked_58 (tgt := 71) (by decide) (fun c58 => ?_) (fun c58 => ?_)
                · replace c58 := b2i_0.mp c58
                  try rw [mlk_wl]
                  refine s_aload_nr (j := 0) dX12_looked_71 rfl ?_
                  refine s_aload_nr (j := 0) dX12_looked_72 rfl ?_
                  refine gS_bookWho dX12_looked_73 rfl hP ?_
                  refine s_iload (j := 4) dX12_looked_76 rfl ?_
                  refine lS_bookWho dX12_looked_78 hP (by exact vp_in_nI (by omega) (by decide)) ?_
                  refine s_aload_nr (j := 0) dX12_looked_79 rfl ?_
                  refine gS_bookOne dX12_looked_80 rfl hP ?_
                  refine s_iload (j := 4) dX12_looked_83 rfl ?_
                  refine lS_bookOne dX12_looked_85 hP (by exact vp_in_nI (by omega) (by decide)) ?_
                  refine s_aload_nr (j := 0) dX12_looked_86 rfl ?_
                  refine gS_bookTwo dX12_looked_87 rfl hP ?_
                  refine s_iload (j := 4) dX12_looked_90 rfl ?_
                  refine lS_bookTwo dX12_looked_92 hP (by exact vp_in_nI (by omega) (by decide)) ?_
                  rw [show pz (nI k) = k from nI_clamp (by omega)]
                  refine s_V3i cv_X12_305 rfl dX12_looked_93 (mh_get (k := 0) hP rfl) rfl (Nat.le_of_ble_eq_true rfl) (m_goPoint _ P D _ _ hP (M.2.1 20 k) (M.2.1 21 k) (M.2.1 22 k) hp cl (hcl.cg rfl (fun j h7 h8 => if_neg (by omega))) h3) (fun y93 h93 q93 => ?_)
                  obtain ⟨rfl, g93, rfl⟩ := q93
                  try rw [mra_2]
                  refine s_if_eq dX12_looked_96 (tgt := 104) (by decide) (fun c96 => ?_) (fun c96 => ?_)
                  · replace c96 := b2i_0.mp c96
                    refine s_iload (j := 4) dX12_looked_104 rfl ?_
                    refine s_istore_n dX12_looked_106 (by decide) rfl ?_
                    refine s_iinc (j := 4) (v := _ + (1)) dX12_looked_107 rfl rfl (by decide) rfl ?_
                    refine s_goto dX12_looked_110 (tgt := 41) (by decide) ?_
                    refine s_locals [2, 3, 4, 1, 0] rfl ?_
                    obtain ⟨x1, x2, ego⟩ := mlk_go M a b f (M.2.1 20 k) (goW (mlk M a b f) cl (M.2.1 20 k) (M.2.1 21 k) (M.2.1 22 k))
                    rw [ego, nI_1]
                    exact ihb (k + 1) x1 x2 _ _ _ (by omega) (by omega) (fun j hj => by simp only [upd]; split; exact up_nn (h3 _ (pz_lt hp)); exact h3 j hj) (fun j hj => by have := pz_lt hp; simp only [upd]; rw [if_neg (by omega)]; exact h4 j hj) (h2.los c51 hk hK (show lkN (mlk M a b f) = mlk M a b f by rw [lkN, if_neg (show ¬ ovr (mlk M a b f) from c58)]) c96)
                  · replace c96 := b2i_n0.mp c96
                    refine s_bipush (v := -5) dX12_looked_99 (by decide) ?_
                    refine s_goto dX12_looked_101 (tgt := 106) (by decide) ?_
                    refine s_istore_n dX12_looked_106 (by decide) rfl ?_
                    refine s_iinc (j := 4) (v := _ + (1)) dX12_looked_107 rfl rfl (by decide) rfl ?_
                    refine s_goto dX12_looked_110 (tgt := 41) (by decide) ?_
                    refine s_locals [2, 3, 4, 1, 0] rfl ?_
                    obtain ⟨x1, x2, ego⟩ := mlk_go M a b f (M.2.1 20 k) (goW (mlk M a b f) cl (M.2.1 20 k) (M.2.1 21 k) (M.2.1 22 k))
                    rw [ego, nI_1]
                    exact ihb (k + 1) x1 x2 _ _ _ (by omega) (by omega) (fun j hj => by simp only [upd]; split; exact up_nn (h3 _ (pz_lt hp)); exact h3 j hj) (fun j hj => by have := pz_lt hp; simp only [upd]; rw [if_neg (by omega)]; exact h4 j hj) (by rw [← ego, c96]; exact h2.win c51 hk hK (show lkN (mlk M a b f) = mlk M a b f by rw [lkN, if_neg (show ¬ ovr (mlk M a b f) from c58)]) c96)
                · replace c58 := b2i_n0.mp c58
                  refine s_aload_nr (j := 0) dX12_looked_61 rfl ?_
                  refine s_iconst (v := 0) dX12_looked_62 (by decide) ?_
                  refine pS_won dX12_looked_63 rfl hP ?_
                  refine s_aload_nr (j := 0) dX12_looked_66 rfl ?_
                  refine s_iconst (v := 0) dX12_looked_67 (by decide) ?_
                  refine pS_lost dX12_looked_68 rfl hP ?_
                  try rw [mlk_wl]
                  refine s_aload_nr (j := 0) dX12_looked_71 rfl ?_
                  refine s_aload_nr (j := 0) dX12_looked_72 rfl ?_
                  refine gS_bookWho dX12_looked_73 rfl hP ?_
                  refine s_iload (j := 4) dX12_looked_76 rfl ?_
                  refine lS_bookWho dX12_looked_78 hP (by exact vp_in_nI (by omega) (by decide)) ?_
                  refine s_aload_nr (j := 0) dX12_looked_79 rfl ?_
                  refine gS_bookOne dX12_looked_80 rfl hP ?_
                  refine s_iload (j := 4) dX12_looked_83 rfl ?_
                  refine lS_bookOne dX12_looked_85 hP (by exact vp_in_nI (by omega) (by decide)) ?_
                  refine s_aload_nr (j := 0) dX12_looked_86 rfl ?_
                  refine gS_bookTwo dX12_looked_87 rfl hP ?_
                  refine s_iload (j := 4) dX12_looked_90 rfl ?_
                  refine lS_bookTwo dX12_looked_92 hP (by exact vp_in_nI (by omega) (by decide)) ?_
                  rw [show pz (nI k) = k from nI_clamp (by omega)]
                  refine s_V3i cv_X12_305 rfl dX12_looked_93 (mh_get (k := 0) hP rfl) rfl (Nat.le_of_ble_eq_true rfl) (m_goPoint _ P D _ _ hP (M.2.1 20 k) (M.2.1 21 k) (M.2.1 22 k) hp cl (hcl.cg rfl (fun j h7 h8 => if_neg (by omega))) h3) (fun y93 h93 q93 => ?_)
                  obtain ⟨rfl, g93, rfl⟩ := q93
                  try rw [mra_2]
                  refine s_if_eq dX12_looked_96 (tgt := 104) (by decide) (fun c96 => ?_) (fun c96 => ?_)
                  · replace c96 := b2i_0.mp c96
                    refine s_iload (j := 4) dX12_looked_104 rfl ?_
                    refine s_istore_n dX12_looked_106 (by decide) rfl ?_
                    refine s_iinc (j := 4) (v := _ + (1)) dX12_looked_107 rfl rfl (by decide) rfl ?_
                    refine s_goto dX12_looked_110 (tgt := 41) (by decide) ?_
                    refine s_locals [2, 3, 4, 1, 0] rfl ?_
                    obtain ⟨x1, x2, ego⟩ := mlk_go M 0 0 f (M.2.1 20 k) (goW (mlk M 0 0 f) cl (M.2.1 20 k) (M.2.1 21 k) (M.2.1 22 k))
                    rw [ego, nI_1]
                    exact ihb (k + 1) x1 x2 _ _ _ (by omega) (by omega) (fun j hj => by simp only [upd]; split; exact up_nn (h3 _ (pz_lt hp)); exact h3 j hj) (fun j hj => by have := pz_lt hp; simp only [upd]; rw [if_neg (by omega)]; exact h4 j hj) (h2.los c51 hk hK (show lkN (mlk M a b f) = mlk M 0 0 f by rw [lkN, if_pos (show ovr (mlk M a b f) from c58), mlk_wl]) c96)
                  · replace c96 := b2i_n0.mp c96
                    refine s_bipush (v := -5) dX12_looked_99 (by decide) ?_
                    refine s_goto dX12_looked_101 (tgt := 106) (by decide) ?_
                    refine s_istore_n dX12_looked_106 (by decide) rfl ?_
                    refine s_iinc (j := 4) (v := _ + (1)) dX12_looked_107 rfl rfl (by decide) rfl ?_
                    refine s_goto dX12_looked_110 (tgt := 41) (by decide) ?_
                    refine s_locals [2, 3, 4, 1, 0] rfl ?_
                    obtain ⟨x1, x2, ego⟩ := mlk_go M 0 0 f (M.2.1 20 k) (goW (mlk M 0 0 f) cl (M.2.1 20 k) (M.2.1 21 k) (M.2.1 22 k))
                    rw [ego, nI_1]
                    exact ihb (k + 1) x1 x2 _ _ _ (by omega) (by omega) (fun j hj => by simp only [upd]; split; exact up_nn (h3 _ (pz_lt hp)); exact h3 j hj) (fun j hj => by have := pz_lt hp; simp only [upd]; rw [if_neg (by omega)]; exact h4 j hj) (by rw [← ego, c96]; exact h2.win c51 hk hK (show lkN (mlk M a b f) = mlk M 0 0 f by rw [lkN, if_pos (show ovr (mlk M a b f) from c58), mlk_wl]) c96)
        refine s_locals [2, 3, 4, 1, 0] rfl ?_
        rw [show mh P (scr M (mra (mra s 23 kf) 15 g0)) D = mh P (scr (mlk M (M.1 1) (M.1 2) (M.2.1 4)) (mra (mra s 23 kf) 15 g0)) D by rw [mlk_id]]
        exact LB (K + 1) 0 _ _ _ _ _ (by omega) (Nat.zero_le _) hs (fun j _ => rfl) (Or.inl ⟨rfl, K, Nat.zero_add _, by rw [mlk_id]⟩)
      · have hr : r < 4 := Nat.lt_of_not_le fun z => c14 ((nI_leI (a := 4) (by decide) (by omega)).mpr z)
        refine s_aload_nr (j := 0) dX12_looked_17 rfl ?_
        refine gS_keptServed dX12_looked_18 rfl hP ?_
        refine s_iload_n (j := 3) dX12_looked_21 rfl ?_
        refine s_aload_nr (j := 0) dX12_looked_22 rfl ?_
        refine gS_served dX12_looked_23 rfl hP ?_
        refine s_iload_n (j := 3) dX12_looked_26 rfl ?_
        refine lS_served dX12_looked_27 hP (by exact vp_in_nI (by omega) (by decide)) ?_
        refine sS_keptServed dX12_looked_28 hP (by exact vp_in_nI (by omega) (by decide)) ?_
        refine s_iinc (j := 3) (v := _ + (1)) dX12_looked_29 rfl rfl (by decide) rfl ?_
        refine s_goto dX12_looked_32 (tgt := 12) (by decide) ?_
        refine s_locals [1, 2, 3, 0] rfl ?_
        rw [nI_1, mra_u23]
        have er : pz (nI r) = r := nI_clamp (by omega)
        rw [er]
        exact iha (r + 1) _ (by omega) (by omega) (fun j hj => by simp only [upd]; split; (rename_i e; rw [e]); exact hkf j (by omega))
  refine s_locals [3, 2, 1, 0] rfl ?_
  rw [show mh P (scr M (mra s 15 g0)) D = mh P (scr M (mra (mra s 23 (s.2.1 23)) 15 g0)) D by rw [mra_id]]
  exact LA 5 0 _ (by decide) (by decide) (fun j h => absurd h (Nat.not_lt_zero _))
