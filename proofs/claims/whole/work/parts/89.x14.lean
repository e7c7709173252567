theorem SR.ps {X : XZ} {D : HP} {w i : Nat} {K : MZ} {a b : Int32} (h : SR X D w K) : SR (xa X (9 * w + 4) i (10 * a + b)) D w (msa (msa K 18 i a) 19 i b) := by
  obtain ⟨hN, ⟨b1, b2, b3, b4, b5, b6, b7, b8⟩, hS, hC⟩ := h
  refine ⟨hN, ⟨?_, ?_, ?_, ?_, ?_, ?_, ?_, ?_⟩, hS, hC⟩
  any_goals (rw [xa_ne (by omega), msa_ne (by decide), msa_ne (by decide)]; assumption)
  intro k hk
  rw [xa_at, show (msa (msa K 18 i a) 19 i b).2.1 18 = upd (K.2.1 18) i a from (msa_ne (by decide)).trans (msa_at _ _ _ _), show (msa (msa K 18 i a) 19 i b).2.1 19 = upd (K.2.1 19) i b from (msa_at _ _ _ _).trans (by rw [msa_ne (by decide)])]
  unfold upd
  by_cases e : k = i
  · rw [if_pos e, if_pos e, if_pos e]
  · rw [if_neg e, if_neg e, if_neg e]; exact b5 k hk
/-- the model as undo makes it -/
def imM (M : MZ) : MZ := (unS M.1, fun j => if j < 6 then M.2.1 (j + 24) else if 18 ≤ j ∧ j < 23 then M.2.1 (j + 12) else M.2.1 j, M.2.2)

set_option maxRecDepth 100000 in
set_option maxHeartbeats 800000 in
theorem x_see (d : Nat) (X : XZ) (M : MZ) (D : HP) (hR : SR X D 0 M) (a b : Int32) (h12 : M.1 12 = nI (pz (M.1 12)) ∧ pz (M.1 12) ≤ 6) : Con (d + 2) qX11_see 0 0 [.ref 0, .int a, .int b] (xh X M D) (PI fun y h => y = (sp_see M a b).1 ∧ ∃ X2, h = xh X2 M D ∧ FX X X2 0 ∧ SR X2 D 0 (sp_see M a b).2) := by
  refine Con.of (by decide +kernel) (Nat.le_of_ble_eq_true rfl) ?_
  show Sem (d + 2) qX11_see 0 0 0 [(0, .ref 0), (1, .int a), (2, .int b)] [] (xh X M D) _
  refine s_iload_n (j := 1) dX11_see_0 rfl ?_
  refine s_iconst (v := -1) dX11_see_1 (by decide) ?_
  refine s_icmp_ne dX11_see_2 (tgt := 15) (by decide) (fun c2 => ?_) (fun c2 => ?_)
  · refine s_iload_n (j := 1) dX11_see_15 rfl ?_
    refine s_bipush (v := 10) dX11_see_16 (by decide) ?_
    refine s_S2i cs_X11_67 rfl dX11_see_18 (Nat.le_of_ble_eq_true rfl) (x_wC _ _ _ _ (9) (by decide)) (fun y18 h18 q18 => ?_)
    obtain ⟨rfl, rfl⟩ := q18
    refine s_if_eq dX11_see_21 (tgt := 33) (by decide) (fun c21 => ?_) (fun c21 => ?_)
    · replace c21 := b2i_0.mp c21
      refine s_iconst (v := -1) dX11_see_33 (by decide) ?_
      exact e_iret dX11_see_34 rfl (by unfold sp_see; rw [if_neg c2, if_neg c21]; exact ⟨rfl, _, rfl, FX.rf X 0, hR⟩)
    · replace c21 := b2i_n0.mp c21
      refine s_iload_n (j := 2) dX11_see_24 rfl ?_
      refine s_bipush (v := 10) dX11_see_25 (by decide) ?_
      refine s_S2i cs_X11_67 rfl dX11_see_27 (Nat.le_of_ble_eq_true rfl) (x_wC _ _ _ _ (9) (by decide)) (fun y27 h27 q27 => ?_)
      obtain ⟨rfl, rfl⟩ := q27
      refine s_if_ne dX11_see_30 (tgt := 35) (by decide) (fun c30 => ?_) (fun c30 => ?_)
      · replace c30 := b2i_n0.mp c30
        refine s_aload_nr (j := 0) dX11_see_35 rfl ?_
        refine gX_X11_12 dX11_see_36 rfl ?_
        refine gX_X11_201 (w := 0) (by decide) dX11_see_39 rfl ?_
        rw [hR.1.2.2.2.2.1]
        refine s_bipush (v := 6) dX11_see_42 (by decide) ?_
        refine s_S2i cs_X11_67 rfl dX11_see_44 (Nat.le_of_ble_eq_true rfl) (x_wC _ _ _ _ (5) (by decide)) (fun y44 h44 q44 => ?_)
        obtain ⟨rfl, rfl⟩ := q44
        refine s_if_ne dX11_see_47 (tgt := 53) (by decide) (fun c47 => ?_) (fun c47 => ?_)
        · have h9 : ¬ M.1 12 = 6 := fun z => absurd (b2i_n0.mp c47).2 (by rw [z]; decide)
          have hin : vp_in (M.1 12) 6 := by rw [h12.1]; exact vp_in_nI (by have : ¬ pz (M.1 12) = 6 := fun z => h9 (by rw [h12.1, z]; rfl); omega) (by decide)
          replace c47 := b2i_n0.mp c47
          refine s_aload_nr (j := 0) dX11_see_53 rfl ?_
          refine gX_X11_12 dX11_see_54 rfl ?_
          refine gX_X11_204 (w := 0) (by decide) dX11_see_57 rfl ?_
          refine s_aload_nr (j := 0) dX11_see_60 rfl ?_
          refine gX_X11_12 dX11_see_61 rfl ?_
          refine gX_X11_201 (w := 0) (by decide) dX11_see_64 rfl ?_
          refine s_topi (fun z ez => ?_)
          obtain rfl : z = M.1 12 := ez.trans (hR.1.2.2.2.2.1)
          refine s_iload_n (j := 1) dX11_see_67 rfl ?_
          refine s_iload_n (j := 2) dX11_see_68 rfl ?_
          refine s_S2i cs_X11_207 rfl dX11_see_69 (Nat.le_of_ble_eq_true rfl) (x_pair _ _ _ _) (fun y69 h69 q69 => ?_)
          obtain ⟨rfl, rfl⟩ := q69
          refine sX_X4_seen (w := 0) (by decide) dX11_see_72 (by exact hin) ?_
          refine s_aload_nr (j := 0) dX11_see_73 rfl ?_
          refine gX_X11_12 dX11_see_74 rfl ?_
          refine s_dup dX11_see_77 rfl ?_
          refine gX_X11_201 (w := 0) (by decide) dX11_see_78 rfl ?_
          refine s_topi (fun z ez => ?_)
          obtain rfl : z = M.1 12 := ez.trans (hR.1.2.2.2.2.1)
          refine s_iconst (v := 1) dX11_see_81 (by decide) ?_
          refine s_iadd dX11_see_82 ?_
          refine pX_X11_201 (w := 0) (by decide) dX11_see_83 rfl ?_
          refine s_aload_nr (j := 0) dX11_see_86 rfl ?_
          refine gX_X11_12 dX11_see_87 rfl ?_
          refine gX_X11_201 (w := 0) (by decide) dX11_see_90 rfl ?_
          exact e_iret dX11_see_93 rfl (by unfold sp_see; rw [if_neg c2, if_pos c21, if_pos c30, if_neg h9]; exact ⟨rfl, _, rfl, ((FX.rf X 0).pa (by decide)).p1 (by decide), hR.ps.p1 (Or.inr (Or.inr (Or.inr (Or.inl ⟨rfl, rfl⟩))))⟩)
        · have h9 : M.1 12 = 6 := by
            have h8 : pz (M.1 12) = 6 := by
              have h7 : ¬ pz (M.1 12) ≤ 5 := fun z => b2i_0.mp c47 ⟨by rw [h12.1]; exact nI_pos' (by omega), by rw [h12.1]; exact nI_le (b := 5) z (by decide)⟩
              omega
            rw [h12.1, h8]; rfl
          replace c47 := b2i_0.mp c47
          refine s_bipush (v := -4) dX11_see_50 (by decide) ?_
          exact e_iret dX11_see_52 rfl (by unfold sp_see; rw [if_neg c2, if_pos c21, if_pos c30, if_pos h9]; exact ⟨rfl, _, rfl, FX.rf X 0, hR⟩)
      · replace c30 := b2i_0.mp c30
        refine s_iconst (v := -1) dX11_see_33 (by decide) ?_
        exact e_iret dX11_see_34 rfl (by unfold sp_see; rw [if_neg c2, if_pos c21, if_neg c30]; exact ⟨rfl, _, rfl, FX.rf X 0, hR⟩)
  · refine s_aload_nr (j := 0) dX11_see_5 rfl ?_
    refine gX_X11_12 dX11_see_6 rfl ?_
    refine s_iconst (v := 0) dX11_see_9 (by decide) ?_
    refine pX_X11_201 (w := 0) (by decide) dX11_see_10 rfl ?_
    refine s_iconst (v := 0) dX11_see_13 (by decide) ?_
    exact e_iret dX11_see_14 rfl (by unfold sp_see; rw [if_pos c2]; exact ⟨rfl, _, rfl, (FX.rf X 0).p1 (by decide), hR.p1 (Or.inr (Or.inr (Or.inr (Or.inl ⟨rfl, rfl⟩))))⟩)

set_option maxRecDepth 100000 in
set_option maxHeartbeats 800000 in
theorem x_play (d : Nat) (X : XZ) (M : MZ) (D : HP) (hR : SR X D 0 M) (hK : KI M) {cl : CLs} (hC : CX X M cl) (p a b : Int32) : Con (d + 7) qX11_play 0 0 [.ref 0, .int p, .int a, .int b] (xh X M D) (PI fun y h => y = (sp_play M cl p a b).1 ∧ ∃ X2, h = xh X2 M D ∧ FX X X2 0 ∧ SR X2 D 0 (sp_play M cl p a b).2) := by
  refine Con.of (by decide +kernel) (Nat.le_of_ble_eq_true rfl) ?_
  show Sem (d + 7) qX11_play 0 0 0 [(0, .ref 0), (1, .int p), (2, .int a), (3, .int b)] [] (xh X M D) _
  refine s_aload_nr (j := 0) dX11_play_0 rfl ?_
  refine s_iload_n (j := 1) dX11_play_1 rfl ?_
  refine s_V1r cv_X11_83 rfl dX11_play_2 xg_X11 rfl (Nat.le_of_ble_eq_true rfl) (x_serverAt _ _ M D hR hK.1.1 _) (fun y2 h2 q2 => ?_)
  rcases q2 with ⟨⟨hp, n, rfl, hs⟩ | ⟨hp, rfl⟩, rfl⟩
  · skip
    refine s_astorer dX11_play_5 (by decide) rfl ?_
    refine s_aloadr (j := 0) dX11_play_7 rfl ?_
    refine s_ifnonnullr dX11_play_9 (tgt := 14) (by decide) ?_
    refine s_iload_n (j := 3) dX11_play_14 rfl ?_
    refine s_bipush (v := 100) dX11_play_15 (by decide) ?_
    refine s_S2i cs_X11_67 rfl dX11_play_17 (Nat.le_of_ble_eq_true rfl) (x_wC _ _ _ _ (99) (by decide)) (fun y17 h17 q17 => ?_)
    obtain ⟨rfl, rfl⟩ := q17
    refine s_if_eq dX11_play_20 (tgt := 32) (by decide) (fun c20 => ?_) (fun c20 => ?_)
    · replace c20 := b2i_0.mp c20
      refine s_bipush (v := -2) dX11_play_32 (by decide) ?_
      exact e_iret dX11_play_34 rfl (by unfold sp_play; rw [if_pos hp, if_neg (fun z => c20 z.1)]; exact ⟨rfl, _, rfl, FX.rf X 0, hR⟩)
    · replace c20 := b2i_n0.mp c20
      refine s_iload_n (j := 4) dX11_play_23 rfl ?_
      refine s_bipush (v := 100) dX11_play_24 (by decide) ?_
      refine s_S2i cs_X11_67 rfl dX11_play_26 (Nat.le_of_ble_eq_true rfl) (x_wC _ _ _ _ (99) (by decide)) (fun y26 h26 q26 => ?_)
      obtain ⟨rfl, rfl⟩ := q26
      refine s_if_ne dX11_play_29 (tgt := 35) (by decide) (fun c29 => ?_) (fun c29 => ?_)
      · replace c29 := b2i_n0.mp c29
        refine s_aload_nr (j := 1) dX11_play_35 rfl ?_
        refine gX_X11_12 dX11_play_36 rfl ?_
        refine s_V0i cv_X11_163 rfl dX11_play_39 (xg_X4 (w := 0) (by decide)) rfl (Nat.le_of_ble_eq_true rfl) (x_isOver _ X M D (w := 0) (by decide) hR hK) (fun y39 h39 q39 => ?_)
        obtain ⟨rfl, rfl⟩ := q39
        refine s_if_eq dX11_play_42 (tgt := 48) (by decide) (fun c42 => ?_) (fun c42 => ?_)
        · replace c42 := b2i_0.mp c42
          refine s_aload_nr (j := 1) dX11_play_48 rfl ?_
          refine gX_X11_12 dX11_play_49 rfl ?_
          refine s_aloadr (j := 0) dX11_play_52 rfl ?_
          refine s_iload_n (j := 3) dX11_play_54 rfl ?_
          refine s_iload_n (j := 4) dX11_play_55 rfl ?_
          refine s_V3i cv_X11_167 rfl dX11_play_56 (xg_X4 (w := 0) (by decide)) rfl (Nat.le_of_ble_eq_true rfl) (x_plays _ X M D (w := 0) (by decide) hR hK hC hs (in4_of hK.1.1 hp) a b) (fun y56 h56 q56 => ?_)
          obtain ⟨rfl, X2, rfl, hR2, hf⟩ := q56
          refine s_if_eq dX11_play_59 (tgt := 66) (by decide) (fun c59 => ?_) (fun c59 => ?_)
          · replace c59 := b2i_0.mp c59
            refine s_iconst (v := 0) dX11_play_66 (by decide) ?_
            exact e_iret dX11_play_67 rfl (by unfold sp_play; rw [if_pos hp, if_pos ⟨c20, c29⟩, if_neg c42]; exact ⟨(b2i_f c59).symm, X2, rfl, hf, hR2⟩)
          · replace c59 := b2i_n0.mp c59
            refine s_iconst (v := 1) dX11_play_62 (by decide) ?_
            refine s_goto dX11_play_63 (tgt := 67) (by decide) ?_
            exact e_iret dX11_play_67 rfl (by unfold sp_play; rw [if_pos hp, if_pos ⟨c20, c29⟩, if_neg c42]; exact ⟨(b2i_t c59).symm, X2, rfl, hf, hR2⟩)
        · replace c42 := b2i_n0.mp c42
          refine s_bipush (v := -3) dX11_play_45 (by decide) ?_
          exact e_iret dX11_play_47 rfl (by unfold sp_play; rw [if_pos hp, if_pos ⟨c20, c29⟩, if_pos c42]; exact ⟨rfl, _, rfl, FX.rf X 0, hR⟩)
      · replace c29 := b2i_0.mp c29
        refine s_bipush (v := -2) dX11_play_32 (by decide) ?_
        exact e_iret dX11_play_34 rfl (by unfold sp_play; rw [if_pos hp, if_neg (fun z => c29 z.2)]; exact ⟨rfl, _, rfl, FX.rf X 0, hR⟩)
  · skip
    refine s_astore0 dX11_play_5 (by decide) rfl ?_
    refine s_aload0 (j := 0) dX11_play_7 rfl ?_
    refine s_ifnonnull0 dX11_play_9 ?_
    refine s_iconst (v := -1) dX11_play_12 (by decide) ?_
    exact e_iret dX11_play_13 rfl (by unfold sp_play; rw [if_neg hp]; exact ⟨rfl, _, rfl, FX.rf X 0, hR⟩)

set_option maxRecDepth 100000 in
set_option maxHeartbeats 800000 in
theorem x_image (d : Nat) (X : XZ) (M : MZ) (D : HP) (hR : SR X D 0 M) : Con (d + 2) qX11_image 0 0 [.ref 0] (xh X M D) (PI fun y h => y = M.1 0 ∧ ∃ X2, h = xh (x1 X2 0 1) M D ∧ FX X X2 1 ∧ SR X2 D 1 M) := by
  refine Con.of (by decide +kernel) (Nat.le_of_ble_eq_true rfl) ?_
  show Sem (d + 2) qX11_image 0 0 0 [(0, .ref 0)] [] (xh X M D) _
  refine s_aload_nr (j := 0) dX11_image_0 rfl ?_
  refine gX_X11_18 dX11_image_1 rfl ?_
  refine s_aload_nr (j := 0) dX11_image_4 rfl ?_
  refine gX_X11_12 dX11_image_5 rfl ?_
  refine s_V1v cv_X11_179 rfl dX11_image_8 (xg_X4 (w := 1) (by decide)) rfl (Nat.le_of_ble_eq_true rfl) (x_takeFrom _ X M D (w := 1) (u := 0) (by decide) (by decide) (by decide) hR) (fun h8 q8 => ?_)
  obtain ⟨X2, rfl, hf, hR2⟩ := q8
  refine s_aload_nr (j := 0) dX11_image_11 rfl ?_
  refine s_iconst (v := 1) dX11_image_12 (by decide) ?_
  refine pX_X11_252 dX11_image_13 rfl (rfl) (rfl) ?_
  refine s_aload_nr (j := 0) dX11_image_16 rfl ?_
  refine gX_X11_18 dX11_image_17 rfl ?_
  refine gX_X11_71 (w := 1) (by decide) dX11_image_20 rfl ?_
  exact e_iret dX11_image_23 rfl (by exact ⟨hR2.1.1, X2, rfl, hf, hR2⟩)

set_option maxRecDepth 100000 in
set_option maxHeartbeats 800000 in
theorem x_undo (d : Nat) (X : XZ) (M : MZ) (D : HP) {K : MZ} (hR : ¬ X.1 0 = 0 → SR X D 1 K) : Con (d + 2) qX11_undo 0 0 [.ref 0] (xh X M D) (PI fun y h => (X.1 0 = 0 ∧ y = -3 ∧ h = xh X M D) ∨ (¬ X.1 0 = 0 ∧ y = K.1 0 ∧ ∃ X2, h = xh X2 M D ∧ FX X X2 0 ∧ SR X2 D 0 K)) := by
  refine Con.of (by decide +kernel) (Nat.le_of_ble_eq_true rfl) ?_
  show Sem (d + 2) qX11_undo 0 0 0 [(0, .ref 0)] [] (xh X M D) _
  refine s_aload_nr (j := 0) dX11_undo_0 rfl ?_
  refine gX_X11_252 dX11_undo_1 rfl ?_
  refine s_if_ne dX11_undo_4 (tgt := 10) (by decide) (fun c4 => ?_) (fun c4 => ?_)
  · refine s_aload_nr (j := 0) dX11_undo_10 rfl ?_
    refine gX_X11_12 dX11_undo_11 rfl ?_
    refine s_aload_nr (j := 0) dX11_undo_14 rfl ?_
    refine gX_X11_18 dX11_undo_15 rfl ?_
    refine s_V1v cv_X11_179 rfl dX11_undo_18 (xg_X4 (w := 0) (by decide)) rfl (Nat.le_of_ble_eq_true rfl) (x_takeFrom _ X M D (w := 0) (u := 1) (by decide) (by decide) (by decide) (hR c4)) (fun h18 q18 => ?_)
    obtain ⟨X2, rfl, hf, hR2⟩ := q18
    refine s_aload_nr (j := 0) dX11_undo_21 rfl ?_
    refine gX_X11_12 dX11_undo_22 rfl ?_
    refine gX_X11_71 (w := 0) (by decide) dX11_undo_25 rfl ?_
    exact e_iret dX11_undo_28 rfl (by exact Or.inr ⟨c4, hR2.1.1, X2, rfl, hf, hR2⟩)
  · refine s_bipush (v := -3) dX11_undo_7 (by decide) ?_
    exact e_iret dX11_undo_9 rfl (by exact Or.inl ⟨c4, rfl, rfl⟩)
