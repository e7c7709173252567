set_option maxRecDepth 100000 in
set_option maxHeartbeats 800000 in
theorem x_welcome (d : Nat) (X : XZ) (M : MZ) (D : HP) {n j : Nat} {k v : Int32} (hs : SV D n k (nI j) v) (hj : j < 4) (hd sf : Int32) : Con (d + 1) qX4_welcome 0 0 [.ref (1 + 11 * 0), .ref n, .int hd, .int sf] (xh X M D) (PI fun y h => y = nI j ∧ h = xh (xborn X j n hd sf) M D) := by
  refine Con.of (by decide +kernel) (Nat.le_of_ble_eq_true rfl) ?_
  show Sem (d + 1) qX4_welcome 0 0 0 [(0, .ref (1 + 11 * 0)), (1, .ref n), (2, .int hd), (3, .int sf)] [] (xh X M D) _
  refine s_aload_nr (j := 1) dX4_welcome_0 rfl ?_
  refine gS_X4_84 hs dX4_welcome_1 rfl ?_
  refine s_iconst (v := 4) dX4_welcome_4 (by decide) ?_
  refine s_S2i cs_X4_87 rfl dX4_welcome_5 (Nat.le_of_ble_eq_true rfl) (x_wC _ _ _ _ (3) (by decide)) (fun y5 h5 q5 => ?_)
  obtain ⟨rfl, rfl⟩ := q5
  refine s_if_ne dX4_welcome_8 (tgt := 14) (by decide) (fun c8 => ?_) (fun c8 => ?_)
  · replace c8 := b2i_n0.mp c8
    refine s_aload_nr (j := 0) dX4_welcome_14 rfl ?_
    refine gX_X4_11 (w := 0) (by decide) dX4_welcome_15 rfl ?_
    refine s_aload_nr (j := 1) dX4_welcome_18 rfl ?_
    refine gS_X4_84 hs dX4_welcome_19 rfl ?_
    refine s_aload_nr (j := 1) dX4_welcome_22 rfl ?_
    refine sS_X4_servers (w := 0) (by decide) hs dX4_welcome_23 (vp_in_nI hj (by decide)) ?_
    rw [pz5 j (by omega)]
    refine s_aload_nr (j := 0) dX4_welcome_24 rfl ?_
    refine gX_X4_17 (w := 0) (by decide) dX4_welcome_25 rfl ?_
    refine s_aload_nr (j := 1) dX4_welcome_28 rfl ?_
    refine gS_X4_84 hs dX4_welcome_29 rfl ?_
    refine s_iload_n (j := 2) dX4_welcome_32 rfl ?_
    refine sX_X4_hard (w := 0) (by decide) dX4_welcome_33 (by exact vp_in_nI hj (by decide)) ?_
    rw [pz5 j (by omega)]
    refine s_aload_nr (j := 0) dX4_welcome_34 rfl ?_
    refine gX_X4_21 (w := 0) (by decide) dX4_welcome_35 rfl ?_
    refine s_aload_nr (j := 1) dX4_welcome_38 rfl ?_
    refine gS_X4_84 hs dX4_welcome_39 rfl ?_
    refine s_iload_n (j := 3) dX4_welcome_42 rfl ?_
    refine sX_X4_soft (w := 0) (by decide) dX4_welcome_43 (by exact vp_in_nI hj (by decide)) ?_
    rw [pz5 j (by omega)]
    refine s_aload_nr (j := 0) dX4_welcome_44 rfl ?_
    refine s_aload_nr (j := 1) dX4_welcome_45 rfl ?_
    refine gS_X4_84 hs dX4_welcome_46 rfl ?_
    refine s_iconst (v := 1) dX4_welcome_49 (by decide) ?_
    refine s_iadd dX4_welcome_50 ?_
    simp only [nI_1]
    refine pX_X4_65 (w := 0) (by decide) dX4_welcome_51 rfl ?_
    refine s_aload_nr (j := 1) dX4_welcome_54 rfl ?_
    refine gS_X4_84 hs dX4_welcome_55 rfl ?_
    exact e_iret dX4_welcome_58 rfl (by exact ⟨rfl, rfl⟩)
  · exact absurd ⟨Int32.not_lt.mp (nI_pos (by omega)), nI_le (b := 3) (by omega) (by decide)⟩ (b2i_0.mp c8)

set_option maxRecDepth 100000 in
set_option maxHeartbeats 800000 in
theorem x_server (d : Nat) (X : XZ) (M : MZ) (D : HP) (hR : SR X D 0 M) (hM : MI M) (hz4 : ∀ j, j < 4 → M.1 0 = nI j → M.2.1 4 j = 0 ∧ ∀ r, r < 4 → M.2.1 5 (4 * j + r) = 0) (k v hd sf : Int32) : Con (d + 5) qX11_server 1 3 [.ref 0, .int k, .int v, .int hd, .int sf] (xh X M D) (PI fun y h => y = (sp_server M k v hd sf).1 ∧ ∃ X2 E, h = xh X2 M (D ++ E) ∧ FX X X2 0 ∧ SR X2 (D ++ E) 0 (sp_server M k v hd sf).2) := by
  refine Con.of (by decide +kernel) (Nat.le_of_ble_eq_true rfl) ?_
  show Sem (d + 5) qX11_server 1 3 0 [(0, .ref 0), (1, .int k), (2, .int v), (3, .int hd), (4, .int sf)] [] (xh X M D) _
  refine s_iload_n (j := 1) dX11_server_0 rfl ?_
  refine s_bipush (v := 7) dX11_server_1 (by decide) ?_
  refine s_S2i cs_X11_67 rfl dX11_server_3 (Nat.le_of_ble_eq_true rfl) (x_wC _ _ _ _ (6) (by decide)) (fun y3 h3 q3 => ?_)
  obtain ⟨rfl, rfl⟩ := q3
  refine s_if_ne dX11_server_6 (tgt := 11) (by decide) (fun c6 => ?_) (fun c6 => ?_)
  · replace c6 := b2i_n0.mp c6
    refine s_iload_n (j := 2) dX11_server_11 rfl ?_
    refine s_bipush (v := 10) dX11_server_12 (by decide) ?_
    refine s_S2i cs_X11_67 rfl dX11_server_14 (Nat.le_of_ble_eq_true rfl) (x_wC _ _ _ _ (9) (by decide)) (fun y14 h14 q14 => ?_)
    obtain ⟨rfl, rfl⟩ := q14
    refine s_if_eq dX11_server_17 (tgt := 39) (by decide) (fun c17 => ?_) (fun c17 => ?_)
    · replace c17 := b2i_0.mp c17
      refine s_bipush (v := -2) dX11_server_39 (by decide) ?_
      exact e_iret dX11_server_41 rfl (by unfold sp_server; rw [if_pos c6, if_neg c17]; exact ⟨rfl, X, [], by rw [List.append_nil], FX.rf X 0, by rw [List.append_nil]; exact hR⟩)
    · replace c17 := b2i_n0.mp c17
      refine s_iload_n (j := 3) dX11_server_20 rfl ?_
      refine s_bipush (v := 10) dX11_server_21 (by decide) ?_
      refine s_S2i cs_X11_67 rfl dX11_server_23 (Nat.le_of_ble_eq_true rfl) (x_wC _ _ _ _ (9) (by decide)) (fun y23 h23 q23 => ?_)
      obtain ⟨rfl, rfl⟩ := q23
      refine s_if_eq dX11_server_26 (tgt := 39) (by decide) (fun c26 => ?_) (fun c26 => ?_)
      · replace c26 := b2i_0.mp c26
        refine s_bipush (v := -2) dX11_server_39 (by decide) ?_
        exact e_iret dX11_server_41 rfl (by unfold sp_server; rw [if_pos c6, if_pos c17, if_neg c26]; exact ⟨rfl, X, [], by rw [List.append_nil], FX.rf X 0, by rw [List.append_nil]; exact hR⟩)
      · replace c26 := b2i_n0.mp c26
        refine s_iload (j := 4) dX11_server_29 rfl ?_
        refine s_bipush (v := 10) dX11_server_31 (by decide) ?_
        refine s_S2i cs_X11_67 rfl dX11_server_33 (Nat.le_of_ble_eq_true rfl) (x_wC _ _ _ _ (9) (by decide)) (fun y33 h33 q33 => ?_)
        obtain ⟨rfl, rfl⟩ := q33
        refine s_if_ne dX11_server_36 (tgt := 42) (by decide) (fun c36 => ?_) (fun c36 => ?_)
        · replace c36 := b2i_n0.mp c36
          refine s_aload_nr (j := 0) dX11_server_42 rfl ?_
          refine gX_X11_12 dX11_server_43 rfl ?_
          refine gX_X11_71 (w := 0) (by decide) dX11_server_46 rfl ?_
          refine s_topi (fun z9 ez9 => ?_)
          obtain rfl : z9 = M.1 0 := ez9.trans hR.1.1
          refine s_iconst (v := 4) dX11_server_49 (by decide) ?_
          refine s_icmp_lt dX11_server_50 (tgt := 56) (by decide) (fun c50 => ?_) (fun c50 => ?_)
          · obtain ⟨j, hj, h0⟩ : ∃ j : Nat, j < 4 ∧ M.1 0 = nI j := tr_lt (m := 4) (by decide) ⟨hM.1.1, c50⟩
            refine s_aload_nr (j := 0) dX11_server_56 rfl ?_
            refine gX_X11_12 dX11_server_57 rfl ?_
            refine s_iload_n (j := 1) dX11_server_60 rfl ?_
            refine s_aload_nr (j := 0) dX11_server_61 rfl ?_
            refine gX_X11_12 dX11_server_62 rfl ?_
            refine gX_X11_71 (w := 0) (by decide) dX11_server_65 rfl ?_
            refine s_topi (fun z9 ez9 => ?_)
            obtain rfl : z9 = nI j := ez9.trans (hR.1.1.trans h0)
            refine s_iload_n (j := 2) dX11_server_68 rfl ?_
            refine s_S3rm (mc := 0) (ms := 0) cs_X11_75 rfl dX11_server_69 (Nat.le_of_ble_eq_true rfl) (x_born _ (xh X M D) k (nI j) v c6) rfl rfl (fun y69 h69 q69 => ?_)
            obtain ⟨rfl, rfl⟩ := q69
            rw [xh_push, xh_len]
            have hs : SV (D ++ [.inr (kci k, [.int k, .int (nI j), .int v])]) (136 + D.length) k (nI j) v := ⟨by omega, d_new D _, c6⟩
            refine s_iload_n (j := 3) dX11_server_72 rfl ?_
            refine s_iload (j := 4) dX11_server_73 rfl ?_
            have hw := x_welcome (d + 3) X M (D ++ [.inr (kci k, [.int k, .int (nI j), .int v])]) hs hj hd sf
            refine s_V3i cv_X11_79 rfl dX11_server_75 (xg_X4 (w := 0) (by decide)) rfl (Nat.le_of_ble_eq_true rfl) (hw) (fun y75 h75 q75 => ?_)
            obtain ⟨rfl, rfl⟩ := q75
            exact e_iret dX11_server_78 rfl (by unfold sp_server; rw [if_pos c6, if_pos c17, if_pos c26, if_pos c36, if_neg (by rw [h0]; intro w; exact absurd ((nI_eq (b := 4) (by omega) (by decide)).mp w) (by omega))]; exact ⟨h0.symm, xborn X j (136 + D.length) hd sf, _, rfl, xborn_fx _ _ _ _ _, hR.born hj h0 c6 (hz4 j hj h0).1 (hz4 j hj h0).2⟩)
          · have e4 : M.1 0 = 4 := Int32.le_antisymm hM.1.2 (Int32.not_lt.mp (c50))
            refine s_bipush (v := -4) dX11_server_53 (by decide) ?_
            exact e_iret dX11_server_55 rfl (by unfold sp_server; rw [if_pos c6, if_pos c17, if_pos c26, if_pos c36, if_pos e4]; exact ⟨rfl, X, [], by rw [List.append_nil], FX.rf X 0, by rw [List.append_nil]; exact hR⟩)
        · replace c36 := b2i_0.mp c36
          refine s_bipush (v := -2) dX11_server_39 (by decide) ?_
          exact e_iret dX11_server_41 rfl (by unfold sp_server; rw [if_pos c6, if_pos c17, if_pos c26, if_neg c36]; exact ⟨rfl, X, [], by rw [List.append_nil], FX.rf X 0, by rw [List.append_nil]; exact hR⟩)
  · replace c6 := b2i_0.mp c6
    refine s_iconst (v := -1) dX11_server_9 (by decide) ?_
    exact e_iret dX11_server_10 rfl (by unfold sp_server; rw [if_neg c6]; exact ⟨rfl, X, [], by rw [List.append_nil], FX.rf X 0, by rw [List.append_nil]; exact hR⟩)
