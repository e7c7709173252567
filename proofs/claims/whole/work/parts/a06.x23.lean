set_option maxRecDepth 100000 in
set_option maxHeartbeats 800000 in
theorem x_feed (d : Nat) (X : XZ) (M : MZ) (D : HP) (N : Nat) (hN : N ≤ 100) (hX : X.1 26 = nI N) (s : Int32) : Con (d + 2) qX11_feed 0 0 [.ref 0, .int s] (xh X M D) (PI fun y h => (0 ≤ s ∧ s ≤ 127 ∧ N < 100 ∧ y = nI (N + 1) ∧ h = xh (x1 (xa X 27 N s) 26 (nI (N + 1))) M D) ∨ (0 ≤ s ∧ s ≤ 127 ∧ N = 100 ∧ y = -4 ∧ h = xh X M D) ∨ (¬ (0 ≤ s ∧ s ≤ 127) ∧ y = -2 ∧ h = xh X M D)) := by
  refine Con.of (by decide +kernel) (Nat.le_of_ble_eq_true rfl) ?_
  show Sem (d + 2) qX11_feed 0 0 0 [(0, .ref 0), (1, .int s)] [] (xh X M D) _
  refine s_iload_n (j := 1) dX11_feed_0 rfl ?_
  refine s_sipush (v := 128) dX11_feed_1 (by decide) ?_
  refine s_S2i cs_X11_67 rfl dX11_feed_4 (Nat.le_of_ble_eq_true rfl) (x_wC _ _ _ _ (127) (by decide)) (fun y4 h4 q4 => ?_)
  obtain ⟨rfl, rfl⟩ := q4
  refine s_if_ne dX11_feed_7 (tgt := 13) (by decide) (fun c7 => ?_) (fun c7 => ?_)
  · replace c7 := b2i_n0.mp c7
    refine s_aload_nr (j := 0) dX11_feed_13 rfl ?_
    refine gX_X11_27 dX11_feed_14 rfl ?_
    refine s_iload_n (j := 1) dX11_feed_17 rfl ?_
    refine s_V1i cv_X11_130 rfl dX11_feed_18 xg_X7 rfl (Nat.le_of_ble_eq_true rfl) (x_feedT _ X M D N hN hX s c7) (fun y18 h18 q18 => ?_)
    rcases q18 with ⟨e1, rfl, rfl⟩ | ⟨e1, rfl, rfl⟩
    · skip
      refine s_if_eq dX11_feed_21 (tgt := 34) (by decide) (fun c21 => ?_) (fun c21 => ?_)
      · refine s_bipush (v := -4) dX11_feed_34 (by decide) ?_
        exact e_iret dX11_feed_36 rfl (by exact Or.inr (Or.inl ⟨c7.1, c7.2, e1, rfl, rfl⟩))
      · exact absurd rfl c21
    · skip
      refine s_if_eq dX11_feed_21 (tgt := 34) (by decide) (fun c21 => ?_) (fun c21 => ?_)
      · exact absurd c21 (by decide)
      · refine s_aload_nr (j := 0) dX11_feed_24 rfl ?_
        refine gX_X11_27 dX11_feed_25 rfl ?_
        have hX9 : (x1 (xa X 27 N s) 26 (nI (N + 1))).1 26 = nI (N + 1) := x1at _ _ _
        refine gX_X11_134 dX11_feed_28 rfl ?_
        refine s_topi (fun z9 ez9 => ?_)
        obtain rfl : z9 = nI (N + 1) := ez9.trans (hX9)
        refine s_goto dX11_feed_31 (tgt := 36) (by decide) ?_
        exact e_iret dX11_feed_36 rfl (by exact Or.inl ⟨c7.1, c7.2, e1, rfl, rfl⟩)
  · replace c7 := b2i_0.mp c7
    refine s_bipush (v := -2) dX11_feed_10 (by decide) ?_
    exact e_iret dX11_feed_12 rfl (by exact Or.inr (Or.inr ⟨c7, rfl, rfl⟩))

set_option maxRecDepth 100000 in
set_option maxHeartbeats 800000 in
theorem x_court (d : Nat) (X : XZ) (M : MZ) (D : HP) (F : Nat) (hF : F ≤ 6) (hcnt : X.1 1 = nI F) (hV : RV X) (T : Nat → Int32) (N : Nat) (hT : TX X T N) (LT : Nat → Int32) (hLT : LTV LT) : Con (d + 22) qX11_court 0 0 [.ref 0] (xh X M D) (PI fun y h => (F = 6 ∧ y = -4 ∧ h = xh X M D) ∨ (F < 6 ∧ ∃ X2, h = xh X2 M D ∧ FCT X X2 F ∧ X2.1 26 = 0 ∧ ((gtR T N LT 10 0).1 = true → y = nI F ∧ X2.1 1 = nI (F + 1) ∧ X2.2.2.2.1 0 = .ref (53 + 5 * F) ∧ XC X2 F (gtR T N LT 10 0).2.2) ∧ (¬ (gtR T N LT 10 0).1 = true → y = -10 - nI (gtR T N LT 10 0).2.1 ∧ X2.1 1 = X.1 1 ∧ X2.2.2.2.1 0 = X.2.2.2.1 0))) := by
  refine Con.of (by decide +kernel) (Nat.le_of_ble_eq_true rfl) ?_
  show Sem (d + 22) qX11_court 0 0 0 [(0, .ref 0)] [] (xh X M D) _
  refine s_aload_nr (j := 0) dX11_court_0 rfl ?_
  refine gX_X11_137 dX11_court_1 rfl ?_
  refine s_topi (fun z9 ez9 => ?_)
  obtain rfl : z9 = nI F := ez9.trans (hcnt)
  refine s_bipush (v := 6) dX11_court_4 (by decide) ?_
  refine s_S2i cs_X11_67 rfl dX11_court_6 (Nat.le_of_ble_eq_true rfl) (x_wC _ _ _ _ (5) (by decide)) (fun y6 h6 q6 => ?_)
  obtain ⟨rfl, rfl⟩ := q6
  refine s_if_ne dX11_court_9 (tgt := 15) (by decide) (fun c9 => ?_) (fun c9 => ?_)
  · replace c9 := b2i_n0.mp c9
    have hF6 : F < 6 := Nat.lt_succ_of_le ((nI_ins (k := 5) (by omega) (by decide)).mp c9)
    have hgl := gtR_le (T := T) hLT.n1 10 0 (Nat.zero_le N)
    have hN1 := hT.2.1
    refine s_aload_nr (j := 0) dX11_court_15 rfl ?_
    refine gX_X11_33 dX11_court_16 rfl ?_
    refine s_aload_nr (j := 0) dX11_court_19 rfl ?_
    refine gX_X11_137 dX11_court_20 rfl ?_
    refine s_topi (fun z9 ez9 => ?_)
    obtain rfl : z9 = nI F := ez9.trans (hcnt)
    refine lX_X11_courts dX11_court_23 (by exact vp_in_nI (by omega) (by decide)) (v := .ref (53 + 5 * F)) (by rw [pz5 F (by omega)]; exact hV.1 F hF6) ?_
    refine s_astore_nr dX11_court_24 (by decide) rfl ?_
    refine s_aload_nr (j := 1) dX11_court_25 rfl ?_
    refine gX_X11_27 dX11_court_26 rfl ?_
    refine s_aload_nr (j := 0) dX11_court_29 rfl ?_
    refine s_V1i cv_X11_140 rfl dX11_court_30 xg_X7 rfl (Nat.le_of_ble_eq_true rfl) (x_readInto _ X M D F hF6 T N hT LT hLT _ rfl) (fun y30 h30 q30 => ?_)
    obtain ⟨rfl, X2, a, z, g, rfl, hfc, hxc⟩ := q30
    refine s_istore_n dX11_court_33 (by decide) rfl ?_
    refine s_aload_nr (j := 2) dX11_court_34 rfl ?_
    refine gX_X11_27 dX11_court_35 rfl ?_
    refine s_iconst (v := 0) dX11_court_38 (by decide) ?_
    refine pX_X11_134 dX11_court_39 rfl ?_
    refine s_iload_n (j := 0) dX11_court_42 rfl ?_
    refine s_iconst (v := -1) dX11_court_43 (by decide) ?_
    refine s_icmp_eq dX11_court_44 (tgt := 52) (by decide) (fun c44 => ?_) (fun c44 => ?_)
    · have hR : (gtR T N LT 10 0).1 = true := by
        by_cases e : (gtR T N LT 10 0).1 = true
        · exact e
        · rw [if_neg e] at c44; exact absurd (show nI (gtR T N LT 10 0).2.1 < 0 by rw [c44]; decide) (nI_pos (by omega))
      refine s_aload_nr (j := 2) dX11_court_52 rfl ?_
      refine gX_X11_12 dX11_court_53 rfl ?_
      refine s_aload_nr (j := 1) dX11_court_56 rfl ?_
      refine pX_X11_144 (w := 0) (by decide) dX11_court_57 rfl (by first | exact Or.inl rfl | exact Or.inr (Or.inl ⟨_, rfl⟩) | exact Or.inr (Or.inr ⟨_, rfl⟩)) ?_
      refine s_aload_nr (j := 2) dX11_court_60 rfl ?_
      refine s_dup dX11_court_61 rfl ?_
      refine gX_X11_137 dX11_court_62 rfl ?_
      have hfd := (hfc.rd (a := a) (z := z) (g := g)).p1 (k := 26) (v := 0) (Or.inl rfl)
      have hfv := hfd.pv (v := .ref (53 + 5 * F))
      refine s_topi (fun z9 ez9 => ?_)
      obtain rfl : z9 = nI F := ez9.trans ((rdx_1 X2 F a z g).trans ((hfc.1 1 (by omega)).trans hcnt))
      refine s_iconst (v := 1) dX11_court_65 (by decide) ?_
      refine s_iadd dX11_court_66 ?_
      simp only [nI_1]
      refine pX_X11_137 dX11_court_67 rfl ?_
      refine s_aload_nr (j := 2) dX11_court_70 rfl ?_
      refine gX_X11_137 dX11_court_71 rfl ?_
      refine s_topi (fun z9 ez9 => ?_)
      obtain rfl : z9 = nI (F + 1) := ez9.trans (x1at _ _ _)
      refine s_iconst (v := 1) dX11_court_74 (by decide) ?_
      refine s_isub dX11_court_75 ?_
      exact e_iret dX11_court_76 rfl (by rw [nI_pred]; exact Or.inr ⟨hF6, _, rfl, hfv.p1 (Or.inr rfl), (x1ne (by decide)).trans (x1at (rdx X2 F a z g) 26 0), fun _ => ⟨rfl, x1at _ _ _, xvat _ _ _, XC.eq ((x1ne (by omega)).trans (x1ne (X := rdx X2 F a z g) (by omega))) (fun _ _ => rfl) (hxc hR)⟩, fun e => absurd hR e⟩)
    · have hR : ¬ (gtR T N LT 10 0).1 = true := fun e => c44 (by rw [if_pos e])
      rw [if_neg hR]
      refine s_bipush (v := -10) dX11_court_47 (by decide) ?_
      refine s_iload_n (j := 0) dX11_court_49 rfl ?_
      refine s_isub dX11_court_50 ?_
      exact e_iret dX11_court_51 rfl (by have hf9 := (hfc.rd (a := a) (z := z) (g := g)).p1 (k := 26) (v := 0) (Or.inl rfl); exact Or.inr ⟨hF6, _, rfl, hf9, x1at _ _ _, fun e => absurd e hR, fun _ => ⟨rfl, (x1ne (by decide)).trans ((rdx_1 X2 F a z g).trans (hfc.1 1 (by omega))), congrFun (congrArg (fun z => z.2.1) hfc.2.2) 0⟩⟩)
  · replace c9 := b2i_0.mp c9
    refine s_bipush (v := -4) dX11_court_12 (by decide) ?_
    exact e_iret dX11_court_14 rfl (by exact Or.inl ⟨by have h9 : ¬ F ≤ 5 := fun z => c9 ((nI_ins (k := 5) (by omega) (by decide)).mpr z); omega, rfl, rfl⟩)
