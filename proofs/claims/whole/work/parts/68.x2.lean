set_option maxRecDepth 100000 in
set_option maxHeartbeats 800000 in
theorem x_passes (d : Nat) (X : XZ) (M : MZ) (D : HP) {w : Nat} (hw : w < 3) (K : MZ) (p f : Int32) (hL : LTR (X.2.1 (9 * w + 8)) K p f) (t c0 n0 : Nat) (hf : t < 6) (hc : c0 < 3) (hn : n0 < 100) : Con d qX0_passes 0 0 [.int (nI (300 * t + 100 * c0 + n0)), .ref (1 + 11 * w + 10)] (xh X M D) (XI (b2i (tst K p f (nI (1000 * t + 100 * c0 + n0)) = true)) (xh X M D)) := by
  refine Con.of (by decide +kernel) (Nat.le_of_ble_eq_true rfl) ?_
  show Sem d qX0_passes 0 0 0 [(0, .int (nI (300 * t + 100 * c0 + n0))), (1, .ref (1 + 11 * w + 10))] [] (xh X M D) _
  obtain ⟨eP1, eP2, eP3, eP4, eP5, eP6⟩ := tkP hf hc hn
  refine s_iload_n (j := 0) dX0_passes_0 rfl ?_
  refine s_sipush (v := 300) dX0_passes_1 (by decide) ?_
  refine s_idiv dX0_passes_4 (by decide) ?_
  rw [eP4]
  refine s_istore_n dX0_passes_5 (by decide) rfl ?_
  refine s_iload_n (j := 0) dX0_passes_6 rfl ?_
  refine s_if_lt dX0_passes_7 (tgt := 16) (by decide) (fun c7 => ?_) (fun c7 => ?_)
  · exact absurd c7 (nI_pos (by omega))
  · refine s_iload_n (j := 0) dX0_passes_10 rfl ?_
    refine s_aload_nr (j := 2) dX0_passes_11 rfl ?_
    refine nX_X4_letters (w := w) hw dX0_passes_12 ?_
    refine s_icmp_lt dX0_passes_13 (tgt := 18) (by decide) (fun c13 => ?_) (fun c13 => ?_)
    · refine s_aload_nr (j := 2) dX0_passes_18 rfl ?_
      refine s_iload_n (j := 0) dX0_passes_19 rfl ?_
      refine lX_X4_letters (w := w) hw dX0_passes_20 (by exact vp_in_nI (by omega) (by decide)) ?_
      rw [show pz (nI t) = t from nI_clamp (by omega)]
      refine s_istore_n dX0_passes_21 (by decide) rfl ?_
      refine s_iload_n (j := 2) dX0_passes_22 rfl ?_
      refine s_bipush (v := 100) dX0_passes_23 (by decide) ?_
      refine s_irem dX0_passes_25 (by decide) ?_
      rw [eP6]
      refine s_istore dX0_passes_26 (by decide) rfl ?_
      refine s_iload_n (j := 3) dX0_passes_28 rfl ?_
      refine s_bipush (v := 100) dX0_passes_29 (by decide) ?_
      refine s_idiv dX0_passes_31 (by decide) ?_
      refine s_iconst (v := 3) dX0_passes_32 (by decide) ?_
      refine s_irem dX0_passes_33 (by decide) ?_
      rw [eP5]
      refine s_topi (fun x34 ex34 => ?_)
      by_cases k34_0 : x34 = 0
      · refine s_lsw dX0_passes_34 (tgt := 60) (by decide) (off := 26) (by rw [k34_0]; decide) (by decide) ?_
        replace ex34 := ex34.symm.trans k34_0
        clear k34_0
        refine s_iload_n (j := 1) dX0_passes_60 rfl ?_
        refine s_iload (j := 0) dX0_passes_61 rfl ?_
        refine s_icmp_ge dX0_passes_63 (tgt := 70) (by decide) (fun c63 => ?_) (fun c63 => ?_)
        · refine s_iconst (v := 0) dX0_passes_70 (by decide) ?_
          exact e_zret dX0_passes_71 rfl (by first | rfl | exact b2i_z | decide) (by unfold tst; rw [eP1, eP2, eP3, ← hL.at hf, if_pos ex34]; exact ⟨(b2i_f (fun z => absurd (of_decide_eq_true z) (Int32.not_lt.mpr c63))).symm, rfl⟩)
        · refine s_iconst (v := 1) dX0_passes_66 (by decide) ?_
          refine s_goto dX0_passes_67 (tgt := 71) (by decide) ?_
          exact e_zret dX0_passes_71 rfl (by first | rfl | exact b2i_z | decide) (by unfold tst; rw [eP1, eP2, eP3, ← hL.at hf, if_pos ex34]; exact ⟨(b2i_t (decide_eq_true (Int32.not_le.mp c63))).symm, rfl⟩)
      by_cases k34_1 : x34 = 1
      · refine s_lsw dX0_passes_34 (tgt := 72) (by decide) (off := 38) (by rw [k34_1]; decide) (by decide) ?_
        replace ex34 := ex34.symm.trans k34_1
        clear k34_1 k34_0
        refine s_iload_n (j := 1) dX0_passes_72 rfl ?_
        refine s_iload (j := 0) dX0_passes_73 rfl ?_
        refine s_icmp_ne dX0_passes_75 (tgt := 82) (by decide) (fun c75 => ?_) (fun c75 => ?_)
        · refine s_iconst (v := 0) dX0_passes_82 (by decide) ?_
          exact e_zret dX0_passes_83 rfl (by first | rfl | exact b2i_z | decide) (by unfold tst; rw [eP1, eP2, eP3, ← hL.at hf, if_neg (show ¬ nI c0 = 0 from by rw [ex34]; decide), if_pos ex34]; exact ⟨(b2i_f (fun z => absurd (of_decide_eq_true z) (c75))).symm, rfl⟩)
        · refine s_iconst (v := 1) dX0_passes_78 (by decide) ?_
          refine s_goto dX0_passes_79 (tgt := 83) (by decide) ?_
          exact e_zret dX0_passes_83 rfl (by first | rfl | exact b2i_z | decide) (by unfold tst; rw [eP1, eP2, eP3, ← hL.at hf, if_neg (show ¬ nI c0 = 0 from by rw [ex34]; decide), if_pos ex34]; exact ⟨(b2i_t (decide_eq_true (c75))).symm, rfl⟩)
      refine s_lsw dX0_passes_34 (tgt := 84) (by decide) (off := 50) (by show Op.lookupswitch.offset [(0, 26), (1, 38)] _ _ = _; rw [lv_osw (a := 0) k34_0 rfl, lv_osw (a := 1) k34_1 rfl]; rfl) (by decide) ?_
      replace k34_0 : ¬ _ = _ := fun z => k34_0 (ex34.trans z)
      replace k34_1 : ¬ _ = _ := fun z => k34_1 (ex34.trans z)
      clear ex34
      refine s_iload_n (j := 1) dX0_passes_84 rfl ?_
      refine s_iload (j := 0) dX0_passes_85 rfl ?_
      refine s_icmp_le dX0_passes_87 (tgt := 94) (by decide) (fun c87 => ?_) (fun c87 => ?_)
      · refine s_iconst (v := 0) dX0_passes_94 (by decide) ?_
        exact e_zret dX0_passes_95 rfl (by first | rfl | exact b2i_z | decide) (by unfold tst; rw [eP1, eP2, eP3, ← hL.at hf, if_neg k34_0, if_neg k34_1]; exact ⟨(b2i_f (fun z => absurd (of_decide_eq_true z) (Int32.not_lt.mpr c87))).symm, rfl⟩)
      · refine s_iconst (v := 1) dX0_passes_90 (by decide) ?_
        refine s_goto dX0_passes_91 (tgt := 95) (by decide) ?_
        exact e_zret dX0_passes_95 rfl (by first | rfl | exact b2i_z | decide) (by unfold tst; rw [eP1, eP2, eP3, ← hL.at hf, if_neg k34_0, if_neg k34_1]; exact ⟨(b2i_t (decide_eq_true (Int32.not_le.mp c87))).symm, rfl⟩)
    · exact absurd (show nI t < nI 6 from nI_lt hf (by decide)) c13
