set_option maxRecDepth 100000 in
set_option maxHeartbeats 800000 in
theorem x_act (d : Nat) (X : XZ) (M : MZ) (D : HP) (hR : SR X D 0 M) (hK : KI M) (tr : List Int32) (hB : BO X D tr) (p a x : Int32) : Con (d + 14) qX11_act 12 180 [.ref 0, .int p, .int a, .int x] (xh X M D) (PI fun y h => y = (sp_act M p a x).1 ∧ ∃ X2 D2, h = xh X2 M D2 ∧ FB X D X2 D2 ∧ BO X2 D2 (sp_act M p a x).2) := by
  refine Con.of (by decide +kernel) (Nat.le_of_ble_eq_true rfl) ?_
  show Sem (d + 14) qX11_act 12 180 0 [(0, .ref 0), (1, .int p), (2, .int a), (3, .int x)] [] (xh X M D) _
  refine s_aload_nr (j := 0) dX11_act_0 rfl ?_
  refine gX_X11_46 dX11_act_1 rfl ?_
  refine s_V0v cv_X11_256 rfl dX11_act_4 xg_Jx4a65c rfl (Nat.le_of_ble_eq_true rfl) (x_clr _ X M D tr hB) (fun h4 q4 => ?_)
  obtain ⟨X1, D1, rfl, hf1, hb1⟩ := q4
  refine s_aload_nr (j := 0) dX11_act_7 rfl ?_
  refine s_iload_n (j := 1) dX11_act_8 rfl ?_
  refine s_V1r cv_X11_83 rfl dX11_act_9 xg_X11 rfl (Nat.le_of_ble_eq_true rfl) (x_serverAt _ _ M D1 (hf1.sr (by decide) hR) hK.1.1 _) (fun y9 h9 q9 => ?_)
  rcases q9 with ⟨⟨hp, n, rfl, hs⟩ | ⟨hp, rfl⟩, rfl⟩
  · skip
    refine s_astorer dX11_act_12 (by decide) rfl ?_
    refine s_aloadr (j := 0) dX11_act_14 rfl ?_
    refine s_ifnonnullr dX11_act_16 (tgt := 21) (by decide) ?_
    refine s_iload_n (j := 3) dX11_act_21 rfl ?_
    refine s_topi (fun x22 ex22 => ?_)
    by_cases k22_0 : x22 = 0
    · refine s_tswIn dX11_act_22 (tgt := 48) (by rw [k22_0]; decide) (by rw [k22_0]; decide) (off := 26) (by rw [k22_0]; decide) (by decide) ?_
      replace ex22 := ex22.symm.trans k22_0
      clear k22_0
      refine s_aloadr (j := 0) dX11_act_48 rfl ?_
      refine s_iload_n (j := 4) dX11_act_50 rfl ?_
      refine s_aload_nr (j := 1) dX11_act_51 rfl ?_
      refine gX_X11_46 dX11_act_52 rfl ?_
      refine u2im_X11_259 (mc := 10) (ms := 150) hs dX11_act_55 rfl (Nat.le_of_ble_eq_true rfl) (x_tosses _ X1 M D1 hs [] hb1 (by decide) x 0 0) (by omega) (by omega) (fun y55 h55 q55 => ?_)
      obtain ⟨rfl, X3, D3, rfl, hf3, hb3⟩ := q55
      exact e_iret dX11_act_58 rfl (by unfold sp_act; rw [if_pos hp, if_pos (by rw [ex22]; decide), if_pos ex22]; exact ⟨rfl, X3, D3, rfl, hf1.tr hf3, hb3⟩)
    by_cases k22_1 : x22 = 1
    · refine s_tswIn dX11_act_22 (tgt := 59) (by rw [k22_1]; decide) (by rw [k22_1]; decide) (off := 37) (by rw [k22_1]; decide) (by decide) ?_
      replace ex22 := ex22.symm.trans k22_1
      clear k22_1 k22_0
      refine s_aloadr (j := 0) dX11_act_59 rfl ?_
      refine s_iload_n (j := 4) dX11_act_61 rfl ?_
      refine s_aload_nr (j := 1) dX11_act_62 rfl ?_
      refine gX_X11_46 dX11_act_63 rfl ?_
      refine u2im_X11_263 (mc := 7) (ms := 105) hs dX11_act_66 rfl (Nat.le_of_ble_eq_true rfl) (x_strikes _ X1 M D1 hs [] hb1 (by decide) x 0 0) (by omega) (by omega) (fun y66 h66 q66 => ?_)
      obtain ⟨rfl, X3, D3, rfl, hf3, hb3⟩ := q66
      exact e_iret dX11_act_69 rfl (by unfold sp_act; rw [if_pos hp, if_pos (by rw [ex22]; decide), if_neg (by rw [ex22]; decide), if_pos ex22]; exact ⟨rfl, X3, D3, rfl, hf1.tr hf3, hb3⟩)
    by_cases k22_2 : x22 = 2
    · refine s_tswIn dX11_act_22 (tgt := 70) (by rw [k22_2]; decide) (by rw [k22_2]; decide) (off := 48) (by rw [k22_2]; decide) (by decide) ?_
      replace ex22 := ex22.symm.trans k22_2
      clear k22_2 k22_1 k22_0
      refine s_aloadr (j := 0) dX11_act_70 rfl ?_
      refine s_iload_n (j := 4) dX11_act_72 rfl ?_
      refine s_aload_nr (j := 1) dX11_act_73 rfl ?_
      refine gX_X11_46 dX11_act_74 rfl ?_
      refine u2im_X11_266 (mc := 0) (ms := 0) hs dX11_act_77 rfl (Nat.le_of_ble_eq_true rfl) (x_tells _ X1 M D1 hs [] hb1 (by decide) x 0 0) (by omega) (by omega) (fun y77 h77 q77 => ?_)
      obtain ⟨rfl, X3, D3, rfl, hf3, hb3⟩ := q77
      exact e_iret dX11_act_80 rfl (by unfold sp_act; rw [if_pos hp, if_pos (by rw [ex22]; decide), if_neg (by rw [ex22]; decide), if_neg (by rw [ex22]; decide)]; exact ⟨rfl, X3, D3, rfl, hf1.tr hf3, hb3⟩)
    refine s_tswOut dX11_act_22 (tgt := 81) (by have a0 := lv_neT (a := 0) k22_0 rfl; have a1 := lv_neT (a := 1) k22_1 rfl; have a2 := lv_neT (a := 2) k22_2 rfl; omega) (by decide) ?_
    replace k22_0 : ¬ _ = _ := fun z => k22_0 (ex22.trans z)
    replace k22_1 : ¬ _ = _ := fun z => k22_1 (ex22.trans z)
    replace k22_2 : ¬ _ = _ := fun z => k22_2 (ex22.trans z)
    clear ex22
    refine s_iconst (v := 0) dX11_act_81 (by decide) ?_
    exact e_iret dX11_act_82 rfl (by unfold sp_act; rw [if_pos hp, if_neg (fun w => (a012 w).elim k22_0 (fun z => z.elim k22_1 k22_2))]; exact ⟨rfl, X1, D1, rfl, hf1, hb1⟩)
  · skip
    refine s_astore0 dX11_act_12 (by decide) rfl ?_
    refine s_aload0 (j := 0) dX11_act_14 rfl ?_
    refine s_ifnonnull0 dX11_act_16 ?_
    refine s_iconst (v := 0) dX11_act_19 (by decide) ?_
    exact e_iret dX11_act_20 rfl (by unfold sp_act; rw [if_neg hp]; exact ⟨rfl, X1, D1, rfl, hf1, hb1⟩)

set_option maxRecDepth 100000 in
set_option maxHeartbeats 800000 in
theorem x_trace (d : Nat) (X : XZ) (M : MZ) (D : HP) (tr : List Int32) (hB : BO X D tr) (h22 : M.1 22 = nI tr.length) (hT : TRo tr (M.2.1 35)) (i : Int32) : Con (d + 3) qX11_trace 0 0 [.ref 0, .int i] (xh X M D) (XI (sp_trace M i) (xh X M D)) := by
  refine Con.of (by decide +kernel) (Nat.le_of_ble_eq_true rfl) ?_
  show Sem (d + 3) qX11_trace 0 0 0 [(0, .ref 0), (1, .int i)] [] (xh X M D) _
  have hl15 := hB.2.1
  refine s_iload_n (j := 1) dX11_trace_0 rfl ?_
  refine s_bipush (v := 20) dX11_trace_1 (by decide) ?_
  refine s_aload_nr (j := 0) dX11_trace_3 rfl ?_
  refine gX_X11_46 dX11_trace_4 rfl ?_
  refine s_V0i cv_X11_269 rfl dX11_trace_7 xg_Jx4a65c rfl (Nat.le_of_ble_eq_true rfl) (x_size _ X M D) (fun y7 h7 q7 => ?_)
  obtain ⟨rfl, rfl⟩ := q7
  refine s_topi (fun z9 ez9 => ?_)
  obtain rfl : z9 = nI tr.length := ez9.trans (hB.1)
  refine s_mmin cs_X11_183 rfl dX11_trace_10 (Nat.le_of_ble_eq_true rfl) ?_
  refine s_topi (fun z9 ez9 => ?_)
  obtain rfl : z9 = nI tr.length := ez9.trans (if_pos (nI_lt (b := 20) (by omega) (by decide)))
  refine s_S2i cs_X11_67 rfl dX11_trace_13 (Nat.le_of_ble_eq_true rfl) (x_within _ _ i (nI tr.length)) (fun y13 h13 q13 => ?_)
  obtain ⟨rfl, rfl⟩ := q13
  refine s_if_eq dX11_trace_16 (tgt := 36) (by decide) (fun c16 => ?_) (fun c16 => ?_)
  · replace c16 := b2i_0.mp c16
    refine s_iconst (v := -1) dX11_trace_36 (by decide) ?_
    exact e_iret dX11_trace_37 rfl (by unfold sp_trace; rw [h22]; by_cases e9 : 0 ≤ i ∧ i ≤ 19; rw [if_pos e9, if_neg (fun w => c16 ⟨e9.1, w⟩)]; exact ⟨rfl, rfl⟩; rw [if_neg e9]; exact ⟨rfl, rfl⟩)
  · replace c16 := b2i_n0.mp c16
    obtain ⟨k, hk, rfl⟩ := tr_lt (by omega) c16
    have hbk : 0 ≤ tr.getD k 0 ∧ tr.getD k 0 ≤ 127 := hB.2.2.1 _ (by rw [List.getD_eq_getElem?_getD, List.getElem?_eq_getElem hk]; exact List.getElem_mem hk)
    obtain ⟨n, cap, f, hn, he, hc, hcap, hl, hf⟩ := hB.cases.resolve_left (fun w => by rw [w.1] at hk; exact absurd hk (Nat.not_lt_zero _))
    refine s_aload_nr (j := 0) dX11_trace_19 rfl ?_
    refine gX_X11_46 dX11_trace_20 rfl ?_
    refine s_iload_n (j := 1) dX11_trace_23 rfl ?_
    refine s_V1r cv_X11_273 rfl dX11_trace_24 xg_Jx4a65c rfl (Nat.le_of_ble_eq_true rfl) (x_getB _ X M D n cap k tr.length f (bx (tr.getD k 0)) hn he hc hcap hl hk (hf k hk) hB.1) (fun y24 h24 q24 => ?_)
    obtain ⟨rfl, rfl⟩ := q24
    refine s_castB dX11_trace_27 rfl m1092 (bx_lt hbk) ?_
    refine s_VB0i (bx_lt hbk) cv_X11_279 rfl rfl dX11_trace_30 (Nat.le_of_ble_eq_true rfl) (j_intValue _ _ _ hbk) (fun y30 h30 q30 => ?_)
    obtain ⟨rfl, rfl⟩ := q30
    refine s_goto dX11_trace_33 (tgt := 37) (by decide) ?_
    exact e_iret dX11_trace_37 rfl (by unfold sp_trace; rw [if_pos ⟨Int32.not_lt.mp (nI_pos (by omega)), nI_le (b := 19) (by omega) (by decide)⟩, h22, if_pos (nI_lt hk (by omega)), pz5 k (by omega), hT k hk (by omega)]; exact ⟨rfl, rfl⟩)

set_option maxRecDepth 100000 in
set_option maxHeartbeats 800000 in
theorem x_count (d : Nat) (X : XZ) (M : MZ) (D : HP) (hR : SR X D 0 M) (h1 : X.1 1 = M.1 4) (h26 : X.1 26 = M.1 6) (h53 : X.1 53 = M.1 22) (w : Int32) : Con (d + 1) qX11_count 0 0 [.ref 0, .int w] (xh X M D) (XI (sp_count M w) (xh X M D)) := by
  refine Con.of (by decide +kernel) (Nat.le_of_ble_eq_true rfl) ?_
  show Sem (d + 1) qX11_count 0 0 0 [(0, .ref 0), (1, .int w)] [] (xh X M D) _
  refine s_iload_n (j := 1) dX11_count_0 rfl ?_
  refine s_topi (fun x1 ex1 => ?_)
  by_cases k1_0 : x1 = 0
  · refine s_tswIn dX11_count_1 (tgt := 40) (by rw [k1_0]; decide) (by rw [k1_0]; decide) (off := 39) (by rw [k1_0]; decide) (by decide) ?_
    replace ex1 := ex1.symm.trans k1_0
    clear k1_0
    refine s_aload_nr (j := 0) dX11_count_40 rfl ?_
    refine gX_X11_12 dX11_count_41 rfl ?_
    refine gX_X11_71 (w := 0) (by decide) dX11_count_44 rfl ?_
    exact e_iret dX11_count_47 rfl (by unfold sp_count;  rw [if_pos ex1]; exact ⟨hR.1.1, rfl⟩)
  by_cases k1_1 : x1 = 1
  · refine s_tswIn dX11_count_1 (tgt := 48) (by rw [k1_1]; decide) (by rw [k1_1]; decide) (off := 47) (by rw [k1_1]; decide) (by decide) ?_
    replace ex1 := ex1.symm.trans k1_1
    clear k1_1 k1_0
    refine s_aload_nr (j := 0) dX11_count_48 rfl ?_
    refine gX_X11_137 dX11_count_49 rfl ?_
    exact e_iret dX11_count_52 rfl (by unfold sp_count; rw [if_neg (by rw [ex1]; decide)]; rw [if_pos ex1]; exact ⟨h1, rfl⟩)
  by_cases k1_2 : x1 = 2
  · refine s_tswIn dX11_count_1 (tgt := 53) (by rw [k1_2]; decide) (by rw [k1_2]; decide) (off := 52) (by rw [k1_2]; decide) (by decide) ?_
    replace ex1 := ex1.symm.trans k1_2
    clear k1_2 k1_1 k1_0
    refine s_aload_nr (j := 0) dX11_count_53 rfl ?_
    refine gX_X11_12 dX11_count_54 rfl ?_
    refine gX_X11_201 (w := 0) (by decide) dX11_count_57 rfl ?_
    exact e_iret dX11_count_60 rfl (by unfold sp_count; rw [if_neg (by rw [ex1]; decide)]; rw [if_neg (by rw [ex1]; decide)]; rw [if_pos ex1]; exact ⟨hR.1.2.2.2.2.1, rfl⟩)
  by_cases k1_3 : x1 = 3
  · refine s_tswIn dX11_count_1 (tgt := 61) (by rw [k1_3]; decide) (by rw [k1_3]; decide) (off := 60) (by rw [k1_3]; decide) (by decide) ?_
    replace ex1 := ex1.symm.trans k1_3
    clear k1_3 k1_2 k1_1 k1_0
    refine s_aload_nr (j := 0) dX11_count_61 rfl ?_
    refine gX_X11_12 dX11_count_62 rfl ?_
    refine gX_X11_221 (w := 0) (by decide) dX11_count_65 rfl ?_
    exact e_iret dX11_count_68 rfl (by unfold sp_count; rw [if_neg (by rw [ex1]; decide)]; rw [if_neg (by rw [ex1]; decide)]; rw [if_neg (by rw [ex1]; decide)]; rw [if_pos ex1]; exact ⟨hR.1.2.2.2.2.2, rfl⟩)
  by_cases k1_4 : x1 = 4
  · refine s_tswIn dX11_count_1 (tgt := 69) (by rw [k1_4]; decide) (by rw [k1_4]; decide) (off := 68) (by rw [k1_4]; decide) (by decide) ?_
    replace ex1 := ex1.symm.trans k1_4
    clear k1_4 k1_3 k1_2 k1_1 k1_0
    refine s_aload_nr (j := 0) dX11_count_69 rfl ?_
    refine gX_X11_27 dX11_count_70 rfl ?_
    refine gX_X11_134 dX11_count_73 rfl ?_
    exact e_iret dX11_count_76 rfl (by unfold sp_count; rw [if_neg (by rw [ex1]; decide)]; rw [if_neg (by rw [ex1]; decide)]; rw [if_neg (by rw [ex1]; decide)]; rw [if_neg (by rw [ex1]; decide)]; rw [if_pos ex1]; exact ⟨h26, rfl⟩)
  by_cases k1_5 : x1 = 5
  · refine s_tswIn dX11_count_1 (tgt := 77) (by rw [k1_5]; decide) (by rw [k1_5]; decide) (off := 76) (by rw [k1_5]; decide) (by decide) ?_
    replace ex1 := ex1.symm.trans k1_5
    clear k1_5 k1_4 k1_3 k1_2 k1_1 k1_0
    refine s_aload_nr (j := 0) dX11_count_77 rfl ?_
    refine gX_X11_46 dX11_count_78 rfl ?_
    refine s_V0i cv_X11_269 rfl dX11_count_81 xg_Jx4a65c rfl (Nat.le_of_ble_eq_true rfl) (x_size _ X M D) (fun y81 h81 q81 => ?_)
    obtain ⟨rfl, rfl⟩ := q81
    exact e_iret dX11_count_84 rfl (by unfold sp_count; rw [if_neg (by rw [ex1]; decide)]; rw [if_neg (by rw [ex1]; decide)]; rw [if_neg (by rw [ex1]; decide)]; rw [if_neg (by rw [ex1]; decide)]; rw [if_neg (by rw [ex1]; decide)]; rw [if_pos ex1]; exact ⟨h53, rfl⟩)
  refine s_tswOut dX11_count_1 (tgt := 85) (by have a0 := lv_neT (a := 0) k1_0 rfl; have a1 := lv_neT (a := 1) k1_1 rfl; have a2 := lv_neT (a := 2) k1_2 rfl; have a3 := lv_neT (a := 3) k1_3 rfl; have a4 := lv_neT (a := 4) k1_4 rfl; have a5 := lv_neT (a := 5) k1_5 rfl; omega) (by decide) ?_
  replace k1_0 : ¬ _ = _ := fun z => k1_0 (ex1.trans z)
  replace k1_1 : ¬ _ = _ := fun z => k1_1 (ex1.trans z)
  replace k1_2 : ¬ _ = _ := fun z => k1_2 (ex1.trans z)
  replace k1_3 : ¬ _ = _ := fun z => k1_3 (ex1.trans z)
  replace k1_4 : ¬ _ = _ := fun z => k1_4 (ex1.trans z)
  replace k1_5 : ¬ _ = _ := fun z => k1_5 (ex1.trans z)
  clear ex1
  refine s_bipush (v := -2) dX11_count_85 (by decide) ?_
  exact e_iret dX11_count_87 rfl (by unfold sp_count; rw [if_neg k1_0, if_neg k1_1, if_neg k1_2, if_neg k1_3, if_neg k1_4, if_neg k1_5]; exact ⟨rfl, rfl⟩)
