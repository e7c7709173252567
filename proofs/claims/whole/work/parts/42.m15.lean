set_option maxRecDepth 100000 in
set_option maxHeartbeats 800000 in
theorem m_takesHead (d : Nat) (P D : HP) (M : MZ) (hP : P.length = 95) (a0 : Nat) (dg sn wt op : Int32) (Sg W : Nat → Int32) (N : Nat) (hN : M.1 6 = nI N) (hN1 : N ≤ 100) (ha : a0 ≤ 200) (c : Int32) (hc : vp_in c 60) : Con (d + 3) qX12_takesHead 0 0 [.ref 95, .int c] (mh P (pst M (nI a0) dg sn wt op Sg W) D) (PI fun y h => y = b2i ((hdR (M.2.1 6) N (M.2.1 14) a0).1 = true) ∧ h = mh P (pst (msa M 8 (pz c) (hdW (M.2.1 6) N a0)) (nI (hdR (M.2.1 6) N (M.2.1 14) a0).2) dg sn wt op Sg W) D) := by
  refine Con.of (by decide +kernel) (Nat.le_of_ble_eq_true rfl) ?_
  show Sem (d + 3) qX12_takesHead 0 0 0 [(0, .ref 95), (1, .int c)] [] (mh P (pst M (nI a0) dg sn wt op Sg W) D) _
  refine s_aload_nr (j := 0) dX12_takesHead_0 rfl ?_
  refine s_V0i cv_X12_214 rfl dX12_takesHead_1 (mh_get (k := 0) hP rfl) rfl (Nat.le_of_ble_eq_true rfl) (m_next _ P D M hP a0 _ _ _ _ _ _ N hN hN1 (by omega)) (fun y1 h1 q1 => ?_)
  obtain ⟨rfl, rfl⟩ := q1
  refine s_topi (fun x4 ex4 => ?_)
  by_cases k4_0 : x4 = 105
  · refine s_lsw dX12_takesHead_4 (tgt := 32) (by decide) (off := 28) (by rw [k4_0]; decide) (by decide) ?_
    replace ex4 := ex4.symm.trans k4_0
    clear k4_0
    refine s_aload_nr (j := 0) dX12_takesHead_32 rfl ?_
    refine gP_word dX12_takesHead_33 rfl hP ?_
    refine s_iload_n (j := 1) dX12_takesHead_36 rfl ?_
    refine s_iconst (v := 0) dX12_takesHead_37 (by decide) ?_
    refine sP_word dX12_takesHead_38 hP (by exact hc) ?_
    refine s_aload_nr (j := 0) dX12_takesHead_39 rfl ?_
    refine s_iconst (v := 0) dX12_takesHead_40 (by decide) ?_
    refine s_iconst (v := 2) dX12_takesHead_41 (by decide) ?_
    refine s_V2i cv_X12_245 rfl dX12_takesHead_42 (mh_get (k := 0) hP rfl) rfl (Nat.le_of_ble_eq_true rfl) (m_takesWord _ P D (msa M 8 (pz c) 0) hP a0 _ _ _ _ _ _ N hN hN1 ha 0 2 (by decide)) (fun y42 h42 q42 => ?_)
    obtain ⟨rfl, rfl⟩ := q42
    exact e_zret dX12_takesHead_45 rfl (b2i_z) (by rw [hdR, hdW, if_pos ex4, if_pos ex4]; exact ⟨rfl, rfl⟩)
  by_cases k4_1 : x4 = 119
  · refine s_lsw dX12_takesHead_4 (tgt := 46) (by decide) (off := 42) (by rw [k4_1]; decide) (by decide) ?_
    replace ex4 := ex4.symm.trans k4_1
    clear k4_1 k4_0
    refine s_aload_nr (j := 0) dX12_takesHead_46 rfl ?_
    refine gP_word dX12_takesHead_47 rfl hP ?_
    refine s_iload_n (j := 1) dX12_takesHead_50 rfl ?_
    refine s_iconst (v := 1) dX12_takesHead_51 (by decide) ?_
    refine sP_word dX12_takesHead_52 hP (by exact hc) ?_
    refine s_aload_nr (j := 0) dX12_takesHead_53 rfl ?_
    refine s_iconst (v := 2) dX12_takesHead_54 (by decide) ?_
    refine s_iconst (v := 3) dX12_takesHead_55 (by decide) ?_
    refine s_V2i cv_X12_245 rfl dX12_takesHead_56 (mh_get (k := 0) hP rfl) rfl (Nat.le_of_ble_eq_true rfl) (m_takesWord _ P D (msa M 8 (pz c) 1) hP a0 _ _ _ _ _ _ N hN hN1 ha 2 3 (by decide)) (fun y56 h56 q56 => ?_)
    obtain ⟨rfl, rfl⟩ := q56
    exact e_zret dX12_takesHead_59 rfl (b2i_z) (by rw [hdR, hdW, if_neg (by rw [ex4]; decide), if_pos ex4, if_neg (by rw [ex4]; decide), if_pos ex4]; exact ⟨rfl, rfl⟩)
  refine s_lsw dX12_takesHead_4 (tgt := 60) (by decide) (off := 56) (by show Op.lookupswitch.offset [(105, 28), (119, 42)] _ _ = _; rw [lv_osw (a := 105) k4_0 rfl, lv_osw (a := 119) k4_1 rfl]; rfl) (by decide) ?_
  replace k4_0 : ¬ _ = _ := fun z => k4_0 (ex4.trans z)
  replace k4_1 : ¬ _ = _ := fun z => k4_1 (ex4.trans z)
  clear ex4
  refine s_aload_nr (j := 0) dX12_takesHead_60 rfl ?_
  refine gP_word dX12_takesHead_61 rfl hP ?_
  refine s_iload_n (j := 1) dX12_takesHead_64 rfl ?_
  refine s_iconst (v := 2) dX12_takesHead_65 (by decide) ?_
  refine sP_word dX12_takesHead_66 hP (by exact hc) ?_
  refine s_aload_nr (j := 0) dX12_takesHead_67 rfl ?_
  refine s_iconst (v := 5) dX12_takesHead_68 (by decide) ?_
  refine s_iconst (v := 3) dX12_takesHead_69 (by decide) ?_
  refine s_V2i cv_X12_245 rfl dX12_takesHead_70 (mh_get (k := 0) hP rfl) rfl (Nat.le_of_ble_eq_true rfl) (m_takesWord _ P D (msa M 8 (pz c) 2) hP a0 _ _ _ _ _ _ N hN hN1 ha 5 3 (by decide)) (fun y70 h70 q70 => ?_)
  obtain ⟨rfl, rfl⟩ := q70
  exact e_zret dX12_takesHead_73 rfl (b2i_z) (by rw [hdR, hdW, if_neg k4_0, if_neg k4_1, if_neg k4_0, if_neg k4_1]; exact ⟨rfl, rfl⟩)
