set_option maxRecDepth 100000 in
set_option maxHeartbeats 800000 in
theorem m_takesTest (d : Nat) (P D : HP) (M : MZ) (hP : P.length = 95) (a : Nat) (dg : Int32) (bs : Nat) (Sg0 W : Nat → Int32) (Wl0 tk0 : List Int32) (N : Nat) (hN : M.1 6 = nI N) (hN1 : N ≤ 100) (ha : a ≤ 100) (h1 : SGL Sg0 bs tk0) (h2 : TWL W Wl0) (h3 : bs + tk0.length + Wl0.length + 1 ≤ 600) (h4 : Wl0.length ≤ 101) : Con (d + 3) qX12_takesTest 0 0 [.ref 95] (mh P (pst M (nI a) dg (nI (bs + tk0.length)) (nI Wl0.length) (nI (cO Wl0)) Sg0 W) D) (PI fun y h => (ttP (M.2.1 6) N a ∧ y = 1 ∧ ∃ dg2, RD M P D bs (ttA (M.2.1 6) N a) dg2 (whW Wl0) (whT Wl0 (ttV (M.2.1 6) N a :: tk0)) Sg0 W h) ∨ (¬ ttP (M.2.1 6) N a ∧ y = 0 ∧ ∃ dg2, h = mh P (pst M (nI (ttA (M.2.1 6) N a)) dg2 (nI (bs + tk0.length)) (nI Wl0.length) (nI (cO Wl0)) Sg0 W) D)) := by
  refine Con.of (by decide +kernel) (Nat.le_of_ble_eq_true rfl) ?_
  show Sem (d + 3) qX12_takesTest 0 0 0 [(0, .ref 95)] [] (mh P (pst M (nI a) dg (nI (bs + tk0.length)) (nI Wl0.length) (nI (cO Wl0)) Sg0 W) D) _
  refine s_aload_nr (j := 0) dX12_takesTest_0 rfl ?_
  refine s_aload_nr (j := 0) dX12_takesTest_1 rfl ?_
  refine s_V0i cv_X12_214 rfl dX12_takesTest_2 (mh_get (k := 0) hP rfl) rfl (Nat.le_of_ble_eq_true rfl) (m_next _ P D M hP a _ _ _ _ _ _ N hN hN1 (by omega)) (fun y2 h2 q2 => ?_)
  obtain ⟨rfl, rfl⟩ := q2
  refine s_V1i cv_X12_229 rfl dX12_takesTest_5 (mh_get (k := 0) hP rfl) rfl (Nat.le_of_ble_eq_true rfl) (m_place _ P D _ hP _) (fun y5 h5 q5 => ?_)
  obtain ⟨rfl, rfl⟩ := q5
  refine s_istore_n dX12_takesTest_8 (by decide) rfl ?_
  refine s_iload_n (j := 0) dX12_takesTest_9 rfl ?_
  refine s_if_ge dX12_takesTest_10 (tgt := 15) (by decide) (fun c10 => ?_) (fun c10 => ?_)
  · refine s_aload_nr (j := 1) dX12_takesTest_15 rfl ?_
    refine s_dup dX12_takesTest_16 rfl ?_
    refine gP_at dX12_takesTest_17 rfl hP ?_
    refine s_iconst (v := 1) dX12_takesTest_20 (by decide) ?_
    refine s_iadd dX12_takesTest_21 ?_
    refine pP_at dX12_takesTest_22 rfl hP ?_
    rw [nI_1]
    refine s_aload_nr (j := 1) dX12_takesTest_25 rfl ?_
    refine s_V0i cv_X12_214 rfl dX12_takesTest_26 (mh_get (k := 0) hP rfl) rfl (Nat.le_of_ble_eq_true rfl) (m_next _ P D M hP (a + 1) _ _ _ _ _ _ N hN hN1 (by omega)) (fun y26 h26 q26 => ?_)
    obtain ⟨rfl, rfl⟩ := q26
    refine s_istore_n dX12_takesTest_29 (by decide) rfl ?_
    refine s_aload_nr (j := 2) dX12_takesTest_30 rfl ?_
    refine s_iload_n (j := 0) dX12_takesTest_31 rfl ?_
    refine s_bipush (v := 60) dX12_takesTest_32 (by decide) ?_
    refine s_bipush (v := 62) dX12_takesTest_34 (by decide) ?_
    refine s_V3i cv_X12_203 rfl dX12_takesTest_36 (mh_get (k := 0) hP rfl) rfl (Nat.le_of_ble_eq_true rfl) (m_in _ P D _ hP _ _ _) (fun y36 h36 q36 => ?_)
    obtain ⟨rfl, rfl⟩ := q36
    refine s_if_ne dX12_takesTest_39 (tgt := 44) (by decide) (fun c39 => ?_) (fun c39 => ?_)
    · replace c39 := b2i_n0.mp c39
      refine s_aload_nr (j := 2) dX12_takesTest_44 rfl ?_
      refine s_dup dX12_takesTest_45 rfl ?_
      refine gP_at dX12_takesTest_46 rfl hP ?_
      refine s_iconst (v := 1) dX12_takesTest_49 (by decide) ?_
      refine s_iadd dX12_takesTest_50 ?_
      refine pP_at dX12_takesTest_51 rfl hP ?_
      rw [nI_1]
      refine s_aload_nr (j := 2) dX12_takesTest_54 rfl ?_
      refine s_V0i cv_X12_233 rfl dX12_takesTest_55 (mh_get (k := 0) hP rfl) rfl (Nat.le_of_ble_eq_true rfl) (m_takesNumber _ P D M hP (a + 2) _ _ _ _ _ _ N hN hN1 (by omega)) (fun y55 h55 q55 => ?_)
      obtain ⟨rfl, dg2, hdg, rfl⟩ := q55
      refine s_if_ne dX12_takesTest_58 (tgt := 63) (by decide) (fun c58 => ?_) (fun c58 => ?_)
      · replace c58 := b2i_n0.mp c58
        obtain rfl := hdg c58
        refine s_aload_nr (j := 2) dX12_takesTest_63 rfl ?_
        refine s_sipush (v := 1000) dX12_takesTest_64 (by decide) ?_
        refine s_iload_n (j := 1) dX12_takesTest_67 rfl ?_
        refine s_imul dX12_takesTest_68 ?_
        refine s_bipush (v := 100) dX12_takesTest_69 (by decide) ?_
        refine s_iload_n (j := 0) dX12_takesTest_71 rfl ?_
        refine s_bipush (v := 60) dX12_takesTest_72 (by decide) ?_
        refine s_isub dX12_takesTest_74 ?_
        refine s_imul dX12_takesTest_75 ?_
        refine s_iadd dX12_takesTest_76 ?_
        refine s_aload_nr (j := 2) dX12_takesTest_77 rfl ?_
        refine gP_digits dX12_takesTest_78 rfl hP ?_
        refine s_iadd dX12_takesTest_81 ?_
        refine s_V1v cv_X12_225 rfl dX12_takesTest_82 (mh_get (k := 0) hP rfl) rfl (Nat.le_of_ble_eq_true rfl) (m_emits _ P D M hP (a + 2 + nbK (M.2.1 6) N (a + 2)) _ (bs + tk0.length) (by omega) _ _ _ _ _) (fun h82 q82 => ?_)
        obtain rfl := q82
        refine s_aload_nr (j := 2) dX12_takesTest_85 rfl ?_
        refine s_V0v cv_X12_236 rfl dX12_takesTest_86 (mh_get (k := 0) hP rfl) rfl (Nat.le_of_ble_eq_true rfl) (m_whole _ P D M hP _ _ bs _ W Wl0 (ttV (M.2.1 6) N a :: tk0) (h1.put _) h2 (by rw [List.length_cons]; omega) h4) (fun h86 q86 => ?_)
        refine s_iconst (v := 1) dX12_takesTest_89 (by decide) ?_
        exact e_zret dX12_takesTest_90 rfl (by first | rfl | exact b2i_z | decide) (by exact Or.inl ⟨⟨c10, c39, c58⟩, rfl, _, by rw [ttA, if_neg (Int32.not_lt.mpr c10), if_pos c39]; exact q86.fr (fun j hj => if_neg (by omega))⟩)
      · replace c58 := b2i_0.mp c58
        refine s_iconst (v := 0) dX12_takesTest_61 (by decide) ?_
        exact e_zret dX12_takesTest_62 rfl (by first | rfl | exact b2i_z | decide) (by exact Or.inr ⟨fun z => c58 z.2.2, rfl, dg2, by rw [ttA, if_neg (Int32.not_lt.mpr c10), if_pos c39]⟩)
    · replace c39 := b2i_0.mp c39
      refine s_iconst (v := 0) dX12_takesTest_42 (by decide) ?_
      exact e_zret dX12_takesTest_43 rfl (by first | rfl | exact b2i_z | decide) (by exact Or.inr ⟨fun z => c39 z.2.1, rfl, dg, by rw [ttA, if_neg (Int32.not_lt.mpr c10), if_neg c39]⟩)
  · refine s_iconst (v := 0) dX12_takesTest_13 (by decide) ?_
    exact e_zret dX12_takesTest_14 rfl (by first | rfl | exact b2i_z | decide) (by exact Or.inr ⟨fun z => c10 z.1, rfl, dg, by rw [ttA, if_pos (Int32.not_le.mp c10)]⟩)
