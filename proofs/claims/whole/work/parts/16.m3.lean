set_option maxRecDepth 100000 in
set_option maxHeartbeats 4000000 in
theorem m_score (d : Nat) (P D : HP) (M : MZ) (hP : P.length = 95) (a b : Int32) : Con (d + 1) qX12_score 0 0 [.ref 95, .int a, .int b] (mh P M D) (PI fun y h => y = (sp_score M a b).1 ∧ h = mh P (sp_score M a b).2 D) := by
  refine Con.of (by decide +kernel) (Nat.le_of_ble_eq_true rfl) ?_
  show Sem (d + 1) qX12_score 0 0 0 [(0, .ref 95), (1, .int a), (2, .int b)] [] (mh P M D) _
  refine s_aload_nr (j := 0) dX12_score_0 rfl ?_
  refine s_iload_n (j := 1) dX12_score_1 rfl ?_
  refine s_iconst (v := 0) dX12_score_2 (by decide) ?_
  refine s_iconst (v := 4) dX12_score_3 (by decide) ?_
  refine s_V3i cv_X12_203 rfl dX12_score_4 (mh_get (k := 0) hP rfl) rfl (Nat.le_of_ble_eq_true rfl) (m_in _ P D _ hP _ _ _) (fun y4 h4 q4 => ?_)
  obtain ⟨rfl, rfl⟩ := q4
  refine s_if_eq dX12_score_7 (tgt := 28) (by decide) (fun c7 => ?_) (fun c7 => ?_)
  · replace c7 := b2i_0.mp c7
    refine s_bipush (v := -2) dX12_score_28 (by decide) ?_
    exact e_iret dX12_score_30 rfl (by unfold sp_score; (first | rw [if_pos c7] | rw [if_neg c7] | skip); first | exact ⟨rfl, rfl⟩ | contradiction | (exfalso; (try simp only [Int32.not_lt, Int32.not_le, Int32.le_iff_toInt_le, Int32.lt_iff_toInt_lt, ← Int32.toInt_inj] at *); (try simp at *); omega) | (simp_all; done))
  · replace c7 := b2i_n0.mp c7
    refine s_aload_nr (j := 0) dX12_score_10 rfl ?_
    refine s_iload_n (j := 2) dX12_score_11 rfl ?_
    refine s_iconst (v := 0) dX12_score_12 (by decide) ?_
    refine s_iconst (v := 4) dX12_score_13 (by decide) ?_
    refine s_V3i cv_X12_203 rfl dX12_score_14 (mh_get (k := 0) hP rfl) rfl (Nat.le_of_ble_eq_true rfl) (m_in _ P D _ hP _ _ _) (fun y14 h14 q14 => ?_)
    obtain ⟨rfl, rfl⟩ := q14
    refine s_if_eq dX12_score_17 (tgt := 28) (by decide) (fun c17 => ?_) (fun c17 => ?_)
    · replace c17 := b2i_0.mp c17
      refine s_bipush (v := -2) dX12_score_28 (by decide) ?_
      exact e_iret dX12_score_30 rfl (by unfold sp_score; (first | rw [if_pos c7] | rw [if_neg c7] | skip); (first | rw [if_pos c17] | rw [if_neg c17] | skip); first | exact ⟨rfl, rfl⟩ | contradiction | (exfalso; (try simp only [Int32.not_lt, Int32.not_le, Int32.le_iff_toInt_le, Int32.lt_iff_toInt_lt, ← Int32.toInt_inj] at *); (try simp at *); omega) | (simp_all; done))
    · replace c17 := b2i_n0.mp c17
      refine s_iload_n (j := 1) dX12_score_20 rfl ?_
      refine s_iload_n (j := 2) dX12_score_21 rfl ?_
      refine s_iadd dX12_score_22 ?_
      refine s_bipush (v := 8) dX12_score_23 (by decide) ?_
      refine s_icmp_ne dX12_score_25 (tgt := 31) (by decide) (fun c25 => ?_) (fun c25 => ?_)
      · refine s_aload_nr (j := 0) dX12_score_31 rfl ?_
        refine s_iload_n (j := 1) dX12_score_32 rfl ?_
        refine pM_won dX12_score_33 rfl hP ?_
        refine s_aload_nr (j := 0) dX12_score_36 rfl ?_
        refine s_iload_n (j := 2) dX12_score_37 rfl ?_
        refine pM_lost dX12_score_38 rfl hP ?_
        refine s_iconst (v := 1) dX12_score_41 (by decide) ?_
        exact e_iret dX12_score_42 rfl (by unfold sp_score; (first | rw [if_pos c7] | rw [if_neg c7] | skip); (first | rw [if_pos c17] | rw [if_neg c17] | skip); (first | rw [if_pos c25] | rw [if_neg c25] | skip); first | exact ⟨rfl, rfl⟩ | contradiction | (exfalso; (try simp only [Int32.not_lt, Int32.not_le, Int32.le_iff_toInt_le, Int32.lt_iff_toInt_lt, ← Int32.toInt_inj] at *); (try simp at *); omega) | (simp_all; done))
      · refine s_bipush (v := -2) dX12_score_28 (by decide) ?_
        exact e_iret dX12_score_30 rfl (by unfold sp_score; (first | rw [if_pos c7] | rw [if_neg c7] | skip); (first | rw [if_pos c17] | rw [if_neg c17] | skip); (first | rw [if_pos c25] | rw [if_neg c25] | skip); first | exact ⟨rfl, rfl⟩ | contradiction | (exfalso; (try simp only [Int32.not_lt, Int32.not_le, Int32.le_iff_toInt_le, Int32.lt_iff_toInt_lt, ← Int32.toInt_inj] at *); (try simp at *); omega) | (simp_all; done))

set_option maxRecDepth 100000 in
set_option maxHeartbeats 4000000 in
theorem m_feed (d : Nat) (P D : HP) (M : MZ) (hP : P.length = 95) (s : Int32) (h0 : 0 ≤ M.1 6 ∧ M.1 6 ≤ 100) : Con (d + 1) qX12_feed 0 0 [.ref 95, .int s] (mh P M D) (PI fun y h => y = (sp_feed M s).1 ∧ h = mh P (sp_feed M s).2 D) := by
  refine Con.of (by decide +kernel) (Nat.le_of_ble_eq_true rfl) ?_
  show Sem (d + 1) qX12_feed 0 0 0 [(0, .ref 95), (1, .int s)] [] (mh P M D) _
  refine s_aload_nr (j := 0) dX12_feed_0 rfl ?_
  refine s_iload_n (j := 1) dX12_feed_1 rfl ?_
  refine s_iconst (v := 0) dX12_feed_2 (by decide) ?_
  refine s_bipush (v := 127) dX12_feed_3 (by decide) ?_
  refine s_V3i cv_X12_203 rfl dX12_feed_5 (mh_get (k := 0) hP rfl) rfl (Nat.le_of_ble_eq_true rfl) (m_in _ P D _ hP _ _ _) (fun y5 h5 q5 => ?_)
  obtain ⟨rfl, rfl⟩ := q5
  refine s_if_ne dX12_feed_8 (tgt := 14) (by decide) (fun c8 => ?_) (fun c8 => ?_)
  · replace c8 := b2i_n0.mp c8
    refine s_aload_nr (j := 0) dX12_feed_14 rfl ?_
    refine gM_fed dX12_feed_15 rfl hP ?_
    refine s_bipush (v := 100) dX12_feed_18 (by decide) ?_
    refine s_icmp_ne dX12_feed_20 (tgt := 26) (by decide) (fun c20 => ?_) (fun c20 => ?_)
    · refine s_aload_nr (j := 0) dX12_feed_26 rfl ?_
      refine gM_text dX12_feed_27 rfl hP ?_
      refine s_aload_nr (j := 0) dX12_feed_30 rfl ?_
      refine gM_fed dX12_feed_31 rfl hP ?_
      refine s_iload_n (j := 1) dX12_feed_34 rfl ?_
      refine sM_text dX12_feed_35 hP (by exact cnt_in h0.1 h0.2 c20 rfl) ?_
      refine s_aload_nr (j := 0) dX12_feed_36 rfl ?_
      refine s_dup dX12_feed_37 rfl ?_
      refine gM_fed dX12_feed_38 rfl hP ?_
      refine s_iconst (v := 1) dX12_feed_41 (by decide) ?_
      refine s_iadd dX12_feed_42 ?_
      refine pM_fed dX12_feed_43 rfl hP ?_
      refine s_aload_nr (j := 0) dX12_feed_46 rfl ?_
      refine gM_fed dX12_feed_47 rfl hP ?_
      exact e_iret dX12_feed_50 rfl (by unfold sp_feed; (first | rw [if_pos c8] | rw [if_neg c8] | skip); (first | rw [if_pos c20] | rw [if_neg c20] | skip); first | exact ⟨rfl, rfl⟩ | contradiction | (exfalso; (try simp only [Int32.not_lt, Int32.not_le, Int32.le_iff_toInt_le, Int32.lt_iff_toInt_lt, ← Int32.toInt_inj] at *); (try simp at *); omega) | (simp_all; done))
    · refine s_bipush (v := -4) dX12_feed_23 (by decide) ?_
      exact e_iret dX12_feed_25 rfl (by unfold sp_feed; (first | rw [if_pos c8] | rw [if_neg c8] | skip); (first | rw [if_pos c20] | rw [if_neg c20] | skip); first | exact ⟨rfl, rfl⟩ | contradiction | (exfalso; (try simp only [Int32.not_lt, Int32.not_le, Int32.le_iff_toInt_le, Int32.lt_iff_toInt_lt, ← Int32.toInt_inj] at *); (try simp at *); omega) | (simp_all; done))
  · replace c8 := b2i_0.mp c8
    refine s_bipush (v := -2) dX12_feed_11 (by decide) ?_
    exact e_iret dX12_feed_13 rfl (by unfold sp_feed; (first | rw [if_pos c8] | rw [if_neg c8] | skip); first | exact ⟨rfl, rfl⟩ | contradiction | (exfalso; (try simp only [Int32.not_lt, Int32.not_le, Int32.le_iff_toInt_le, Int32.lt_iff_toInt_lt, ← Int32.toInt_inj] at *); (try simp at *); omega) | (simp_all; done))

set_option maxRecDepth 100000 in
set_option maxHeartbeats 4000000 in
theorem m_see (d : Nat) (P D : HP) (M : MZ) (hP : P.length = 95) (a b : Int32) (h0 : 0 ≤ M.1 12 ∧ M.1 12 ≤ 6) : Con (d + 2) qX12_see 0 0 [.ref 95, .int a, .int b] (mh P M D) (PI fun y h => y = (sp_see M a b).1 ∧ h = mh P (sp_see M a b).2 D) := by
  refine Con.of (by decide +kernel) (Nat.le_of_ble_eq_true rfl) ?_
  show Sem (d + 2) qX12_see 0 0 0 [(0, .ref 95), (1, .int a), (2, .int b)] [] (mh P M D) _
  refine s_iload_n (j := 1) dX12_see_0 rfl ?_
  refine s_iconst (v := -1) dX12_see_1 (by decide) ?_
  refine s_icmp_ne dX12_see_2 (tgt := 12) (by decide) (fun c2 => ?_) (fun c2 => ?_)
  · refine s_aload_nr (j := 0) dX12_see_12 rfl ?_
    refine s_iload_n (j := 1) dX12_see_13 rfl ?_
    refine s_V1i cv_X12_207 rfl dX12_see_14 (mh_get (k := 0) hP rfl) rfl (Nat.le_of_ble_eq_true rfl) (m_isForce _ P D _ hP _) (fun y14 h14 q14 => ?_)
    obtain ⟨rfl, rfl⟩ := q14
    refine s_if_eq dX12_see_17 (tgt := 28) (by decide) (fun c17 => ?_) (fun c17 => ?_)
    · replace c17 := b2i_0.mp c17
      refine s_iconst (v := -1) dX12_see_28 (by decide) ?_
      exact e_iret dX12_see_29 rfl (by unfold sp_see; (first | rw [if_pos c2] | rw [if_neg c2] | skip); (first | rw [if_pos c17] | rw [if_neg c17] | skip); first | exact ⟨rfl, rfl⟩ | contradiction | (exfalso; (try simp only [Int32.not_lt, Int32.not_le, Int32.le_iff_toInt_le, Int32.lt_iff_toInt_lt, ← Int32.toInt_inj] at *); (try simp at *); omega) | (simp_all; done))
    · replace c17 := b2i_n0.mp c17
      refine s_aload_nr (j := 0) dX12_see_20 rfl ?_
      refine s_iload_n (j := 2) dX12_see_21 rfl ?_
      refine s_V1i cv_X12_207 rfl dX12_see_22 (mh_get (k := 0) hP rfl) rfl (Nat.le_of_ble_eq_true rfl) (m_isForce _ P D _ hP _) (fun y22 h22 q22 => ?_)
      obtain ⟨rfl, rfl⟩ := q22
      refine s_if_ne dX12_see_25 (tgt := 30) (by decide) (fun c25 => ?_) (fun c25 => ?_)
      · replace c25 := b2i_n0.mp c25
        refine s_aload_nr (j := 0) dX12_see_30 rfl ?_
        refine gM_seen dX12_see_31 rfl hP ?_
        refine s_bipush (v := 6) dX12_see_34 (by decide) ?_
        refine s_icmp_ne dX12_see_36 (tgt := 42) (by decide) (fun c36 => ?_) (fun c36 => ?_)
        · refine s_aload_nr (j := 0) dX12_see_42 rfl ?_
          refine gM_seenOne dX12_see_43 rfl hP ?_
          refine s_aload_nr (j := 0) dX12_see_46 rfl ?_
          refine gM_seen dX12_see_47 rfl hP ?_
          refine s_iload_n (j := 1) dX12_see_50 rfl ?_
          refine sM_seenOne dX12_see_51 hP (by exact cnt_in h0.1 h0.2 c36 rfl) ?_
          refine s_aload_nr (j := 0) dX12_see_52 rfl ?_
          refine gM_seenTwo dX12_see_53 rfl hP ?_
          refine s_aload_nr (j := 0) dX12_see_56 rfl ?_
          refine gM_seen dX12_see_57 rfl hP ?_
          refine s_iload_n (j := 2) dX12_see_60 rfl ?_
          refine sM_seenTwo dX12_see_61 hP (by exact cnt_in h0.1 h0.2 c36 rfl) ?_
          refine s_aload_nr (j := 0) dX12_see_62 rfl ?_
          refine s_dup dX12_see_63 rfl ?_
          refine gM_seen dX12_see_64 rfl hP ?_
          refine s_iconst (v := 1) dX12_see_67 (by decide) ?_
          refine s_iadd dX12_see_68 ?_
          refine pM_seen dX12_see_69 rfl hP ?_
          refine s_aload_nr (j := 0) dX12_see_72 rfl ?_
          refine gM_seen dX12_see_73 rfl hP ?_
          exact e_iret dX12_see_76 rfl (by unfold sp_see; (first | rw [if_pos c2] | rw [if_neg c2] | skip); (first | rw [if_pos c17] | rw [if_neg c17] | skip); (first | rw [if_pos c25] | rw [if_neg c25] | skip); (first | rw [if_pos c36] | rw [if_neg c36] | skip); first | exact ⟨rfl, rfl⟩ | contradiction | (exfalso; (try simp only [Int32.not_lt, Int32.not_le, Int32.le_iff_toInt_le, Int32.lt_iff_toInt_lt, ← Int32.toInt_inj] at *); (try simp at *); omega) | (simp_all; done))
        · refine s_bipush (v := -4) dX12_see_39 (by decide) ?_
          exact e_iret dX12_see_41 rfl (by unfold sp_see; (first | rw [if_pos c2] | rw [if_neg c2] | skip); (first | rw [if_pos c17] | rw [if_neg c17] | skip); (first | rw [if_pos c25] | rw [if_neg c25] | skip); (first | rw [if_pos c36] | rw [if_neg c36] | skip); first | exact ⟨rfl, rfl⟩ | contradiction | (exfalso; (try simp only [Int32.not_lt, Int32.not_le, Int32.le_iff_toInt_le, Int32.lt_iff_toInt_lt, ← Int32.toInt_inj] at *); (try simp at *); omega) | (simp_all; done))
      · replace c25 := b2i_0.mp c25
        refine s_iconst (v := -1) dX12_see_28 (by decide) ?_
        exact e_iret dX12_see_29 rfl (by unfold sp_see; (first | rw [if_pos c2] | rw [if_neg c2] | skip); (first | rw [if_pos c17] | rw [if_neg c17] | skip); (first | rw [if_pos c25] | rw [if_neg c25] | skip); first | exact ⟨rfl, rfl⟩ | contradiction | (exfalso; (try simp only [Int32.not_lt, Int32.not_le, Int32.le_iff_toInt_le, Int32.lt_iff_toInt_lt, ← Int32.toInt_inj] at *); (try simp at *); omega) | (simp_all; done))
  · refine s_aload_nr (j := 0) dX12_see_5 rfl ?_
    refine s_iconst (v := 0) dX12_see_6 (by decide) ?_
    refine pM_seen dX12_see_7 rfl hP ?_
    refine s_iconst (v := 0) dX12_see_10 (by decide) ?_
    exact e_iret dX12_see_11 rfl (by unfold sp_see; (first | rw [if_pos c2] | rw [if_neg c2] | skip); first | exact ⟨rfl, rfl⟩ | contradiction | (exfalso; (try simp only [Int32.not_lt, Int32.not_le, Int32.le_iff_toInt_le, Int32.lt_iff_toInt_lt, ← Int32.toInt_inj] at *); (try simp at *); omega) | (simp_all; done))

set_option maxRecDepth 100000 in
set_option maxHeartbeats 4000000 in
theorem m_book (d : Nat) (P D : HP) (M : MZ) (hP : P.length = 95) (p a b : Int32) (h0 : 0 ≤ M.1 13 ∧ M.1 13 ≤ 10) : Con (d + 2) qX12_book 0 0 [.ref 95, .int p, .int a, .int b] (mh P M D) (PI fun y h => y = (sp_book M p a b).1 ∧ h = mh P (sp_book M p a b).2 D) := by
  refine Con.of (by decide +kernel) (Nat.le_of_ble_eq_true rfl) ?_
  show Sem (d + 2) qX12_book 0 0 0 [(0, .ref 95), (1, .int p), (2, .int a), (3, .int b)] [] (mh P M D) _
  refine s_iload_n (j := 1) dX12_book_0 rfl ?_
  refine s_iconst (v := -1) dX12_book_1 (by decide) ?_
  refine s_icmp_ne dX12_book_2 (tgt := 12) (by decide) (fun c2 => ?_) (fun c2 => ?_)
  · refine s_aload_nr (j := 0) dX12_book_12 rfl ?_
    refine s_iload_n (j := 1) dX12_book_13 rfl ?_
    refine s_V1i cv_X12_211 rfl dX12_book_14 (mh_get (k := 0) hP rfl) rfl (Nat.le_of_ble_eq_true rfl) (m_isServer _ P D _ hP _) (fun y14 h14 q14 => ?_)
    obtain ⟨rfl, rfl⟩ := q14
    refine s_if_ne dX12_book_17 (tgt := 22) (by decide) (fun c17 => ?_) (fun c17 => ?_)
    · replace c17 := b2i_n0.mp c17
      refine s_aload_nr (j := 0) dX12_book_22 rfl ?_
      refine s_iload_n (j := 2) dX12_book_23 rfl ?_
      refine s_iload_n (j := 3) dX12_book_24 rfl ?_
      refine s_V2i cv_X12_299 rfl dX12_book_25 (mh_get (k := 0) hP rfl) rfl (Nat.le_of_ble_eq_true rfl) (m_areDraws _ P D _ hP _ _) (fun y25 h25 q25 => ?_)
      obtain ⟨rfl, rfl⟩ := q25
      refine s_if_ne dX12_book_28 (tgt := 34) (by decide) (fun c28 => ?_) (fun c28 => ?_)
      · replace c28 := b2i_n0.mp c28
        refine s_aload_nr (j := 0) dX12_book_34 rfl ?_
        refine gM_books dX12_book_35 rfl hP ?_
        refine s_bipush (v := 10) dX12_book_38 (by decide) ?_
        refine s_icmp_ne dX12_book_40 (tgt := 46) (by decide) (fun c40 => ?_) (fun c40 => ?_)
        · refine s_aload_nr (j := 0) dX12_book_46 rfl ?_
          refine gM_bookWho dX12_book_47 rfl hP ?_
          refine s_aload_nr (j := 0) dX12_book_50 rfl ?_
          refine gM_books dX12_book_51 rfl hP ?_
          refine s_iload_n (j := 1) dX12_book_54 rfl ?_
          refine sM_bookWho dX12_book_55 hP (by exact cnt_in h0.1 h0.2 c40 rfl) ?_
          refine s_aload_nr (j := 0) dX12_book_56 rfl ?_
          refine gM_bookOne dX12_book_57 rfl hP ?_
          refine s_aload_nr (j := 0) dX12_book_60 rfl ?_
          refine gM_books dX12_book_61 rfl hP ?_
          refine s_iload_n (j := 2) dX12_book_64 rfl ?_
          refine sM_bookOne dX12_book_65 hP (by exact cnt_in h0.1 h0.2 c40 rfl) ?_
          refine s_aload_nr (j := 0) dX12_book_66 rfl ?_
          refine gM_bookTwo dX12_book_67 rfl hP ?_
          refine s_aload_nr (j := 0) dX12_book_70 rfl ?_
          refine gM_books dX12_book_71 rfl hP ?_
          refine s_iload_n (j := 3) dX12_book_74 rfl ?_
          refine sM_bookTwo dX12_book_75 hP (by exact cnt_in h0.1 h0.2 c40 rfl) ?_
          refine s_aload_nr (j := 0) dX12_book_76 rfl ?_
          refine s_dup dX12_book_77 rfl ?_
          refine gM_books dX12_book_78 rfl hP ?_
          refine s_iconst (v := 1) dX12_book_81 (by decide) ?_
          refine s_iadd dX12_book_82 ?_
          refine pM_books dX12_book_83 rfl hP ?_
          refine s_aload_nr (j := 0) dX12_book_86 rfl ?_
          refine gM_books dX12_book_87 rfl hP ?_
          exact e_iret dX12_book_90 rfl (by unfold sp_book; (first | rw [if_pos c2] | rw [if_neg c2] | skip); (first | rw [if_pos c17] | rw [if_neg c17] | skip); (first | rw [if_pos c28] | rw [if_neg c28] | skip); (first | rw [if_pos c40] | rw [if_neg c40] | skip); first | exact ⟨rfl, rfl⟩ | contradiction | (exfalso; (try simp only [Int32.not_lt, Int32.not_le, Int32.le_iff_toInt_le, Int32.lt_iff_toInt_lt, ← Int32.toInt_inj] at *); (try simp at *); omega) | (simp_all; done))
        · refine s_bipush (v := -4) dX12_book_43 (by decide) ?_
          exact e_iret dX12_book_45 rfl (by unfold sp_book; (first | rw [if_pos c2] | rw [if_neg c2] | skip); (first | rw [if_pos c17] | rw [if_neg c17] | skip); (first | rw [if_pos c28] | rw [if_neg c28] | skip); (first | rw [if_pos c40] | rw [if_neg c40] | skip); first | exact ⟨rfl, rfl⟩ | contradiction | (exfalso; (try simp only [Int32.not_lt, Int32.not_le, Int32.le_iff_toInt_le, Int32.lt_iff_toInt_lt, ← Int32.toInt_inj] at *); (try simp at *); omega) | (simp_all; done))
      · replace c28 := b2i_0.mp c28
        refine s_bipush (v := -2) dX12_book_31 (by decide) ?_
        exact e_iret dX12_book_33 rfl (by unfold sp_book; (first | rw [if_pos c2] | rw [if_neg c2] | skip); (first | rw [if_pos c17] | rw [if_neg c17] | skip); (first | rw [if_pos c28] | rw [if_neg c28] | skip); first | exact ⟨rfl, rfl⟩ | contradiction | (exfalso; (try simp only [Int32.not_lt, Int32.not_le, Int32.le_iff_toInt_le, Int32.lt_iff_toInt_lt, ← Int32.toInt_inj] at *); (try simp at *); omega) | (simp_all; done))
    · replace c17 := b2i_0.mp c17
      refine s_iconst (v := -1) dX12_book_20 (by decide) ?_
      exact e_iret dX12_book_21 rfl (by unfold sp_book; (first | rw [if_pos c2] | rw [if_neg c2] | skip); (first | rw [if_pos c17] | rw [if_neg c17] | skip); first | exact ⟨rfl, rfl⟩ | contradiction | (exfalso; (try simp only [Int32.not_lt, Int32.not_le, Int32.le_iff_toInt_le, Int32.lt_iff_toInt_lt, ← Int32.toInt_inj] at *); (try simp at *); omega) | (simp_all; done))
  · refine s_aload_nr (j := 0) dX12_book_5 rfl ?_
    refine s_iconst (v := 0) dX12_book_6 (by decide) ?_
    refine pM_books dX12_book_7 rfl hP ?_
    refine s_iconst (v := 0) dX12_book_10 (by decide) ?_
    exact e_iret dX12_book_11 rfl (by unfold sp_book; (first | rw [if_pos c2] | rw [if_neg c2] | skip); first | exact ⟨rfl, rfl⟩ | contradiction | (exfalso; (try simp only [Int32.not_lt, Int32.not_le, Int32.le_iff_toInt_le, Int32.lt_iff_toInt_lt, ← Int32.toInt_inj] at *); (try simp at *); omega) | (simp_all; done))

set_option maxRecDepth 100000 in
set_option maxHeartbeats 4000000 in
theorem m_set (d : Nat) (P D : HP) (M : MZ) (hP : P.length = 95) (p w n : Int32) (hz : 0 ≤ M.1 0 ∧ M.1 0 ≤ 4) : Con (d + 2) qX12_set 0 0 [.ref 95, .int p, .int w, .int n] (mh P M D) (PI fun y h => y = (sp_set M p w n).1 ∧ h = mh P (sp_set M p w n).2 D) := by
  refine Con.of (by decide +kernel) (Nat.le_of_ble_eq_true rfl) ?_
  show Sem (d + 2) qX12_set 0 0 0 [(0, .ref 95), (1, .int p), (2, .int w), (3, .int n)] [] (mh P M D) _
  refine s_aload_nr (j := 0) dX12_set_0 rfl ?_
  refine s_iload_n (j := 1) dX12_set_1 rfl ?_
  refine s_V1i cv_X12_211 rfl dX12_set_2 (mh_get (k := 0) hP rfl) rfl (Nat.le_of_ble_eq_true rfl) (m_isServer _ P D _ hP _) (fun y2 h2 q2 => ?_)
  obtain ⟨rfl, rfl⟩ := q2
  refine s_if_eq dX12_set_5 (tgt := 18) (by decide) (fun c5 => ?_) (fun c5 => ?_)
  · replace c5 := b2i_0.mp c5
    refine s_iconst (v := -1) dX12_set_18 (by decide) ?_
    exact e_iret dX12_set_19 rfl (by unfold sp_set; (first | rw [if_pos c5] | rw [if_neg c5] | skip); first | exact ⟨rfl, rfl⟩ | contradiction | (exfalso; (try simp only [Int32.not_lt, Int32.not_le, Int32.le_iff_toInt_le, Int32.lt_iff_toInt_lt, ← Int32.toInt_inj] at *); (try simp at *); omega) | (simp_all; done))
  · replace c5 := b2i_n0.mp c5
    refine s_aload_nr (j := 0) dX12_set_8 rfl ?_
    refine s_iload_n (j := 2) dX12_set_9 rfl ?_
    refine s_iconst (v := 0) dX12_set_10 (by decide) ?_
    refine s_iconst (v := 2) dX12_set_11 (by decide) ?_
    refine s_V3i cv_X12_203 rfl dX12_set_12 (mh_get (k := 0) hP rfl) rfl (Nat.le_of_ble_eq_true rfl) (m_in _ P D _ hP _ _ _) (fun y12 h12 q12 => ?_)
    obtain ⟨rfl, rfl⟩ := q12
    refine s_if_ne dX12_set_15 (tgt := 20) (by decide) (fun c15 => ?_) (fun c15 => ?_)
    · replace c15 := b2i_n0.mp c15
      refine s_aload_nr (j := 0) dX12_set_20 rfl ?_
      refine s_iload_n (j := 3) dX12_set_21 rfl ?_
      refine s_iconst (v := 0) dX12_set_22 (by decide) ?_
      refine s_iload_n (j := 2) dX12_set_23 rfl ?_
      refine s_iconst (v := 2) dX12_set_24 (by decide) ?_
      refine s_icmp_ne dX12_set_25 (tgt := 34) (by decide) (fun c25 => ?_) (fun c25 => ?_)
      · refine s_bipush (v := 9) dX12_set_34 (by decide) ?_
        refine s_V3i cv_X12_203 rfl dX12_set_36 (mh_get (k := 0) hP rfl) rfl (Nat.le_of_ble_eq_true rfl) (m_in _ P D _ hP _ _ _) (fun y36 h36 q36 => ?_)
        obtain ⟨rfl, rfl⟩ := q36
        refine s_if_ne dX12_set_39 (tgt := 45) (by decide) (fun c39 => ?_) (fun c39 => ?_)
        · replace c39 := b2i_n0.mp c39
          refine s_iload_n (j := 2) dX12_set_45 rfl ?_
          refine s_if_ne dX12_set_46 (tgt := 58) (by decide) (fun c46 => ?_) (fun c46 => ?_)
          · refine s_iload_n (j := 2) dX12_set_58 rfl ?_
            refine s_iconst (v := 1) dX12_set_59 (by decide) ?_
            refine s_icmp_ne dX12_set_60 (tgt := 72) (by decide) (fun c60 => ?_) (fun c60 => ?_)
            · refine s_aload_nr (j := 0) dX12_set_72 rfl ?_
              refine gM_served dX12_set_73 rfl hP ?_
              refine s_iload_n (j := 1) dX12_set_76 rfl ?_
              refine lM 5 dX12_set_77 hP rfl (by exact in4_of hz c5) ?_
              refine s_istore dX12_set_78 (by decide) rfl ?_
              refine s_iload_n (j := 3) dX12_set_80 rfl ?_
              refine s_if_ne dX12_set_81 (tgt := 94) (by decide) (fun c81 => ?_) (fun c81 => ?_)
              · refine s_iload_n (j := 3) dX12_set_94 rfl ?_
                refine s_iconst (v := 1) dX12_set_95 (by decide) ?_
                refine s_icmp_ne dX12_set_96 (tgt := 109) (by decide) (fun c96 => ?_) (fun c96 => ?_)
                · refine s_aload_nr (j := 1) dX12_set_109 rfl ?_
                  refine gM_served dX12_set_110 rfl hP ?_
                  refine s_iload_n (j := 2) dX12_set_113 rfl ?_
                  refine s_iload_n (j := 4) dX12_set_114 rfl ?_
                  refine sM_served dX12_set_115 hP (by exact in4_of hz c5) ?_
                  refine s_iload (j := 0) dX12_set_116 rfl ?_
                  exact e_iret dX12_set_118 rfl (by unfold sp_set; (first | rw [if_pos c5] | rw [if_neg c5] | skip); (first | rw [if_pos c15] | rw [if_neg c15] | skip); (first | rw [if_pos c25] | rw [if_neg c25] | skip); (first | rw [if_pos c39] | rw [if_neg c39] | skip); (first | rw [if_pos c46] | rw [if_neg c46] | skip); (first | rw [if_pos c60] | rw [if_neg c60] | skip); (first | rw [if_pos c81] | rw [if_neg c81] | skip); (first | rw [if_pos c96] | rw [if_neg c96] | skip); first | exact ⟨rfl, rfl⟩ | contradiction | (exfalso; (try simp only [Int32.not_lt, Int32.not_le, Int32.le_iff_toInt_le, Int32.lt_iff_toInt_lt, ← Int32.toInt_inj] at *); (try simp at *); omega) | (simp_all; done))
                · refine s_aload_nr (j := 1) dX12_set_99 rfl ?_
                  refine gM_soft dX12_set_100 rfl hP ?_
                  refine s_iload_n (j := 2) dX12_set_103 rfl ?_
                  refine s_iload_n (j := 4) dX12_set_104 rfl ?_
                  refine sM_soft dX12_set_105 hP (by exact in4_of hz c5) ?_
                  refine s_goto dX12_set_106 (tgt := 116) (by decide) ?_
                  refine s_iload (j := 0) dX12_set_116 rfl ?_
                  exact e_iret dX12_set_118 rfl (by unfold sp_set; (first | rw [if_pos c5] | rw [if_neg c5] | skip); (first | rw [if_pos c15] | rw [if_neg c15] | skip); (first | rw [if_pos c25] | rw [if_neg c25] | skip); (first | rw [if_pos c39] | rw [if_neg c39] | skip); (first | rw [if_pos c46] | rw [if_neg c46] | skip); (first | rw [if_pos c60] | rw [if_neg c60] | skip); (first | rw [if_pos c81] | rw [if_neg c81] | skip); (first | rw [if_pos c96] | rw [if_neg c96] | skip); first | exact ⟨rfl, rfl⟩ | contradiction | (exfalso; (try simp only [Int32.not_lt, Int32.not_le, Int32.le_iff_toInt_le, Int32.lt_iff_toInt_lt, ← Int32.toInt_inj] at *); (try simp at *); omega) | (simp_all; done))
              · refine s_aload_nr (j := 1) dX12_set_84 rfl ?_
                refine gM_hard dX12_set_85 rfl hP ?_
                refine s_iload_n (j := 2) dX12_set_88 rfl ?_
                refine s_iload_n (j := 4) dX12_set_89 rfl ?_
                refine sM_hard dX12_set_90 hP (by exact in4_of hz c5) ?_
                refine s_goto dX12_set_91 (tgt := 116) (by decide) ?_
                refine s_iload (j := 0) dX12_set_116 rfl ?_
                exact e_iret dX12_set_118 rfl (by unfold sp_set; (first | rw [if_pos c5] | rw [if_neg c5] | skip); (first | rw [if_pos c15] | rw [if_neg c15] | skip); (first | rw [if_pos c25] | rw [if_neg c25] | skip); (first | rw [if_pos c39] | rw [if_neg c39] | skip); (first | rw [if_pos c46] | rw [if_neg c46] | skip); (first | rw [if_pos c60] | rw [if_neg c60] | skip); (first | rw [if_pos c81] | rw [if_neg c81] | skip); first | exact ⟨rfl, rfl⟩ | contradiction | (exfalso; (try simp only [Int32.not_lt, Int32.not_le, Int32.le_iff_toInt_le, Int32.lt_iff_toInt_lt, ← Int32.toInt_inj] at *); (try simp at *); omega) | (simp_all; done))
            · refine s_aload_nr (j := 0) dX12_set_63 rfl ?_
              refine gM_soft dX12_set_64 rfl hP ?_
              refine s_iload_n (j := 1) dX12_set_67 rfl ?_
              refine lM 4 dX12_set_68 hP rfl (by exact in4_of hz c5) ?_
              refine s_goto dX12_set_69 (tgt := 78) (by decide) ?_
              refine s_istore dX12_set_78 (by decide) rfl ?_
              refine s_iload_n (j := 3) dX12_set_80 rfl ?_
              refine s_if_ne dX12_set_81 (tgt := 94) (by decide) (fun c81 => ?_) (fun c81 => ?_)
              · refine s_iload_n (j := 3) dX12_set_94 rfl ?_
                refine s_iconst (v := 1) dX12_set_95 (by decide) ?_
                refine s_icmp_ne dX12_set_96 (tgt := 109) (by decide) (fun c96 => ?_) (fun c96 => ?_)
                · refine s_aload_nr (j := 1) dX12_set_109 rfl ?_
                  refine gM_served dX12_set_110 rfl hP ?_
                  refine s_iload_n (j := 2) dX12_set_113 rfl ?_
                  refine s_iload_n (j := 4) dX12_set_114 rfl ?_
                  refine sM_served dX12_set_115 hP (by exact in4_of hz c5) ?_
                  refine s_iload (j := 0) dX12_set_116 rfl ?_
                  exact e_iret dX12_set_118 rfl (by unfold sp_set; (first | rw [if_pos c5] | rw [if_neg c5] | skip); (first | rw [if_pos c15] | rw [if_neg c15] | skip); (first | rw [if_pos c25] | rw [if_neg c25] | skip); (first | rw [if_pos c39] | rw [if_neg c39] | skip); (first | rw [if_pos c46] | rw [if_neg c46] | skip); (first | rw [if_pos c60] | rw [if_neg c60] | skip); (first | rw [if_pos c81] | rw [if_neg c81] | skip); (first | rw [if_pos c96] | rw [if_neg c96] | skip); first | exact ⟨rfl, rfl⟩ | contradiction | (exfalso; (try simp only [Int32.not_lt, Int32.not_le, Int32.le_iff_toInt_le, Int32.lt_iff_toInt_lt, ← Int32.toInt_inj] at *); (try simp at *); omega) | (simp_all; done))
                · refine s_aload_nr (j := 1) dX12_set_99 rfl ?_
                  refine gM_soft dX12_set_100 rfl hP ?_
                  refine s_iload_n (j := 2) dX12_set_103 rfl ?_
                  refine s_iload_n (j := 4) dX12_set_104 rfl ?_
                  refine sM_soft dX12_set_105 hP (by exact in4_of hz c5) ?_
                  refine s_goto dX12_set_106 (tgt := 116) (by decide) ?_
                  refine s_iload (j := 0) dX12_set_116 rfl ?_
                  exact e_iret dX12_set_118 rfl (by unfold sp_set; (first | rw [if_pos c5] | rw [if_neg c5] | skip); (first | rw [if_pos c15] | rw [if_neg c15] | skip); (first | rw [if_pos c25] | rw [if_neg c25] | skip); (first | rw [if_pos c39] | rw [if_neg c39] | skip); (first | rw [if_pos c46] | rw [if_neg c46] | skip); (first | rw [if_pos c60] | rw [if_neg c60] | skip); (first | rw [if_pos c81] | rw [if_neg c81] | skip); (first | rw [if_pos c96] | rw [if_neg c96] | skip); first | exact ⟨rfl, rfl⟩ | contradiction | (exfalso; (try simp only [Int32.not_lt, Int32.not_le, Int32.le_iff_toInt_le, Int32.lt_iff_toInt_lt, ← Int32.toInt_inj] at *); (try simp at *); omega) | (simp_all; done))
              · refine s_aload_nr (j := 1) dX12_set_84 rfl ?_
                refine gM_hard dX12_set_85 rfl hP ?_
                refine s_iload_n (j := 2) dX12_set_88 rfl ?_
                refine s_iload_n (j := 4) dX12_set_89 rfl ?_
                refine sM_hard dX12_set_90 hP (by exact in4_of hz c5) ?_
                refine s_goto dX12_set_91 (tgt := 116) (by decide) ?_
                refine s_iload (j := 0) dX12_set_116 rfl ?_
                exact e_iret dX12_set_118 rfl (by unfold sp_set; (first | rw [if_pos c5] | rw [if_neg c5] | skip); (first | rw [if_pos c15] | rw [if_neg c15] | skip); (first | rw [if_pos c25] | rw [if_neg c25] | skip); (first | rw [if_pos c39] | rw [if_neg c39] | skip); (first | rw [if_pos c46] | rw [if_neg c46] | skip); (first | rw [if_pos c60] | rw [if_neg c60] | skip); (first | rw [if_pos c81] | rw [if_neg c81] | skip); first | exact ⟨rfl, rfl⟩ | contradiction | (exfalso; (try simp only [Int32.not_lt, Int32.not_le, Int32.le_iff_toInt_le, Int32.lt_iff_toInt_lt, ← Int32.toInt_inj] at *); (try simp at *); omega) | (simp_all; done))
          · refine s_aload_nr (j := 0) dX12_set_49 rfl ?_
            refine gM_hard dX12_set_50 rfl hP ?_
            refine s_iload_n (j := 1) dX12_set_53 rfl ?_
            refine lM 3 dX12_set_54 hP rfl (by exact in4_of hz c5) ?_
            refine s_goto dX12_set_55 (tgt := 78) (by decide) ?_
            refine s_istore dX12_set_78 (by decide) rfl ?_
            refine s_iload_n (j := 3) dX12_set_80 rfl ?_
            refine s_if_ne dX12_set_81 (tgt := 94) (by decide) (fun c81 => ?_) (fun c81 => ?_)
            · refine s_iload_n (j := 3) dX12_set_94 rfl ?_
              refine s_iconst (v := 1) dX12_set_95 (by decide) ?_
              refine s_icmp_ne dX12_set_96 (tgt := 109) (by decide) (fun c96 => ?_) (fun c96 => ?_)
              · refine s_aload_nr (j := 1) dX12_set_109 rfl ?_
                refine gM_served dX12_set_110 rfl hP ?_
                refine s_iload_n (j := 2) dX12_set_113 rfl ?_
                refine s_iload_n (j := 4) dX12_set_114 rfl ?_
                refine sM_served dX12_set_115 hP (by exact in4_of hz c5) ?_
                refine s_iload (j := 0) dX12_set_116 rfl ?_
                exact e_iret dX12_set_118 rfl (by unfold sp_set; (first | rw [if_pos c5] | rw [if_neg c5] | skip); (first | rw [if_pos c15] | rw [if_neg c15] | skip); (first | rw [if_pos c25] | rw [if_neg c25] | skip); (first | rw [if_pos c39] | rw [if_neg c39] | skip); (first | rw [if_pos c46] | rw [if_neg c46] | skip); (first | rw [if_pos c81] | rw [if_neg c81] | skip); (first | rw [if_pos c96] | rw [if_neg c96] | skip); first | exact ⟨rfl, rfl⟩ | contradiction | (exfalso; (try simp only [Int32.not_lt, Int32.not_le, Int32.le_iff_toInt_le, Int32.lt_iff_toInt_lt, ← Int32.toInt_inj] at *); (try simp at *); omega) | (simp_all; done))
              · refine s_aload_nr (j := 1) dX12_set_99 rfl ?_
                refine gM_soft dX12_set_100 rfl hP ?_
                refine s_iload_n (j := 2) dX12_set_103 rfl ?_
                refine s_iload_n (j := 4) dX12_set_104 rfl ?_
                refine sM_soft dX12_set_105 hP (by exact in4_of hz c5) ?_
                refine s_goto dX12_set_106 (tgt := 116) (by decide) ?_
                refine s_iload (j := 0) dX12_set_116 rfl ?_
                exact e_iret dX12_set_118 rfl (by unfold sp_set; (first | rw [if_pos c5] | rw [if_neg c5] | skip); (first | rw [if_pos c15] | rw [if_neg c15] | skip); (first | rw [if_pos c25] | rw [if_neg c25] | skip); (first | rw [if_pos c39] | rw [if_neg c39] | skip); (first | rw [if_pos c46] | rw [if_neg c46] | skip); (first | rw [if_pos c81] | rw [if_neg c81] | skip); (first | rw [if_pos c96] | rw [if_neg c96] | skip); first | exact ⟨rfl, rfl⟩ | contradiction | (exfalso; (try simp only [Int32.not_lt, Int32.not_le, Int32.le_iff_toInt_le, Int32.lt_iff_toInt_lt, ← Int32.toInt_inj] at *); (try simp at *); omega) | (simp_all; done))
            · refine s_aload_nr (j := 1) dX12_set_84 rfl ?_
              refine gM_hard dX12_set_85 rfl hP ?_
              refine s_iload_n (j := 2) dX12_set_88 rfl ?_
              refine s_iload_n (j := 4) dX12_set_89 rfl ?_
              refine sM_hard dX12_set_90 hP (by exact in4_of hz c5) ?_
              refine s_goto dX12_set_91 (tgt := 116) (by decide) ?_
              refine s_iload (j := 0) dX12_set_116 rfl ?_
              exact e_iret dX12_set_118 rfl (by unfold sp_set; (first | rw [if_pos c5] | rw [if_neg c5] | skip); (first | rw [if_pos c15] | rw [if_neg c15] | skip); (first | rw [if_pos c25] | rw [if_neg c25] | skip); (first | rw [if_pos c39] | rw [if_neg c39] | skip); (first | rw [if_pos c46] | rw [if_neg c46] | skip); (first | rw [if_pos c81] | rw [if_neg c81] | skip); first | exact ⟨rfl, rfl⟩ | contradiction | (exfalso; (try simp only [Int32.not_lt, Int32.not_le, Int32.le_iff_toInt_le, Int32.lt_iff_toInt_lt, ← Int32.toInt_inj] at *); (try simp at *); omega) | (simp_all; done))
        · replace c39 := b2i_0.mp c39
          refine s_bipush (v := -2) dX12_set_42 (by decide) ?_
          exact e_iret dX12_set_44 rfl (by unfold sp_set; (first | rw [if_pos c5] | rw [if_neg c5] | skip); (first | rw [if_pos c15] | rw [if_neg c15] | skip); (first | rw [if_pos c25] | rw [if_neg c25] | skip); (first | rw [if_pos c39] | rw [if_neg c39] | skip); first | exact ⟨rfl, rfl⟩ | contradiction | (exfalso; (try simp only [Int32.not_lt, Int32.not_le, Int32.le_iff_toInt_le, Int32.lt_iff_toInt_lt, ← Int32.toInt_inj] at *); (try simp at *); omega) | (simp_all; done))
      · refine s_sipush (v := 9999) dX12_set_28 (by decide) ?_
        refine s_goto dX12_set_31 (tgt := 36) (by decide) ?_
        refine s_V3i cv_X12_203 rfl dX12_set_36 (mh_get (k := 0) hP rfl) rfl (Nat.le_of_ble_eq_true rfl) (m_in _ P D _ hP _ _ _) (fun y36 h36 q36 => ?_)
        obtain ⟨rfl, rfl⟩ := q36
        refine s_if_ne dX12_set_39 (tgt := 45) (by decide) (fun c39 => ?_) (fun c39 => ?_)
        · replace c39 := b2i_n0.mp c39
          refine s_iload_n (j := 2) dX12_set_45 rfl ?_
          refine s_if_ne dX12_set_46 (tgt := 58) (by decide) (fun c46 => ?_) (fun c46 => ?_)
          · refine s_iload_n (j := 2) dX12_set_58 rfl ?_
            refine s_iconst (v := 1) dX12_set_59 (by decide) ?_
            refine s_icmp_ne dX12_set_60 (tgt := 72) (by decide) (fun c60 => ?_) (fun c60 => ?_)
            · refine s_aload_nr (j := 0) dX12_set_72 rfl ?_
              refine gM_served dX12_set_73 rfl hP ?_
              refine s_iload_n (j := 1) dX12_set_76 rfl ?_
              refine lM 5 dX12_set_77 hP rfl (by exact in4_of hz c5) ?_
              refine s_istore dX12_set_78 (by decide) rfl ?_
              refine s_iload_n (j := 3) dX12_set_80 rfl ?_
              refine s_if_ne dX12_set_81 (tgt := 94) (by decide) (fun c81 => ?_) (fun c81 => ?_)
              · refine s_iload_n (j := 3) dX12_set_94 rfl ?_
                refine s_iconst (v := 1) dX12_set_95 (by decide) ?_
                refine s_icmp_ne dX12_set_96 (tgt := 109) (by decide) (fun c96 => ?_) (fun c96 => ?_)
                · refine s_aload_nr (j := 1) dX12_set_109 rfl ?_
                  refine gM_served dX12_set_110 rfl hP ?_
                  refine s_iload_n (j := 2) dX12_set_113 rfl ?_
                  refine s_iload_n (j := 4) dX12_set_114 rfl ?_
                  refine sM_served dX12_set_115 hP (by exact in4_of hz c5) ?_
                  refine s_iload (j := 0) dX12_set_116 rfl ?_
                  exact e_iret dX12_set_118 rfl (by unfold sp_set; (first | rw [if_pos c5] | rw [if_neg c5] | skip); (first | rw [if_pos c15] | rw [if_neg c15] | skip); (first | rw [if_pos c25] | rw [if_neg c25] | skip); (first | rw [if_pos c39] | rw [if_neg c39] | skip); (first | rw [if_pos c46] | rw [if_neg c46] | skip); (first | rw [if_pos c60] | rw [if_neg c60] | skip); (first | rw [if_pos c81] | rw [if_neg c81] | skip); (first | rw [if_pos c96] | rw [if_neg c96] | skip); first | exact ⟨rfl, rfl⟩ | contradiction | (exfalso; (try simp only [Int32.not_lt, Int32.not_le, Int32.le_iff_toInt_le, Int32.lt_iff_toInt_lt, ← Int32.toInt_inj] at *); (try simp at *); omega) | (simp_all; done))
                · refine s_aload_nr (j := 1) dX12_set_99 rfl ?_
                  refine gM_soft dX12_set_100 rfl hP ?_
                  refine s_iload_n (j := 2) dX12_set_103 rfl ?_
                  refine s_iload_n (j := 4) dX12_set_104 rfl ?_
                  refine sM_soft dX12_set_105 hP (by exact in4_of hz c5) ?_
                  refine s_goto dX12_set_106 (tgt := 116) (by decide) ?_
                  refine s_iload (j := 0) dX12_set_116 rfl ?_
                  exact e_iret dX12_set_118 rfl (by unfold sp_set; (first | rw [if_pos c5] | rw [if_neg c5] | skip); (first | rw [if_pos c15] | rw [if_neg c15] | skip); (first | rw [if_pos c25] | rw [if_neg c25] | skip); (first | rw [if_pos c39] | rw [if_neg c39] | skip); (first | rw [if_pos c46] | rw [if_neg c46] | skip); (first | rw [if_pos c60] | rw [if_neg c60] | skip); (first | rw [if_pos c81] | rw [if_neg c81] | skip); (first | rw [if_pos c96] | rw [if_neg c96] | skip); first | exact ⟨rfl, rfl⟩ | contradiction | (exfalso; (try simp only [Int32.not_lt, Int32.not_le, Int32.le_iff_toInt_le, Int32.lt_iff_toInt_lt, ← Int32.toInt_inj] at *); (try simp at *); omega) | (simp_all; done))
              · refine s_aload_nr (j := 1) dX12_set_84 rfl ?_
                refine gM_hard dX12_set_85 rfl hP ?_
                refine s_iload_n (j := 2) dX12_set_88 rfl ?_
                refine s_iload_n (j := 4) dX12_set_89 rfl ?_
                refine sM_hard dX12_set_90 hP (by exact in4_of hz c5) ?_
                refine s_goto dX12_set_91 (tgt := 116) (by decide) ?_
                refine s_iload (j := 0) dX12_set_116 rfl ?_
                exact e_iret dX12_set_118 rfl (by unfold sp_set; (first | rw [if_pos c5] | rw [if_neg c5] | skip); (first | rw [if_pos c15] | rw [if_neg c15] | skip); (first | rw [if_pos c25] | rw [if_neg c25] | skip); (first | rw [if_pos c39] | rw [if_neg c39] | skip); (first | rw [if_pos c46] | rw [if_neg c46] | skip); (first | rw [if_pos c60] | rw [if_neg c60] | skip); (first | rw [if_pos c81] | rw [if_neg c81] | skip); first | exact ⟨rfl, rfl⟩ | contradiction | (exfalso; (try simp only [Int32.not_lt, Int32.not_le, Int32.le_iff_toInt_le, Int32.lt_iff_toInt_lt, ← Int32.toInt_inj] at *); (try simp at *); omega) | (simp_all; done))
            · refine s_aload_nr (j := 0) dX12_set_63 rfl ?_
              refine gM_soft dX12_set_64 rfl hP ?_
              refine s_iload_n (j := 1) dX12_set_67 rfl ?_
              refine lM 4 dX12_set_68 hP rfl (by exact in4_of hz c5) ?_
              refine s_goto dX12_set_69 (tgt := 78) (by decide) ?_
              refine s_istore dX12_set_78 (by decide) rfl ?_
              refine s_iload_n (j := 3) dX12_set_80 rfl ?_
              refine s_if_ne dX12_set_81 (tgt := 94) (by decide) (fun c81 => ?_) (fun c81 => ?_)
              · refine s_iload_n (j := 3) dX12_set_94 rfl ?_
                refine s_iconst (v := 1) dX12_set_95 (by decide) ?_
                refine s_icmp_ne dX12_set_96 (tgt := 109) (by decide) (fun c96 => ?_) (fun c96 => ?_)
                · refine s_aload_nr (j := 1) dX12_set_109 rfl ?_
                  refine gM_served dX12_set_110 rfl hP ?_
                  refine s_iload_n (j := 2) dX12_set_113 rfl ?_
                  refine s_iload_n (j := 4) dX12_set_114 rfl ?_
                  refine sM_served dX12_set_115 hP (by exact in4_of hz c5) ?_
                  refine s_iload (j := 0) dX12_set_116 rfl ?_
                  exact e_iret dX12_set_118 rfl (by unfold sp_set; (first | rw [if_pos c5] | rw [if_neg c5] | skip); (first | rw [if_pos c15] | rw [if_neg c15] | skip); (first | rw [if_pos c25] | rw [if_neg c25] | skip); (first | rw [if_pos c39] | rw [if_neg c39] | skip); (first | rw [if_pos c46] | rw [if_neg c46] | skip); (first | rw [if_pos c60] | rw [if_neg c60] | skip); (first | rw [if_pos c81] | rw [if_neg c81] | skip); (first | rw [if_pos c96] | rw [if_neg c96] | skip); first | exact ⟨rfl, rfl⟩ | contradiction | (exfalso; (try simp only [Int32.not_lt, Int32.not_le, Int32.le_iff_toInt_le, Int32.lt_iff_toInt_lt, ← Int32.toInt_inj] at *); (try simp at *); omega) | (simp_all; done))
                · refine s_aload_nr (j := 1) dX12_set_99 rfl ?_
                  refine gM_soft dX12_set_100 rfl hP ?_
                  refine s_iload_n (j := 2) dX12_set_103 rfl ?_
                  refine s_iload_n (j := 4) dX12_set_104 rfl ?_
                  refine sM_soft dX12_set_105 hP (by exact in4_of hz c5) ?_
                  refine s_goto dX12_set_106 (tgt := 116) (by decide) ?_
                  refine s_iload (j := 0) dX12_set_116 rfl ?_
                  exact e_iret dX12_set_118 rfl (by unfold sp_set; (first | rw [if_pos c5] | rw [if_neg c5] | skip); (first | rw [if_pos c15] | rw [if_neg c15] | skip); (first | rw [if_pos c25] | rw [if_neg c25] | skip); (first | rw [if_pos c39] | rw [if_neg c39] | skip); (first | rw [if_pos c46] | rw [if_neg c46] | skip); (first | rw [if_pos c60] | rw [if_neg c60] | skip); (first | rw [if_pos c81] | rw [if_neg c81] | skip); (first | rw [if_pos c96] | rw [if_neg c96] | skip); first | exact ⟨rfl, rfl⟩ | contradiction | (exfalso; (try simp only [Int32.not_lt, Int32.not_le, Int32.le_iff_toInt_le, Int32.lt_iff_toInt_lt, ← Int32.toInt_inj] at *); (try simp at *); omega) | (simp_all; done))
              · refine s_aload_nr (j := 1) dX12_set_84 rfl ?_
                refine gM_hard dX12_set_85 rfl hP ?_
                refine s_iload_n (j := 2) dX12_set_88 rfl ?_
                refine s_iload_n (j := 4) dX12_set_89 rfl ?_
                refine sM_hard dX12_set_90 hP (by exact in4_of hz c5) ?_
                refine s_goto dX12_set_91 (tgt := 116) (by decide) ?_
                refine s_iload (j := 0) dX12_set_116 rfl ?_
                exact e_iret dX12_set_118 rfl (by unfold sp_set; (first | rw [if_pos c5] | rw [if_neg c5] | skip); (first | rw [if_pos c15] | rw [if_neg c15] | skip); (first | rw [if_pos c25] | rw [if_neg c25] | skip); (first | rw [if_pos c39] | rw [if_neg c39] | skip); (first | rw [if_pos c46] | rw [if_neg c46] | skip); (first | rw [if_pos c60] | rw [if_neg c60] | skip); (first | rw [if_pos c81] | rw [if_neg c81] | skip); first | exact ⟨rfl, rfl⟩ | contradiction | (exfalso; (try simp only [Int32.not_lt, Int32.not_le, Int32.le_iff_toInt_le, Int32.lt_iff_toInt_lt, ← Int32.toInt_inj] at *); (try simp at *); omega) | (simp_all; done))
          · refine s_aload_nr (j := 0) dX12_set_49 rfl ?_
            refine gM_hard dX12_set_50 rfl hP ?_
            refine s_iload_n (j := 1) dX12_set_53 rfl ?_
            refine lM 3 dX12_set_54 hP rfl (by exact in4_of hz c5) ?_
            refine s_goto dX12_set_55 (tgt := 78) (by decide) ?_
            refine s_istore dX12_set_78 (by decide) rfl ?_
            refine s_iload_n (j := 3) dX12_set_80 rfl ?_
            refine s_if_ne dX12_set_81 (tgt := 94) (by decide) (fun c81 => ?_) (fun c81 => ?_)
            · refine s_iload_n (j := 3) dX12_set_94 rfl ?_
              refine s_iconst (v := 1) dX12_set_95 (by decide) ?_
              refine s_icmp_ne dX12_set_96 (tgt := 109) (by decide) (fun c96 => ?_) (fun c96 => ?_)
              · refine s_aload_nr (j := 1) dX12_set_109 rfl ?_
                refine gM_served dX12_set_110 rfl hP ?_
                refine s_iload_n (j := 2) dX12_set_113 rfl ?_
                refine s_iload_n (j := 4) dX12_set_114 rfl ?_
                refine sM_served dX12_set_115 hP (by exact in4_of hz c5) ?_
                refine s_iload (j := 0) dX12_set_116 rfl ?_
                exact e_iret dX12_set_118 rfl (by unfold sp_set; (first | rw [if_pos c5] | rw [if_neg c5] | skip); (first | rw [if_pos c15] | rw [if_neg c15] | skip); (first | rw [if_pos c25] | rw [if_neg c25] | skip); (first | rw [if_pos c39] | rw [if_neg c39] | skip); (first | rw [if_pos c46] | rw [if_neg c46] | skip); (first | rw [if_pos c81] | rw [if_neg c81] | skip); (first | rw [if_pos c96] | rw [if_neg c96] | skip); first | exact ⟨rfl, rfl⟩ | contradiction | (exfalso; (try simp only [Int32.not_lt, Int32.not_le, Int32.le_iff_toInt_le, Int32.lt_iff_toInt_lt, ← Int32.toInt_inj] at *); (try simp at *); omega) | (simp_all; done))
              · refine s_aload_nr (j := 1) dX12_set_99 rfl ?_
                refine gM_soft dX12_set_100 rfl hP ?_
                refine s_iload_n (j := 2) dX12_set_103 rfl ?_
                refine s_iload_n (j := 4) dX12_set_104 rfl ?_
                refine sM_soft dX12_set_105 hP (by exact in4_of hz c5) ?_
                refine s_goto dX12_set_106 (tgt := 116) (by decide) ?_
                refine s_iload (j := 0) dX12_set_116 rfl ?_
                exact e_iret dX12_set_118 rfl (by unfold sp_set; (first | rw [if_pos c5] | rw [if_neg c5] | skip); (first | rw [if_pos c15] | rw [if_neg c15] | skip); (first | rw [if_pos c25] | rw [if_neg c25] | skip); (first | rw [if_pos c39] | rw [if_neg c39] | skip); (first | rw [if_pos c46] | rw [if_neg c46] | skip); (first | rw [if_pos c81] | rw [if_neg c81] | skip); (first | rw [if_pos c96] | rw [if_neg c96] | skip); first | exact ⟨rfl, rfl⟩ | contradiction | (exfalso; (try simp only [Int32.not_lt, Int32.not_le, Int32.le_iff_toInt_le, Int32.lt_iff_toInt_lt, ← Int32.toInt_inj] at *); (try simp at *); omega) | (simp_all; done))
            · refine s_aload_nr (j := 1) dX12_set_84 rfl ?_
              refine gM_hard dX12_set_85 rfl hP ?_
              refine s_iload_n (j := 2) dX12_set_88 rfl ?_
              refine s_iload_n (j := 4) dX12_set_89 rfl ?_
              refine sM_hard dX12_set_90 hP (by exact in4_of hz c5) ?_
              refine s_goto dX12_set_91 (tgt := 116) (by decide) ?_
              refine s_iload (j := 0) dX12_set_116 rfl ?_
              exact e_iret dX12_set_118 rfl (by unfold sp_set; (first | rw [if_pos c5] | rw [if_neg c5] | skip); (first | rw [if_pos c15] | rw [if_neg c15] | skip); (first | rw [if_pos c25] | rw [if_neg c25] | skip); (first | rw [if_pos c39] | rw [if_neg c39] | skip); (first | rw [if_pos c46] | rw [if_neg c46] | skip); (first | rw [if_pos c81] | rw [if_neg c81] | skip); first | exact ⟨rfl, rfl⟩ | contradiction | (exfalso; (try simp only [Int32.not_lt, Int32.not_le, Int32.le_iff_toInt_le, Int32.lt_iff_toInt_lt, ← Int32.toInt_inj] at *); (try simp at *); omega) | (simp_all; done))
        · replace c39 := b2i_0.mp c39
          refine s_bipush (v := -2) dX12_set_42 (by decide) ?_
          exact e_iret dX12_set_44 rfl (by unfold sp_set; (first | rw [if_pos c5] | rw [if_neg c5] | skip); (first | rw [if_pos c15] | rw [if_neg c15] | skip); (first | rw [if_pos c25] | rw [if_neg c25] | skip); (first | rw [if_pos c39] | rw [if_neg c39] | skip); first | exact ⟨rfl, rfl⟩ | contradiction | (exfalso; (try simp only [Int32.not_lt, Int32.not_le, Int32.le_iff_toInt_le, Int32.lt_iff_toInt_lt, ← Int32.toInt_inj] at *); (try simp at *); omega) | (simp_all; done))
    · replace c15 := b2i_0.mp c15
      refine s_iconst (v := -1) dX12_set_18 (by decide) ?_
      exact e_iret dX12_set_19 rfl (by unfold sp_set; (first | rw [if_pos c5] | rw [if_neg c5] | skip); (first | rw [if_pos c15] | rw [if_neg c15] | skip); first | exact ⟨rfl, rfl⟩ | contradiction | (exfalso; (try simp only [Int32.not_lt, Int32.not_le, Int32.le_iff_toInt_le, Int32.lt_iff_toInt_lt, ← Int32.toInt_inj] at *); (try simp at *); omega) | (simp_all; done))

set_option maxRecDepth 100000 in
set_option maxHeartbeats 4000000 in
theorem m_row (d : Nat) (P D : HP) (M : MZ) (hP : P.length = 95) (p w n : Int32) (hz : 0 ≤ M.1 0 ∧ M.1 0 ≤ 4) : Con (d + 2) qX12_row 0 0 [.ref 95, .int p, .int w, .int n] (mh P M D) (PI fun y h => y = (sp_row M p w n).1 ∧ h = mh P (sp_row M p w n).2 D) := by
  refine Con.of (by decide +kernel) (Nat.le_of_ble_eq_true rfl) ?_
  show Sem (d + 2) qX12_row 0 0 0 [(0, .ref 95), (1, .int p), (2, .int w), (3, .int n)] [] (mh P M D) _
  refine s_aload_nr (j := 0) dX12_row_0 rfl ?_
  refine s_iload_n (j := 1) dX12_row_1 rfl ?_
  refine s_V1i cv_X12_211 rfl dX12_row_2 (mh_get (k := 0) hP rfl) rfl (Nat.le_of_ble_eq_true rfl) (m_isServer _ P D _ hP _) (fun y2 h2 q2 => ?_)
  obtain ⟨rfl, rfl⟩ := q2
  refine s_if_eq dX12_row_5 (tgt := 18) (by decide) (fun c5 => ?_) (fun c5 => ?_)
  · replace c5 := b2i_0.mp c5
    refine s_iconst (v := -1) dX12_row_18 (by decide) ?_
    exact e_iret dX12_row_19 rfl (by unfold sp_row; (first | rw [if_pos c5] | rw [if_neg c5] | skip); first | exact ⟨rfl, rfl⟩ | contradiction | (exfalso; (try simp only [Int32.not_lt, Int32.not_le, Int32.le_iff_toInt_le, Int32.lt_iff_toInt_lt, ← Int32.toInt_inj] at *); (try simp at *); omega) | (simp_all; done))
  · replace c5 := b2i_n0.mp c5
    refine s_aload_nr (j := 0) dX12_row_8 rfl ?_
    refine s_iload_n (j := 2) dX12_row_9 rfl ?_
    refine s_iconst (v := 0) dX12_row_10 (by decide) ?_
    refine s_iconst (v := 3) dX12_row_11 (by decide) ?_
    refine s_V3i cv_X12_203 rfl dX12_row_12 (mh_get (k := 0) hP rfl) rfl (Nat.le_of_ble_eq_true rfl) (m_in _ P D _ hP _ _ _) (fun y12 h12 q12 => ?_)
    obtain ⟨rfl, rfl⟩ := q12
    refine s_if_ne dX12_row_15 (tgt := 20) (by decide) (fun c15 => ?_) (fun c15 => ?_)
    · replace c15 := b2i_n0.mp c15
      refine s_aload_nr (j := 0) dX12_row_20 rfl ?_
      refine s_iload_n (j := 3) dX12_row_21 rfl ?_
      refine s_V1i cv_X12_207 rfl dX12_row_22 (mh_get (k := 0) hP rfl) rfl (Nat.le_of_ble_eq_true rfl) (m_isForce _ P D _ hP _) (fun y22 h22 q22 => ?_)
      obtain ⟨rfl, rfl⟩ := q22
      refine s_if_ne dX12_row_25 (tgt := 31) (by decide) (fun c25 => ?_) (fun c25 => ?_)
      · replace c25 := b2i_n0.mp c25
        refine s_aload_nr (j := 0) dX12_row_31 rfl ?_
        refine gM_kind dX12_row_32 rfl hP ?_
        refine s_iload_n (j := 1) dX12_row_35 rfl ?_
        refine lM 1 dX12_row_36 hP rfl (by first | exact in4_of hz c5 | exact ix_in (in4_of hz c5) (rng_in (n := 4) c15 rfl) (c := 4) rfl (by decide) (by decide)) ?_
        refine s_bipush (v := 6) dX12_row_37 (by decide) ?_
        refine s_icmp_eq dX12_row_39 (tgt := 45) (by decide) (fun c39 => ?_) (fun c39 => ?_)
        · refine s_aload_nr (j := 0) dX12_row_45 rfl ?_
          refine gM_rows dX12_row_46 rfl hP ?_
          refine s_iconst (v := 4) dX12_row_49 (by decide) ?_
          refine s_iload_n (j := 1) dX12_row_50 rfl ?_
          refine s_imul dX12_row_51 ?_
          refine s_iload_n (j := 2) dX12_row_52 rfl ?_
          refine s_iadd dX12_row_53 ?_
          refine lM 6 dX12_row_54 hP rfl (by first | exact in4_of hz c5 | exact ix_in (in4_of hz c5) (rng_in (n := 4) c15 rfl) (c := 4) rfl (by decide) (by decide)) ?_
          refine s_istore dX12_row_55 (by decide) rfl ?_
          refine s_aload_nr (j := 1) dX12_row_57 rfl ?_
          refine gM_rows dX12_row_58 rfl hP ?_
          refine s_iconst (v := 4) dX12_row_61 (by decide) ?_
          refine s_iload_n (j := 2) dX12_row_62 rfl ?_
          refine s_imul dX12_row_63 ?_
          refine s_iload_n (j := 3) dX12_row_64 rfl ?_
          refine s_iadd dX12_row_65 ?_
          refine s_iload_n (j := 4) dX12_row_66 rfl ?_
          refine sM_rows dX12_row_67 hP (by first | exact in4_of hz c5 | exact ix_in (in4_of hz c5) (rng_in (n := 4) c15 rfl) (c := 4) rfl (by decide) (by decide)) ?_
          refine s_iload (j := 0) dX12_row_68 rfl ?_
          exact e_iret dX12_row_70 rfl (by unfold sp_row; (first | rw [if_pos c5] | rw [if_neg c5] | skip); (first | rw [if_pos c15] | rw [if_neg c15] | skip); (first | rw [if_pos c25] | rw [if_neg c25] | skip); (first | rw [if_pos c39] | rw [if_neg c39] | skip); first | exact ⟨rfl, rfl⟩ | contradiction | (exfalso; (try simp only [Int32.not_lt, Int32.not_le, Int32.le_iff_toInt_le, Int32.lt_iff_toInt_lt, ← Int32.toInt_inj] at *); (try simp at *); omega) | (simp_all; done))
        · refine s_bipush (v := -3) dX12_row_42 (by decide) ?_
          exact e_iret dX12_row_44 rfl (by unfold sp_row; (first | rw [if_pos c5] | rw [if_neg c5] | skip); (first | rw [if_pos c15] | rw [if_neg c15] | skip); (first | rw [if_pos c25] | rw [if_neg c25] | skip); (first | rw [if_pos c39] | rw [if_neg c39] | skip); first | exact ⟨rfl, rfl⟩ | contradiction | (exfalso; (try simp only [Int32.not_lt, Int32.not_le, Int32.le_iff_toInt_le, Int32.lt_iff_toInt_lt, ← Int32.toInt_inj] at *); (try simp at *); omega) | (simp_all; done))
      · replace c25 := b2i_0.mp c25
        refine s_bipush (v := -2) dX12_row_28 (by decide) ?_
        exact e_iret dX12_row_30 rfl (by unfold sp_row; (first | rw [if_pos c5] | rw [if_neg c5] | skip); (first | rw [if_pos c15] | rw [if_neg c15] | skip); (first | rw [if_pos c25] | rw [if_neg c25] | skip); first | exact ⟨rfl, rfl⟩ | contradiction | (exfalso; (try simp only [Int32.not_lt, Int32.not_le, Int32.le_iff_toInt_le, Int32.lt_iff_toInt_lt, ← Int32.toInt_inj] at *); (try simp at *); omega) | (simp_all; done))
    · replace c15 := b2i_0.mp c15
      refine s_iconst (v := -1) dX12_row_18 (by decide) ?_
      exact e_iret dX12_row_19 rfl (by unfold sp_row; (first | rw [if_pos c5] | rw [if_neg c5] | skip); (first | rw [if_pos c15] | rw [if_neg c15] | skip); first | exact ⟨rfl, rfl⟩ | contradiction | (exfalso; (try simp only [Int32.not_lt, Int32.not_le, Int32.le_iff_toInt_le, Int32.lt_iff_toInt_lt, ← Int32.toInt_inj] at *); (try simp at *); omega) | (simp_all; done))

set_option maxRecDepth 100000 in
set_option maxHeartbeats 4000000 in
theorem m_trace (d : Nat) (P D : HP) (M : MZ) (hP : P.length = 95) (i : Int32) : Con (d + 1) qX12_trace 0 0 [.ref 95, .int i] (mh P M D) (XI (sp_trace M i) (mh P M D)) := by
  refine Con.of (by decide +kernel) (Nat.le_of_ble_eq_true rfl) ?_
  show Sem (d + 1) qX12_trace 0 0 0 [(0, .ref 95), (1, .int i)] [] (mh P M D) _
  refine s_aload_nr (j := 0) dX12_trace_0 rfl ?_
  refine s_iload_n (j := 1) dX12_trace_1 rfl ?_
  refine s_iconst (v := 0) dX12_trace_2 (by decide) ?_
  refine s_bipush (v := 19) dX12_trace_3 (by decide) ?_
  refine s_V3i cv_X12_203 rfl dX12_trace_5 (mh_get (k := 0) hP rfl) rfl (Nat.le_of_ble_eq_true rfl) (m_in _ P D _ hP _ _ _) (fun y5 h5 q5 => ?_)
  obtain ⟨rfl, rfl⟩ := q5
  refine s_if_eq dX12_trace_8 (tgt := 28) (by decide) (fun c8 => ?_) (fun c8 => ?_)
  · replace c8 := b2i_0.mp c8
    refine s_iconst (v := -1) dX12_trace_28 (by decide) ?_
    exact e_iret dX12_trace_29 rfl (by unfold sp_trace; (first | rw [if_pos c8] | rw [if_neg c8] | skip); (first | rw [if_pos (Int32.not_le.mp c16)] | rw [if_neg (Int32.not_lt.mpr c16)] | skip); exact ⟨rfl, rfl⟩)
  · replace c8 := b2i_n0.mp c8
    refine s_iload_n (j := 1) dX12_trace_11 rfl ?_
    refine s_aload_nr (j := 0) dX12_trace_12 rfl ?_
    refine gM_ran dX12_trace_13 rfl hP ?_
    refine s_icmp_ge dX12_trace_16 (tgt := 28) (by decide) (fun c16 => ?_) (fun c16 => ?_)
    · refine s_iconst (v := -1) dX12_trace_28 (by decide) ?_
      exact e_iret dX12_trace_29 rfl (by unfold sp_trace; (first | rw [if_pos c8] | rw [if_neg c8] | skip); (first | rw [if_pos c16] | rw [if_neg c16] | skip); (first | rw [if_pos (Int32.not_le.mp c16)] | rw [if_neg (Int32.not_lt.mpr c16)] | skip); exact ⟨rfl, rfl⟩)
    · refine s_aload_nr (j := 0) dX12_trace_19 rfl ?_
      refine gM_bodies dX12_trace_20 rfl hP ?_
      refine s_iload_n (j := 1) dX12_trace_23 rfl ?_
      refine lM 36 dX12_trace_24 hP rfl (by exact rng_in c8 rfl) ?_
      refine s_goto dX12_trace_25 (tgt := 29) (by decide) ?_
      exact e_iret dX12_trace_29 rfl (by unfold sp_trace; (first | rw [if_pos c8] | rw [if_neg c8] | skip); (first | rw [if_pos c16] | rw [if_neg c16] | skip); (first | rw [if_pos (Int32.not_le.mp c16)] | rw [if_neg (Int32.not_lt.mpr c16)] | skip); exact ⟨rfl, rfl⟩)

set_option maxRecDepth 100000 in
set_option maxHeartbeats 4000000 in
theorem m_taken (d : Nat) (P D : HP) (M : MZ) (hP : P.length = 95) (i k : Int32) (hz : 0 ≤ M.1 0 ∧ M.1 0 ≤ 4) : Con (d + 2) qX12_taken 0 0 [.ref 95, .int i, .int k] (mh P M D) (XI (sp_taken M i k) (mh P M D)) := by
  refine Con.of (by decide +kernel) (Nat.le_of_ble_eq_true rfl) ?_
  show Sem (d + 2) qX12_taken 0 0 0 [(0, .ref 95), (1, .int i), (2, .int k)] [] (mh P M D) _
  refine s_aload_nr (j := 0) dX12_taken_0 rfl ?_
  refine s_iload_n (j := 2) dX12_taken_1 rfl ?_
  refine s_iconst (v := 0) dX12_taken_2 (by decide) ?_
  refine s_bipush (v := 6) dX12_taken_3 (by decide) ?_
  refine s_V3i cv_X12_203 rfl dX12_taken_5 (mh_get (k := 0) hP rfl) rfl (Nat.le_of_ble_eq_true rfl) (m_in _ P D _ hP _ _ _) (fun y5 h5 q5 => ?_)
  obtain ⟨rfl, rfl⟩ := q5
  refine s_if_ne dX12_taken_8 (tgt := 14) (by decide) (fun c8 => ?_) (fun c8 => ?_)
  · replace c8 := b2i_n0.mp c8
    refine s_aload_nr (j := 0) dX12_taken_14 rfl ?_
    refine s_iload_n (j := 1) dX12_taken_15 rfl ?_
    refine s_V1i cv_X12_211 rfl dX12_taken_16 (mh_get (k := 0) hP rfl) rfl (Nat.le_of_ble_eq_true rfl) (m_isServer _ P D _ hP _) (fun y16 h16 q16 => ?_)
    obtain ⟨rfl, rfl⟩ := q16
    refine s_if_ne dX12_taken_19 (tgt := 25) (by decide) (fun c19 => ?_) (fun c19 => ?_)
    · replace c19 := b2i_n0.mp c19
      refine s_aload_nr (j := 0) dX12_taken_25 rfl ?_
      refine gM_kind dX12_taken_26 rfl hP ?_
      refine s_iload_n (j := 1) dX12_taken_29 rfl ?_
      refine lM 1 dX12_taken_30 hP rfl (by exact in4_of hz c19) ?_
      refine s_istore_n dX12_taken_31 (by decide) rfl ?_
      refine s_iload_n (j := 3) dX12_taken_32 rfl ?_
      refine s_if_eq dX12_taken_33 (tgt := 72) (by decide) (fun c33 => ?_) (fun c33 => ?_)
      · refine s_iload_n (j := 0) dX12_taken_72 rfl ?_
        refine s_goto dX12_taken_73 (tgt := 78) (by decide) ?_
        exact e_iret dX12_taken_78 rfl (by unfold sp_taken; (first | rw [if_pos c8] | rw [if_neg c8] | skip); (first | rw [if_pos c19] | rw [if_neg c19] | skip); (first | rw [if_pos c33] | rw [if_neg c33] | skip); first | exact ⟨rfl, rfl⟩ | (simp only [pz]; split <;> simp_all))
      · refine s_iload_n (j := 0) dX12_taken_36 rfl ?_
        refine s_iload_n (j := 3) dX12_taken_37 rfl ?_
        refine s_icmp_eq dX12_taken_38 (tgt := 72) (by decide) (fun c38 => ?_) (fun c38 => ?_)
        · refine s_iload_n (j := 0) dX12_taken_72 rfl ?_
          refine s_goto dX12_taken_73 (tgt := 78) (by decide) ?_
          exact e_iret dX12_taken_78 rfl (by unfold sp_taken; (first | rw [if_pos c8] | rw [if_neg c8] | skip); (first | rw [if_pos c19] | rw [if_neg c19] | skip); (first | rw [if_pos c33] | rw [if_neg c33] | skip); (first | rw [if_pos c38] | rw [if_neg c38] | skip); first | exact ⟨rfl, rfl⟩ | (simp only [pz]; split <;> simp_all))
        · refine s_iload_n (j := 3) dX12_taken_41 rfl ?_
          refine s_iconst (v := 1) dX12_taken_42 (by decide) ?_
          refine s_icmp_ne dX12_taken_43 (tgt := 51) (by decide) (fun c43 => ?_) (fun c43 => ?_)
          · refine s_iload_n (j := 3) dX12_taken_51 rfl ?_
            refine s_iconst (v := 2) dX12_taken_52 (by decide) ?_
            refine s_icmp_ne dX12_taken_53 (tgt := 61) (by decide) (fun c53 => ?_) (fun c53 => ?_)
            · refine s_iload_n (j := 3) dX12_taken_61 rfl ?_
              refine s_iconst (v := 3) dX12_taken_62 (by decide) ?_
              refine s_icmp_ne dX12_taken_63 (tgt := 76) (by decide) (fun c63 => ?_) (fun c63 => ?_)
              · refine s_bipush (v := -12) dX12_taken_76 (by decide) ?_
                exact e_iret dX12_taken_78 rfl (by unfold sp_taken; (first | rw [if_pos c8] | rw [if_neg c8] | skip); (first | rw [if_pos c19] | rw [if_neg c19] | skip); (first | rw [if_pos c33] | rw [if_neg c33] | skip); (first | rw [if_pos c38] | rw [if_neg c38] | skip); (first | rw [if_pos c43] | rw [if_neg c43] | skip); (first | rw [if_pos c53] | rw [if_neg c53] | skip); (first | rw [if_pos c63] | rw [if_neg c63] | skip); first | exact ⟨rfl, rfl⟩ | (simp only [pz]; split <;> simp_all))
              · refine s_iload_n (j := 0) dX12_taken_66 rfl ?_
                refine s_bipush (v := 6) dX12_taken_67 (by decide) ?_
                refine s_icmp_ne dX12_taken_69 (tgt := 76) (by decide) (fun c69 => ?_) (fun c69 => ?_)
                · refine s_bipush (v := -12) dX12_taken_76 (by decide) ?_
                  exact e_iret dX12_taken_78 rfl (by unfold sp_taken; (first | rw [if_pos c8] | rw [if_neg c8] | skip); (first | rw [if_pos c19] | rw [if_neg c19] | skip); (first | rw [if_pos c33] | rw [if_neg c33] | skip); (first | rw [if_pos c38] | rw [if_neg c38] | skip); (first | rw [if_pos c43] | rw [if_neg c43] | skip); (first | rw [if_pos c53] | rw [if_neg c53] | skip); (first | rw [if_pos c63] | rw [if_neg c63] | skip); (first | rw [if_pos c69] | rw [if_neg c69] | skip); first | exact ⟨rfl, rfl⟩ | (simp only [pz]; split <;> simp_all))
                · refine s_iload_n (j := 0) dX12_taken_72 rfl ?_
                  refine s_goto dX12_taken_73 (tgt := 78) (by decide) ?_
                  exact e_iret dX12_taken_78 rfl (by unfold sp_taken; (first | rw [if_pos c8] | rw [if_neg c8] | skip); (first | rw [if_pos c19] | rw [if_neg c19] | skip); (first | rw [if_pos c33] | rw [if_neg c33] | skip); (first | rw [if_pos c38] | rw [if_neg c38] | skip); (first | rw [if_pos c43] | rw [if_neg c43] | skip); (first | rw [if_pos c53] | rw [if_neg c53] | skip); (first | rw [if_pos c63] | rw [if_neg c63] | skip); (first | rw [if_pos c69] | rw [if_neg c69] | skip); first | exact ⟨rfl, rfl⟩ | (simp only [pz]; split <;> simp_all))
            · refine s_iload_n (j := 0) dX12_taken_56 rfl ?_
              refine s_iconst (v := 5) dX12_taken_57 (by decide) ?_
              refine s_icmp_eq dX12_taken_58 (tgt := 72) (by decide) (fun c58 => ?_) (fun c58 => ?_)
              · refine s_iload_n (j := 0) dX12_taken_72 rfl ?_
                refine s_goto dX12_taken_73 (tgt := 78) (by decide) ?_
                exact e_iret dX12_taken_78 rfl (by unfold sp_taken; (first | rw [if_pos c8] | rw [if_neg c8] | skip); (first | rw [if_pos c19] | rw [if_neg c19] | skip); (first | rw [if_pos c33] | rw [if_neg c33] | skip); (first | rw [if_pos c38] | rw [if_neg c38] | skip); (first | rw [if_pos c43] | rw [if_neg c43] | skip); (first | rw [if_pos c53] | rw [if_neg c53] | skip); (first | rw [if_pos c58] | rw [if_neg c58] | skip); first | exact ⟨rfl, rfl⟩ | (simp only [pz]; split <;> simp_all))
              · refine s_iload_n (j := 3) dX12_taken_61 rfl ?_
                refine s_iconst (v := 3) dX12_taken_62 (by decide) ?_
                refine s_icmp_ne dX12_taken_63 (tgt := 76) (by decide) (fun c63 => ?_) (fun c63 => ?_)
                · refine s_bipush (v := -12) dX12_taken_76 (by decide) ?_
                  exact e_iret dX12_taken_78 rfl (by unfold sp_taken; (first | rw [if_pos c8] | rw [if_neg c8] | skip); (first | rw [if_pos c19] | rw [if_neg c19] | skip); (first | rw [if_pos c33] | rw [if_neg c33] | skip); (first | rw [if_pos c38] | rw [if_neg c38] | skip); (first | rw [if_pos c43] | rw [if_neg c43] | skip); (first | rw [if_pos c53] | rw [if_neg c53] | skip); (first | rw [if_pos c58] | rw [if_neg c58] | skip); (first | rw [if_pos c63] | rw [if_neg c63] | skip); first | exact ⟨rfl, rfl⟩ | (simp only [pz]; split <;> simp_all))
                · refine s_iload_n (j := 0) dX12_taken_66 rfl ?_
                  refine s_bipush (v := 6) dX12_taken_67 (by decide) ?_
                  refine s_icmp_ne dX12_taken_69 (tgt := 76) (by decide) (fun c69 => ?_) (fun c69 => ?_)
                  · refine s_bipush (v := -12) dX12_taken_76 (by decide) ?_
                    exact e_iret dX12_taken_78 rfl (by unfold sp_taken; (first | rw [if_pos c8] | rw [if_neg c8] | skip); (first | rw [if_pos c19] | rw [if_neg c19] | skip); (first | rw [if_pos c33] | rw [if_neg c33] | skip); (first | rw [if_pos c38] | rw [if_neg c38] | skip); (first | rw [if_pos c43] | rw [if_neg c43] | skip); (first | rw [if_pos c53] | rw [if_neg c53] | skip); (first | rw [if_pos c58] | rw [if_neg c58] | skip); (first | rw [if_pos c63] | rw [if_neg c63] | skip); (first | rw [if_pos c69] | rw [if_neg c69] | skip); first | exact ⟨rfl, rfl⟩ | (simp only [pz]; split <;> simp_all))
                  · refine s_iload_n (j := 0) dX12_taken_72 rfl ?_
                    refine s_goto dX12_taken_73 (tgt := 78) (by decide) ?_
                    exact e_iret dX12_taken_78 rfl (by unfold sp_taken; (first | rw [if_pos c8] | rw [if_neg c8] | skip); (first | rw [if_pos c19] | rw [if_neg c19] | skip); (first | rw [if_pos c33] | rw [if_neg c33] | skip); (first | rw [if_pos c38] | rw [if_neg c38] | skip); (first | rw [if_pos c43] | rw [if_neg c43] | skip); (first | rw [if_pos c53] | rw [if_neg c53] | skip); (first | rw [if_pos c58] | rw [if_neg c58] | skip); (first | rw [if_pos c63] | rw [if_neg c63] | skip); (first | rw [if_pos c69] | rw [if_neg c69] | skip); first | exact ⟨rfl, rfl⟩ | (simp only [pz]; split <;> simp_all))
          · refine s_iload_n (j := 0) dX12_taken_46 rfl ?_
            refine s_iconst (v := 4) dX12_taken_47 (by decide) ?_
            refine s_icmp_eq dX12_taken_48 (tgt := 72) (by decide) (fun c48 => ?_) (fun c48 => ?_)
            · refine s_iload_n (j := 0) dX12_taken_72 rfl ?_
              refine s_goto dX12_taken_73 (tgt := 78) (by decide) ?_
              exact e_iret dX12_taken_78 rfl (by unfold sp_taken; (first | rw [if_pos c8] | rw [if_neg c8] | skip); (first | rw [if_pos c19] | rw [if_neg c19] | skip); (first | rw [if_pos c33] | rw [if_neg c33] | skip); (first | rw [if_pos c38] | rw [if_neg c38] | skip); (first | rw [if_pos c43] | rw [if_neg c43] | skip); (first | rw [if_pos c48] | rw [if_neg c48] | skip); first | exact ⟨rfl, rfl⟩ | (simp only [pz]; split <;> simp_all))
            · refine s_iload_n (j := 3) dX12_taken_51 rfl ?_
              refine s_iconst (v := 2) dX12_taken_52 (by decide) ?_
              refine s_icmp_ne dX12_taken_53 (tgt := 61) (by decide) (fun c53 => ?_) (fun c53 => ?_)
              · refine s_iload_n (j := 3) dX12_taken_61 rfl ?_
                refine s_iconst (v := 3) dX12_taken_62 (by decide) ?_
                refine s_icmp_ne dX12_taken_63 (tgt := 76) (by decide) (fun c63 => ?_) (fun c63 => ?_)
                · refine s_bipush (v := -12) dX12_taken_76 (by decide) ?_
                  exact e_iret dX12_taken_78 rfl (by unfold sp_taken; (first | rw [if_pos c8] | rw [if_neg c8] | skip); (first | rw [if_pos c19] | rw [if_neg c19] | skip); (first | rw [if_pos c33] | rw [if_neg c33] | skip); (first | rw [if_pos c38] | rw [if_neg c38] | skip); (first | rw [if_pos c43] | rw [if_neg c43] | skip); (first | rw [if_pos c48] | rw [if_neg c48] | skip); (first | rw [if_pos c53] | rw [if_neg c53] | skip); (first | rw [if_pos c63] | rw [if_neg c63] | skip); first | exact ⟨rfl, rfl⟩ | (simp only [pz]; split <;> simp_all))
                · refine s_iload_n (j := 0) dX12_taken_66 rfl ?_
                  refine s_bipush (v := 6) dX12_taken_67 (by decide) ?_
                  refine s_icmp_ne dX12_taken_69 (tgt := 76) (by decide) (fun c69 => ?_) (fun c69 => ?_)
                  · refine s_bipush (v := -12) dX12_taken_76 (by decide) ?_
                    exact e_iret dX12_taken_78 rfl (by unfold sp_taken; (first | rw [if_pos c8] | rw [if_neg c8] | skip); (first | rw [if_pos c19] | rw [if_neg c19] | skip); (first | rw [if_pos c33] | rw [if_neg c33] | skip); (first | rw [if_pos c38] | rw [if_neg c38] | skip); (first | rw [if_pos c43] | rw [if_neg c43] | skip); (first | rw [if_pos c48] | rw [if_neg c48] | skip); (first | rw [if_pos c53] | rw [if_neg c53] | skip); (first | rw [if_pos c63] | rw [if_neg c63] | skip); (first | rw [if_pos c69] | rw [if_neg c69] | skip); first | exact ⟨rfl, rfl⟩ | (simp only [pz]; split <;> simp_all))
                  · refine s_iload_n (j := 0) dX12_taken_72 rfl ?_
                    refine s_goto dX12_taken_73 (tgt := 78) (by decide) ?_
                    exact e_iret dX12_taken_78 rfl (by unfold sp_taken; (first | rw [if_pos c8] | rw [if_neg c8] | skip); (first | rw [if_pos c19] | rw [if_neg c19] | skip); (first | rw [if_pos c33] | rw [if_neg c33] | skip); (first | rw [if_pos c38] | rw [if_neg c38] | skip); (first | rw [if_pos c43] | rw [if_neg c43] | skip); (first | rw [if_pos c48] | rw [if_neg c48] | skip); (first | rw [if_pos c53] | rw [if_neg c53] | skip); (first | rw [if_pos c63] | rw [if_neg c63] | skip); (first | rw [if_pos c69] | rw [if_neg c69] | skip); first | exact ⟨rfl, rfl⟩ | (simp only [pz]; split <;> simp_all))
              · refine s_iload_n (j := 0) dX12_taken_56 rfl ?_
                refine s_iconst (v := 5) dX12_taken_57 (by decide) ?_
                refine s_icmp_eq dX12_taken_58 (tgt := 72) (by decide) (fun c58 => ?_) (fun c58 => ?_)
                · refine s_iload_n (j := 0) dX12_taken_72 rfl ?_
                  refine s_goto dX12_taken_73 (tgt := 78) (by decide) ?_
                  exact e_iret dX12_taken_78 rfl (by unfold sp_taken; (first | rw [if_pos c8] | rw [if_neg c8] | skip); (first | rw [if_pos c19] | rw [if_neg c19] | skip); (first | rw [if_pos c33] | rw [if_neg c33] | skip); (first | rw [if_pos c38] | rw [if_neg c38] | skip); (first | rw [if_pos c43] | rw [if_neg c43] | skip); (first | rw [if_pos c48] | rw [if_neg c48] | skip); (first | rw [if_pos c53] | rw [if_neg c53] | skip); (first | rw [if_pos c58] | rw [if_neg c58] | skip); first | exact ⟨rfl, rfl⟩ | (simp only [pz]; split <;> simp_all))
                · refine s_iload_n (j := 3) dX12_taken_61 rfl ?_
                  refine s_iconst (v := 3) dX12_taken_62 (by decide) ?_
                  refine s_icmp_ne dX12_taken_63 (tgt := 76) (by decide) (fun c63 => ?_) (fun c63 => ?_)
                  · refine s_bipush (v := -12) dX12_taken_76 (by decide) ?_
                    exact e_iret dX12_taken_78 rfl (by unfold sp_taken; (first | rw [if_pos c8] | rw [if_neg c8] | skip); (first | rw [if_pos c19] | rw [if_neg c19] | skip); (first | rw [if_pos c33] | rw [if_neg c33] | skip); (first | rw [if_pos c38] | rw [if_neg c38] | skip); (first | rw [if_pos c43] | rw [if_neg c43] | skip); (first | rw [if_pos c48] | rw [if_neg c48] | skip); (first | rw [if_pos c53] | rw [if_neg c53] | skip); (first | rw [if_pos c58] | rw [if_neg c58] | skip); (first | rw [if_pos c63] | rw [if_neg c63] | skip); first | exact ⟨rfl, rfl⟩ | (simp only [pz]; split <;> simp_all))
                  · refine s_iload_n (j := 0) dX12_taken_66 rfl ?_
                    refine s_bipush (v := 6) dX12_taken_67 (by decide) ?_
                    refine s_icmp_ne dX12_taken_69 (tgt := 76) (by decide) (fun c69 => ?_) (fun c69 => ?_)
                    · refine s_bipush (v := -12) dX12_taken_76 (by decide) ?_
                      exact e_iret dX12_taken_78 rfl (by unfold sp_taken; (first | rw [if_pos c8] | rw [if_neg c8] | skip); (first | rw [if_pos c19] | rw [if_neg c19] | skip); (first | rw [if_pos c33] | rw [if_neg c33] | skip); (first | rw [if_pos c38] | rw [if_neg c38] | skip); (first | rw [if_pos c43] | rw [if_neg c43] | skip); (first | rw [if_pos c48] | rw [if_neg c48] | skip); (first | rw [if_pos c53] | rw [if_neg c53] | skip); (first | rw [if_pos c58] | rw [if_neg c58] | skip); (first | rw [if_pos c63] | rw [if_neg c63] | skip); (first | rw [if_pos c69] | rw [if_neg c69] | skip); first | exact ⟨rfl, rfl⟩ | (simp only [pz]; split <;> simp_all))
                    · refine s_iload_n (j := 0) dX12_taken_72 rfl ?_
                      refine s_goto dX12_taken_73 (tgt := 78) (by decide) ?_
                      exact e_iret dX12_taken_78 rfl (by unfold sp_taken; (first | rw [if_pos c8] | rw [if_neg c8] | skip); (first | rw [if_pos c19] | rw [if_neg c19] | skip); (first | rw [if_pos c33] | rw [if_neg c33] | skip); (first | rw [if_pos c38] | rw [if_neg c38] | skip); (first | rw [if_pos c43] | rw [if_neg c43] | skip); (first | rw [if_pos c48] | rw [if_neg c48] | skip); (first | rw [if_pos c53] | rw [if_neg c53] | skip); (first | rw [if_pos c58] | rw [if_neg c58] | skip); (first | rw [if_pos c63] | rw [if_neg c63] | skip); (first | rw [if_pos c69] | rw [if_neg c69] | skip); first | exact ⟨rfl, rfl⟩ | (simp only [pz]; split <;> simp_all))
    · replace c19 := b2i_0.mp c19
      refine s_bipush (v := -11) dX12_taken_22 (by decide) ?_
      exact e_iret dX12_taken_24 rfl (by unfold sp_taken; (first | rw [if_pos c8] | rw [if_neg c8] | skip); (first | rw [if_pos c19] | rw [if_neg c19] | skip); first | exact ⟨rfl, rfl⟩ | (simp only [pz]; split <;> simp_all))
  · replace c8 := b2i_0.mp c8
    refine s_bipush (v := -2) dX12_taken_11 (by decide) ?_
    exact e_iret dX12_taken_13 rfl (by unfold sp_taken; (first | rw [if_pos c8] | rw [if_neg c8] | skip); first | exact ⟨rfl, rfl⟩ | (simp only [pz]; split <;> simp_all))

set_option maxRecDepth 100000 in
set_option maxHeartbeats 4000000 in
theorem m_count (d : Nat) (P D : HP) (M : MZ) (hP : P.length = 95) (w : Int32) : Con d qX12_count 0 0 [.ref 95, .int w] (mh P M D) (XI (sp_count M w) (mh P M D)) := by
  refine Con.of (by decide +kernel) (Nat.le_of_ble_eq_true rfl) ?_
  show Sem d qX12_count 0 0 0 [(0, .ref 95), (1, .int w)] [] (mh P M D) _
  refine s_iload_n (j := 1) dX12_count_0 rfl ?_
  refine s_topi (fun x1 ex1 => ?_)
  by_cases k1_0 : x1 = 0
  · refine s_tswIn dX12_count_1 (tgt := 40) (by rw [k1_0]; decide) (by rw [k1_0]; decide) (off := 39) (by rw [k1_0]; decide) (by decide) ?_
    replace ex1 := ex1.symm.trans k1_0
    clear k1_0
    refine s_aload_nr (j := 0) dX12_count_40 rfl ?_
    refine gM_servers dX12_count_41 rfl hP ?_
    exact e_iret dX12_count_44 rfl (by simp [sp_count, *])
  by_cases k1_1 : x1 = 1
  · refine s_tswIn dX12_count_1 (tgt := 45) (by rw [k1_1]; decide) (by rw [k1_1]; decide) (off := 44) (by rw [k1_1]; decide) (by decide) ?_
    replace ex1 := ex1.symm.trans k1_1
    clear k1_1 k1_0
    refine s_aload_nr (j := 0) dX12_count_45 rfl ?_
    refine gM_courts dX12_count_46 rfl hP ?_
    exact e_iret dX12_count_49 rfl (by simp [sp_count, *])
  by_cases k1_2 : x1 = 2
  · refine s_tswIn dX12_count_1 (tgt := 50) (by rw [k1_2]; decide) (by rw [k1_2]; decide) (off := 49) (by rw [k1_2]; decide) (by decide) ?_
    replace ex1 := ex1.symm.trans k1_2
    clear k1_2 k1_1 k1_0
    refine s_aload_nr (j := 0) dX12_count_50 rfl ?_
    refine gM_seen dX12_count_51 rfl hP ?_
    exact e_iret dX12_count_54 rfl (by simp [sp_count, *])
  by_cases k1_3 : x1 = 3
  · refine s_tswIn dX12_count_1 (tgt := 55) (by rw [k1_3]; decide) (by rw [k1_3]; decide) (off := 54) (by rw [k1_3]; decide) (by decide) ?_
    replace ex1 := ex1.symm.trans k1_3
    clear k1_3 k1_2 k1_1 k1_0
    refine s_aload_nr (j := 0) dX12_count_55 rfl ?_
    refine gM_books dX12_count_56 rfl hP ?_
    exact e_iret dX12_count_59 rfl (by simp [sp_count, *])
  by_cases k1_4 : x1 = 4
  · refine s_tswIn dX12_count_1 (tgt := 60) (by rw [k1_4]; decide) (by rw [k1_4]; decide) (off := 59) (by rw [k1_4]; decide) (by decide) ?_
    replace ex1 := ex1.symm.trans k1_4
    clear k1_4 k1_3 k1_2 k1_1 k1_0
    refine s_aload_nr (j := 0) dX12_count_60 rfl ?_
    refine gM_fed dX12_count_61 rfl hP ?_
    exact e_iret dX12_count_64 rfl (by simp [sp_count, *])
  by_cases k1_5 : x1 = 5
  · refine s_tswIn dX12_count_1 (tgt := 65) (by rw [k1_5]; decide) (by rw [k1_5]; decide) (off := 64) (by rw [k1_5]; decide) (by decide) ?_
    replace ex1 := ex1.symm.trans k1_5
    clear k1_5 k1_4 k1_3 k1_2 k1_1 k1_0
    refine s_aload_nr (j := 0) dX12_count_65 rfl ?_
    refine gM_ran dX12_count_66 rfl hP ?_
    exact e_iret dX12_count_69 rfl (by simp [sp_count, *])
  refine s_tswOut dX12_count_1 (tgt := 70) (by have a0 := lv_neT (a := 0) k1_0 rfl; have a1 := lv_neT (a := 1) k1_1 rfl; have a2 := lv_neT (a := 2) k1_2 rfl; have a3 := lv_neT (a := 3) k1_3 rfl; have a4 := lv_neT (a := 4) k1_4 rfl; have a5 := lv_neT (a := 5) k1_5 rfl; omega) (by decide) ?_
  replace k1_0 : ¬ _ = _ := fun z => k1_0 (ex1.trans z)
  replace k1_1 : ¬ _ = _ := fun z => k1_1 (ex1.trans z)
  replace k1_2 : ¬ _ = _ := fun z => k1_2 (ex1.trans z)
  replace k1_3 : ¬ _ = _ := fun z => k1_3 (ex1.trans z)
  replace k1_4 : ¬ _ = _ := fun z => k1_4 (ex1.trans z)
  replace k1_5 : ¬ _ = _ := fun z => k1_5 (ex1.trans z)
  clear ex1
  refine s_bipush (v := -2) dX12_count_70 (by decide) ?_
  exact e_iret dX12_count_72 rfl (by simp [sp_count, *])

set_option maxRecDepth 100000 in
set_option maxHeartbeats 4000000 in
theorem m_narrow (d : Nat) (P D : HP) (M : MZ) (hP : P.length = 95) (s : Int32) (z : Int64) : Con d qX12_narrow 0 0 [.ref 95, .int s, .long z] (mh P M D) (PL fun y h => y = sp_narrow s z ∧ h = mh P M D) := by
  refine Con.of (by decide +kernel) (Nat.le_of_ble_eq_true rfl) ?_
  show Sem d qX12_narrow 0 0 0 [(0, .ref 95), (1, .int s), (2, .long z)] [] (mh P M D) _
  refine s_iload_n (j := 1) dX12_narrow_0 rfl ?_
  refine s_if_ne dX12_narrow_1 (tgt := 11) (by decide) (fun c1 => ?_) (fun c1 => ?_)
  · refine s_iload_n (j := 1) dX12_narrow_11 rfl ?_
    refine s_iconst (v := 1) dX12_narrow_12 (by decide) ?_
    refine s_icmp_ne dX12_narrow_13 (tgt := 23) (by decide) (fun c13 => ?_) (fun c13 => ?_)
    · refine s_iload_n (j := 1) dX12_narrow_23 rfl ?_
      refine s_iconst (v := 2) dX12_narrow_24 (by decide) ?_
      refine s_icmp_ne dX12_narrow_25 (tgt := 34) (by decide) (fun c25 => ?_) (fun c25 => ?_)
      · refine s_iload_n (j := 1) dX12_narrow_34 rfl ?_
        refine s_iconst (v := 4) dX12_narrow_35 (by decide) ?_
        refine s_icmp_ne dX12_narrow_36 (tgt := 53) (by decide) (fun c36 => ?_) (fun c36 => ?_)
        · refine s_lload_n (j := 2) dX12_narrow_53 rfl ?_
          exact e_lret dX12_narrow_54 rfl (by (try simp only [lgc] at *); simp [sp_narrow, *])
        · refine s_lload_n (j := 2) dX12_narrow_39 rfl ?_
          refine s_lconst (v := 0) dX12_narrow_40 (by decide) ?_
          refine s_lcmp dX12_narrow_41 ?_
          refine s_if_eq dX12_narrow_42 (tgt := 49) (by decide) (fun c42 => ?_) (fun c42 => ?_)
          · refine s_lconst (v := 0) dX12_narrow_49 (by decide) ?_
            refine s_goto dX12_narrow_50 (tgt := 54) (by decide) ?_
            exact e_lret dX12_narrow_54 rfl (by (try simp only [lgc] at *); simp [sp_narrow, *])
          · refine s_lconst (v := 1) dX12_narrow_45 (by decide) ?_
            refine s_goto dX12_narrow_46 (tgt := 54) (by decide) ?_
            exact e_lret dX12_narrow_54 rfl (by (try simp only [lgc] at *); simp [sp_narrow, *])
      · refine s_lload_n (j := 2) dX12_narrow_28 rfl ?_
        refine s_l2i dX12_narrow_29 ?_
        refine s_i2l dX12_narrow_30 ?_
        refine s_goto dX12_narrow_31 (tgt := 54) (by decide) ?_
        exact e_lret dX12_narrow_54 rfl (by (try simp only [lgc] at *); simp [sp_narrow, *])
    · refine s_lload_n (j := 2) dX12_narrow_16 rfl ?_
      refine s_l2i dX12_narrow_17 ?_
      refine s_i2s dX12_narrow_18 ?_
      refine s_i2l dX12_narrow_19 ?_
      refine s_goto dX12_narrow_20 (tgt := 54) (by decide) ?_
      exact e_lret dX12_narrow_54 rfl (by (try simp only [lgc] at *); simp [sp_narrow, *])
  · refine s_lload_n (j := 2) dX12_narrow_4 rfl ?_
    refine s_l2i dX12_narrow_5 ?_
    refine s_i2b dX12_narrow_6 ?_
    refine s_i2l dX12_narrow_7 ?_
    refine s_goto dX12_narrow_8 (tgt := 54) (by decide) ?_
    exact e_lret dX12_narrow_54 rfl (by (try simp only [lgc] at *); simp [sp_narrow, *])

set_option maxRecDepth 100000 in
set_option maxHeartbeats 4000000 in
theorem m_item (d : Nat) (P D : HP) (M : MZ) (hP : P.length = 95) (t i : Int32) (z : Int64) (hlen : ∀ j, j < 6 → 0 ≤ M.2.1 37 j ∧ M.2.1 37 j ≤ 60) : Con (d + 2) qX12_item 0 0 [.ref 95, .int t, .int i, .long z] (mh P M D) (PI fun y h => y = (sp_item M t i z).1 ∧ h = mh P (sp_item M t i z).2 D) := by
  refine Con.of (by decide +kernel) (Nat.le_of_ble_eq_true rfl) ?_
  show Sem (d + 2) qX12_item 0 0 0 [(0, .ref 95), (1, .int t), (2, .int i), (3, .long z)] [] (mh P M D) _
  refine s_aload_nr (j := 0) dX12_item_0 rfl ?_
  refine s_iload_n (j := 1) dX12_item_1 rfl ?_
  refine s_V1i cv_X12_339 rfl dX12_item_2 (mh_get (k := 0) hP rfl) rfl (Nat.le_of_ble_eq_true rfl) (m_isTape _ P D _ hP _) (fun y2 h2 q2 => ?_)
  obtain ⟨rfl, rfl⟩ := q2
  refine s_if_ne dX12_item_5 (tgt := 10) (by decide) (fun c5 => ?_) (fun c5 => ?_)
  · replace c5 := b2i_n0.mp c5
    refine s_aload_nr (j := 0) dX12_item_10 rfl ?_
    refine gM_sort dX12_item_11 rfl hP ?_
    refine s_iload_n (j := 1) dX12_item_14 rfl ?_
    refine lM 37 dX12_item_15 hP rfl (by first | exact rng_in c5 rfl | exact ix_in (rng_in (n := 6) c5 rfl) (it_in hlen (rng_in c5 rfl) (by assumption)) (c := 60) rfl (by decide) (by decide)) ?_
    refine s_if_ge dX12_item_16 (tgt := 22) (by decide) (fun c16 => ?_) (fun c16 => ?_)
    · refine s_aload_nr (j := 0) dX12_item_22 rfl ?_
      refine s_iload_n (j := 2) dX12_item_23 rfl ?_
      refine s_iconst (v := 0) dX12_item_24 (by decide) ?_
      refine s_aload_nr (j := 0) dX12_item_25 rfl ?_
      refine gM_length dX12_item_26 rfl hP ?_
      refine s_iload_n (j := 1) dX12_item_29 rfl ?_
      refine lM 38 dX12_item_30 hP rfl (by first | exact rng_in c5 rfl | exact ix_in (rng_in (n := 6) c5 rfl) (it_in hlen (rng_in c5 rfl) (by assumption)) (c := 60) rfl (by decide) (by decide)) ?_
      refine s_iconst (v := 1) dX12_item_31 (by decide) ?_
      refine s_isub dX12_item_32 ?_
      refine s_V3i cv_X12_203 rfl dX12_item_33 (mh_get (k := 0) hP rfl) rfl (Nat.le_of_ble_eq_true rfl) (m_in _ P D _ hP _ _ _) (fun y33 h33 q33 => ?_)
      obtain ⟨rfl, rfl⟩ := q33
      refine s_if_ne dX12_item_36 (tgt := 42) (by decide) (fun c36 => ?_) (fun c36 => ?_)
      · replace c36 := b2i_n0.mp c36
        refine s_aload_nr (j := 0) dX12_item_42 rfl ?_
        refine gM_item dX12_item_43 rfl hP ?_
        refine s_bipush (v := 60) dX12_item_46 (by decide) ?_
        refine s_iload_n (j := 1) dX12_item_48 rfl ?_
        refine s_imul dX12_item_49 ?_
        refine s_iload_n (j := 2) dX12_item_50 rfl ?_
        refine s_iadd dX12_item_51 ?_
        refine s_aload_nr (j := 0) dX12_item_52 rfl ?_
        refine s_aload_nr (j := 0) dX12_item_53 rfl ?_
        refine gM_sort dX12_item_54 rfl hP ?_
        refine s_iload_n (j := 1) dX12_item_57 rfl ?_
        refine lM 37 dX12_item_58 hP rfl (by first | exact rng_in c5 rfl | exact ix_in (rng_in (n := 6) c5 rfl) (it_in hlen (rng_in c5 rfl) (by assumption)) (c := 60) rfl (by decide) (by decide)) ?_
        refine s_lload_n (j := 3) dX12_item_59 rfl ?_
        refine s_V2l cv_X12_366 rfl dX12_item_60 (mh_get (k := 0) hP rfl) rfl (Nat.le_of_ble_eq_true rfl) (m_narrow _ P D _ hP _ _) (fun y60 h60 q60 => ?_)
        obtain ⟨rfl, rfl⟩ := q60
        refine sM_item dX12_item_63 hP (by first | exact rng_in c5 rfl | exact ix_in (rng_in (n := 6) c5 rfl) (it_in hlen (rng_in c5 rfl) (by assumption)) (c := 60) rfl (by decide) (by decide)) ?_
        refine s_iconst (v := 1) dX12_item_64 (by decide) ?_
        exact e_iret dX12_item_65 rfl (by unfold sp_item; (first | rw [if_pos c5] | rw [if_neg c5] | skip); (first | rw [if_pos c16] | rw [if_neg c16] | skip); (first | rw [if_pos c36] | rw [if_neg c36] | skip); (try rw [if_neg (Int32.not_lt.mpr c16)]); (try rw [if_pos (Int32.not_le.mp c16)]); (try rw [if_pos c36]); (try rw [if_neg c36]); exact ⟨rfl, rfl⟩)
      · replace c36 := b2i_0.mp c36
        refine s_bipush (v := -13) dX12_item_39 (by decide) ?_
        exact e_iret dX12_item_41 rfl (by unfold sp_item; (first | rw [if_pos c5] | rw [if_neg c5] | skip); (first | rw [if_pos c16] | rw [if_neg c16] | skip); (first | rw [if_pos c36] | rw [if_neg c36] | skip); (try rw [if_neg (Int32.not_lt.mpr c16)]); (try rw [if_pos (Int32.not_le.mp c16)]); (try rw [if_pos c36]); (try rw [if_neg c36]); exact ⟨rfl, rfl⟩)
    · refine s_bipush (v := -11) dX12_item_19 (by decide) ?_
      exact e_iret dX12_item_21 rfl (by unfold sp_item; (first | rw [if_pos c5] | rw [if_neg c5] | skip); (first | rw [if_pos c16] | rw [if_neg c16] | skip); (try rw [if_neg (Int32.not_lt.mpr c16)]); (try rw [if_pos (Int32.not_le.mp c16)]); (try rw [if_pos c36]); (try rw [if_neg c36]); exact ⟨rfl, rfl⟩)
  · replace c5 := b2i_0.mp c5
    refine s_iconst (v := -1) dX12_item_8 (by decide) ?_
    exact e_iret dX12_item_9 rfl (by unfold sp_item; (first | rw [if_pos c5] | rw [if_neg c5] | skip); (try rw [if_neg (Int32.not_lt.mpr c16)]); (try rw [if_pos (Int32.not_le.mp c16)]); (try rw [if_pos c36]); (try rw [if_neg c36]); exact ⟨rfl, rfl⟩)

set_option maxRecDepth 100000 in
set_option maxHeartbeats 4000000 in
theorem m_read (d : Nat) (P D : HP) (M : MZ) (hP : P.length = 95) (t i : Int32) (hlen : ∀ j, j < 6 → 0 ≤ M.2.1 37 j ∧ M.2.1 37 j ≤ 60) : Con (d + 2) qX12_read 0 0 [.ref 95, .int t, .int i] (mh P M D) (PL fun y h => y = sp_read M t i ∧ h = mh P M D) := by
  refine Con.of (by decide +kernel) (Nat.le_of_ble_eq_true rfl) ?_
  show Sem (d + 2) qX12_read 0 0 0 [(0, .ref 95), (1, .int t), (2, .int i)] [] (mh P M D) _
  refine s_aload_nr (j := 0) dX12_read_0 rfl ?_
  refine s_iload_n (j := 1) dX12_read_1 rfl ?_
  refine s_V1i cv_X12_339 rfl dX12_read_2 (mh_get (k := 0) hP rfl) rfl (Nat.le_of_ble_eq_true rfl) (m_isTape _ P D _ hP _) (fun y2 h2 q2 => ?_)
  obtain ⟨rfl, rfl⟩ := q2
  refine s_if_eq dX12_read_5 (tgt := 34) (by decide) (fun c5 => ?_) (fun c5 => ?_)
  · replace c5 := b2i_0.mp c5
    refine s_ldc2 dX12_read_34 rfl m1600 ?_
    refine s_goto dX12_read_37 (tgt := 51) (by decide) ?_
    exact e_lret dX12_read_51 rfl (by unfold sp_read; (first | rw [if_pos c5] | rw [if_neg c5] | skip); (try rw [if_neg (Int32.not_lt.mpr (by assumption))]); (try rw [if_pos (by assumption)]); (try rw [if_neg (by assumption)]); exact ⟨rfl, rfl⟩)
  · replace c5 := b2i_n0.mp c5
    refine s_aload_nr (j := 0) dX12_read_8 rfl ?_
    refine gM_sort dX12_read_9 rfl hP ?_
    refine s_iload_n (j := 1) dX12_read_12 rfl ?_
    refine lM 37 dX12_read_13 hP rfl (by first | exact rng_in c5 rfl | exact ix_in (rng_in (n := 6) c5 rfl) (it_in hlen (rng_in c5 rfl) (by assumption)) (c := 60) rfl (by decide) (by decide)) ?_
    refine s_if_lt dX12_read_14 (tgt := 34) (by decide) (fun c14 => ?_) (fun c14 => ?_)
    · refine s_ldc2 dX12_read_34 rfl m1600 ?_
      refine s_goto dX12_read_37 (tgt := 51) (by decide) ?_
      exact e_lret dX12_read_51 rfl (by unfold sp_read; (first | rw [if_pos c5] | rw [if_neg c5] | skip); (first | rw [if_pos c14] | rw [if_neg c14] | skip); (try rw [if_neg (Int32.not_lt.mpr (by assumption))]); (try rw [if_pos (by assumption)]); (try rw [if_neg (by assumption)]); exact ⟨rfl, rfl⟩)
    · refine s_aload_nr (j := 0) dX12_read_17 rfl ?_
      refine s_iload_n (j := 2) dX12_read_18 rfl ?_
      refine s_iconst (v := 0) dX12_read_19 (by decide) ?_
      refine s_aload_nr (j := 0) dX12_read_20 rfl ?_
      refine gM_length dX12_read_21 rfl hP ?_
      refine s_iload_n (j := 1) dX12_read_24 rfl ?_
      refine lM 38 dX12_read_25 hP rfl (by first | exact rng_in c5 rfl | exact ix_in (rng_in (n := 6) c5 rfl) (it_in hlen (rng_in c5 rfl) (by assumption)) (c := 60) rfl (by decide) (by decide)) ?_
      refine s_iconst (v := 1) dX12_read_26 (by decide) ?_
      refine s_isub dX12_read_27 ?_
      refine s_V3i cv_X12_203 rfl dX12_read_28 (mh_get (k := 0) hP rfl) rfl (Nat.le_of_ble_eq_true rfl) (m_in _ P D _ hP _ _ _) (fun y28 h28 q28 => ?_)
      obtain ⟨rfl, rfl⟩ := q28
      refine s_if_ne dX12_read_31 (tgt := 40) (by decide) (fun c31 => ?_) (fun c31 => ?_)
      · replace c31 := b2i_n0.mp c31
        refine s_aload_nr (j := 0) dX12_read_40 rfl ?_
        refine gM_item dX12_read_41 rfl hP ?_
        refine s_bipush (v := 60) dX12_read_44 (by decide) ?_
        refine s_iload_n (j := 1) dX12_read_46 rfl ?_
        refine s_imul dX12_read_47 ?_
        refine s_iload_n (j := 2) dX12_read_48 rfl ?_
        refine s_iadd dX12_read_49 ?_
        refine llM 39 dX12_read_50 hP rfl (by first | exact rng_in c5 rfl | exact ix_in (rng_in (n := 6) c5 rfl) (it_in hlen (rng_in c5 rfl) (by assumption)) (c := 60) rfl (by decide) (by decide)) ?_
        exact e_lret dX12_read_51 rfl (by unfold sp_read; (first | rw [if_pos c5] | rw [if_neg c5] | skip); (first | rw [if_pos c14] | rw [if_neg c14] | skip); (first | rw [if_pos c31] | rw [if_neg c31] | skip); (try rw [if_neg (Int32.not_lt.mpr (by assumption))]); (try rw [if_pos (by assumption)]); (try rw [if_neg (by assumption)]); exact ⟨rfl, rfl⟩)
      · replace c31 := b2i_0.mp c31
        refine s_ldc2 dX12_read_34 rfl m1600 ?_
        refine s_goto dX12_read_37 (tgt := 51) (by decide) ?_
        exact e_lret dX12_read_51 rfl (by unfold sp_read; (first | rw [if_pos c5] | rw [if_neg c5] | skip); (first | rw [if_pos c14] | rw [if_neg c14] | skip); (first | rw [if_pos c31] | rw [if_neg c31] | skip); (try rw [if_neg (Int32.not_lt.mpr (by assumption))]); (try rw [if_pos (by assumption)]); (try rw [if_neg (by assumption)]); exact ⟨rfl, rfl⟩)
