set_option maxRecDepth 100000 in
set_option maxHeartbeats 4000000 in
theorem m_in (d : Nat) (P D : HP) (M : MZ) (hP : P.length = 95) (v lo hi : Int32) : Con d qX12_in 0 0 [.ref 95, .int v, .int lo, .int hi] (mh P M D) (XI (b2i (lo ≤ v ∧ v ≤ hi)) (mh P M D)) := by
  refine Con.of (by decide +kernel) (Nat.le_of_ble_eq_true rfl) ?_
  show Sem d qX12_in 0 0 0 [(0, .ref 95), (1, .int v), (2, .int lo), (3, .int hi)] [] (mh P M D) _
  refine s_iload_n (j := 1) dX12_in_0 rfl ?_
  refine s_iload_n (j := 2) dX12_in_1 rfl ?_
  refine s_icmp_lt dX12_in_2 (tgt := 14) (by decide) (fun c2 => ?_) (fun c2 => ?_)
  · refine s_iconst (v := 0) dX12_in_14 (by decide) ?_
    exact e_zret dX12_in_15 rfl (by first | rfl | exact b2i_z | decide) (by first | exact ⟨(b2i_t (by (try simp only [Int32.not_lt, Int32.not_le, Int32.le_iff_toInt_le, Int32.lt_iff_toInt_lt, ← Int32.toInt_inj] at *); (try simp at *); omega)).symm, rfl⟩ | exact ⟨(b2i_f (by (try simp only [Int32.not_lt, Int32.not_le, Int32.le_iff_toInt_le, Int32.lt_iff_toInt_lt, ← Int32.toInt_inj] at *); (try simp at *); omega)).symm, rfl⟩)
  · refine s_iload_n (j := 1) dX12_in_5 rfl ?_
    refine s_iload_n (j := 3) dX12_in_6 rfl ?_
    refine s_icmp_gt dX12_in_7 (tgt := 14) (by decide) (fun c7 => ?_) (fun c7 => ?_)
    · refine s_iconst (v := 0) dX12_in_14 (by decide) ?_
      exact e_zret dX12_in_15 rfl (by first | rfl | exact b2i_z | decide) (by first | exact ⟨(b2i_t (by (try simp only [Int32.not_lt, Int32.not_le, Int32.le_iff_toInt_le, Int32.lt_iff_toInt_lt, ← Int32.toInt_inj] at *); (try simp at *); omega)).symm, rfl⟩ | exact ⟨(b2i_f (by (try simp only [Int32.not_lt, Int32.not_le, Int32.le_iff_toInt_le, Int32.lt_iff_toInt_lt, ← Int32.toInt_inj] at *); (try simp at *); omega)).symm, rfl⟩)
    · refine s_iconst (v := 1) dX12_in_10 (by decide) ?_
      refine s_goto dX12_in_11 (tgt := 15) (by decide) ?_
      exact e_zret dX12_in_15 rfl (by first | rfl | exact b2i_z | decide) (by first | exact ⟨(b2i_t (by (try simp only [Int32.not_lt, Int32.not_le, Int32.le_iff_toInt_le, Int32.lt_iff_toInt_lt, ← Int32.toInt_inj] at *); (try simp at *); omega)).symm, rfl⟩ | exact ⟨(b2i_f (by (try simp only [Int32.not_lt, Int32.not_le, Int32.le_iff_toInt_le, Int32.lt_iff_toInt_lt, ← Int32.toInt_inj] at *); (try simp at *); omega)).symm, rfl⟩)

set_option maxRecDepth 100000 in
set_option maxHeartbeats 4000000 in
theorem m_isServer (d : Nat) (P D : HP) (M : MZ) (hP : P.length = 95) (p : Int32) : Con (d + 1) qX12_isServer 0 0 [.ref 95, .int p] (mh P M D) (XI (b2i (isS M p)) (mh P M D)) := by
  refine Con.of (by decide +kernel) (Nat.le_of_ble_eq_true rfl) ?_
  show Sem (d + 1) qX12_isServer 0 0 0 [(0, .ref 95), (1, .int p)] [] (mh P M D) _
  refine s_aload_nr (j := 0) dX12_isServer_0 rfl ?_
  refine s_iload_n (j := 1) dX12_isServer_1 rfl ?_
  refine s_iconst (v := 0) dX12_isServer_2 (by decide) ?_
  refine s_aload_nr (j := 0) dX12_isServer_3 rfl ?_
  refine gM_servers dX12_isServer_4 rfl hP ?_
  refine s_iconst (v := 1) dX12_isServer_7 (by decide) ?_
  refine s_isub dX12_isServer_8 ?_
  refine s_V3i cv_X12_203 rfl dX12_isServer_9 (mh_get (k := 0) hP rfl) rfl (Nat.le_of_ble_eq_true rfl) (m_in _ P D _ hP _ _ _) (fun y9 h9 q9 => ?_)
  obtain ⟨rfl, rfl⟩ := q9
  exact e_zret dX12_isServer_12 rfl (by first | rfl | exact b2i_z | decide) (by exact ⟨rfl, rfl⟩)

set_option maxRecDepth 100000 in
set_option maxHeartbeats 4000000 in
theorem m_isForce (d : Nat) (P D : HP) (M : MZ) (hP : P.length = 95) (f : Int32) : Con (d + 1) qX12_isForce 0 0 [.ref 95, .int f] (mh P M D) (XI (b2i (isF f)) (mh P M D)) := by
  refine Con.of (by decide +kernel) (Nat.le_of_ble_eq_true rfl) ?_
  show Sem (d + 1) qX12_isForce 0 0 0 [(0, .ref 95), (1, .int f)] [] (mh P M D) _
  refine s_aload_nr (j := 0) dX12_isForce_0 rfl ?_
  refine s_iload_n (j := 1) dX12_isForce_1 rfl ?_
  refine s_iconst (v := 0) dX12_isForce_2 (by decide) ?_
  refine s_bipush (v := 9) dX12_isForce_3 (by decide) ?_
  refine s_V3i cv_X12_203 rfl dX12_isForce_5 (mh_get (k := 0) hP rfl) rfl (Nat.le_of_ble_eq_true rfl) (m_in _ P D _ hP _ _ _) (fun y5 h5 q5 => ?_)
  obtain ⟨rfl, rfl⟩ := q5
  exact e_zret dX12_isForce_8 rfl (by first | rfl | exact b2i_z | decide) (by exact ⟨rfl, rfl⟩)

set_option maxRecDepth 100000 in
set_option maxHeartbeats 4000000 in
theorem m_isTape (d : Nat) (P D : HP) (M : MZ) (hP : P.length = 95) (t : Int32) : Con (d + 1) qX12_isTape 0 0 [.ref 95, .int t] (mh P M D) (XI (b2i (0 ≤ t ∧ t ≤ 5)) (mh P M D)) := by
  refine Con.of (by decide +kernel) (Nat.le_of_ble_eq_true rfl) ?_
  show Sem (d + 1) qX12_isTape 0 0 0 [(0, .ref 95), (1, .int t)] [] (mh P M D) _
  refine s_aload_nr (j := 0) dX12_isTape_0 rfl ?_
  refine s_iload_n (j := 1) dX12_isTape_1 rfl ?_
  refine s_iconst (v := 0) dX12_isTape_2 (by decide) ?_
  refine s_iconst (v := 5) dX12_isTape_3 (by decide) ?_
  refine s_V3i cv_X12_203 rfl dX12_isTape_4 (mh_get (k := 0) hP rfl) rfl (Nat.le_of_ble_eq_true rfl) (m_in _ P D _ hP _ _ _) (fun y4 h4 q4 => ?_)
  obtain ⟨rfl, rfl⟩ := q4
  exact e_zret dX12_isTape_7 rfl (by first | rfl | exact b2i_z | decide) (by exact ⟨rfl, rfl⟩)

set_option maxRecDepth 100000 in
set_option maxHeartbeats 4000000 in
theorem m_areDraws (d : Nat) (P D : HP) (M : MZ) (hP : P.length = 95) (a b : Int32) : Con (d + 1) qX12_areDraws 0 0 [.ref 95, .int a, .int b] (mh P M D) (XI (b2i ((0 ≤ a ∧ a ≤ 99) ∧ (0 ≤ b ∧ b ≤ 99))) (mh P M D)) := by
  refine Con.of (by decide +kernel) (Nat.le_of_ble_eq_true rfl) ?_
  show Sem (d + 1) qX12_areDraws 0 0 0 [(0, .ref 95), (1, .int a), (2, .int b)] [] (mh P M D) _
  refine s_aload_nr (j := 0) dX12_areDraws_0 rfl ?_
  refine s_iload_n (j := 1) dX12_areDraws_1 rfl ?_
  refine s_iconst (v := 0) dX12_areDraws_2 (by decide) ?_
  refine s_bipush (v := 99) dX12_areDraws_3 (by decide) ?_
  refine s_V3i cv_X12_203 rfl dX12_areDraws_5 (mh_get (k := 0) hP rfl) rfl (Nat.le_of_ble_eq_true rfl) (m_in _ P D _ hP _ _ _) (fun y5 h5 q5 => ?_)
  obtain ⟨rfl, rfl⟩ := q5
  refine s_if_eq dX12_areDraws_8 (tgt := 26) (by decide) (fun c8 => ?_) (fun c8 => ?_)
  · replace c8 := b2i_0.mp c8
    refine s_iconst (v := 0) dX12_areDraws_26 (by decide) ?_
    exact e_zret dX12_areDraws_27 rfl (by first | rfl | exact b2i_z | decide) (by first | exact ⟨(b2i_t ⟨by assumption, by assumption⟩).symm, rfl⟩ | exact ⟨(b2i_f (fun z => absurd z.1 (by assumption))).symm, rfl⟩ | exact ⟨(b2i_f (fun z => absurd z.2 (by assumption))).symm, rfl⟩)
  · replace c8 := b2i_n0.mp c8
    refine s_aload_nr (j := 0) dX12_areDraws_11 rfl ?_
    refine s_iload_n (j := 2) dX12_areDraws_12 rfl ?_
    refine s_iconst (v := 0) dX12_areDraws_13 (by decide) ?_
    refine s_bipush (v := 99) dX12_areDraws_14 (by decide) ?_
    refine s_V3i cv_X12_203 rfl dX12_areDraws_16 (mh_get (k := 0) hP rfl) rfl (Nat.le_of_ble_eq_true rfl) (m_in _ P D _ hP _ _ _) (fun y16 h16 q16 => ?_)
    obtain ⟨rfl, rfl⟩ := q16
    refine s_if_eq dX12_areDraws_19 (tgt := 26) (by decide) (fun c19 => ?_) (fun c19 => ?_)
    · replace c19 := b2i_0.mp c19
      refine s_iconst (v := 0) dX12_areDraws_26 (by decide) ?_
      exact e_zret dX12_areDraws_27 rfl (by first | rfl | exact b2i_z | decide) (by first | exact ⟨(b2i_t ⟨by assumption, by assumption⟩).symm, rfl⟩ | exact ⟨(b2i_f (fun z => absurd z.1 (by assumption))).symm, rfl⟩ | exact ⟨(b2i_f (fun z => absurd z.2 (by assumption))).symm, rfl⟩)
    · replace c19 := b2i_n0.mp c19
      refine s_iconst (v := 1) dX12_areDraws_22 (by decide) ?_
      refine s_goto dX12_areDraws_23 (tgt := 27) (by decide) ?_
      exact e_zret dX12_areDraws_27 rfl (by first | rfl | exact b2i_z | decide) (by first | exact ⟨(b2i_t ⟨by assumption, by assumption⟩).symm, rfl⟩ | exact ⟨(b2i_f (fun z => absurd z.1 (by assumption))).symm, rfl⟩ | exact ⟨(b2i_f (fun z => absurd z.2 (by assumption))).symm, rfl⟩)

set_option maxRecDepth 100000 in
set_option maxHeartbeats 4000000 in
theorem m_told (d : Nat) (P D : HP) (M : MZ) (hP : P.length = 95) (w : Int32) : Con d qX12_told 0 0 [.ref 95, .int w] (mh P M D) (XI (if w = 0 then M.1 1 else if w = 1 then M.1 2 else if w = 2 then M.1 3 else -1) (mh P M D)) := by
  refine Con.of (by decide +kernel) (Nat.le_of_ble_eq_true rfl) ?_
  show Sem d qX12_told 0 0 0 [(0, .ref 95), (1, .int w)] [] (mh P M D) _
  refine s_iload_n (j := 1) dX12_told_0 rfl ?_
  refine s_if_ne dX12_told_1 (tgt := 11) (by decide) (fun c1 => ?_) (fun c1 => ?_)
  · refine s_iload_n (j := 1) dX12_told_11 rfl ?_
    refine s_iconst (v := 1) dX12_told_12 (by decide) ?_
    refine s_icmp_ne dX12_told_13 (tgt := 23) (by decide) (fun c13 => ?_) (fun c13 => ?_)
    · refine s_iload_n (j := 1) dX12_told_23 rfl ?_
      refine s_iconst (v := 2) dX12_told_24 (by decide) ?_
      refine s_icmp_ne dX12_told_25 (tgt := 35) (by decide) (fun c25 => ?_) (fun c25 => ?_)
      · refine s_iconst (v := -1) dX12_told_35 (by decide) ?_
        exact e_iret dX12_told_36 rfl (by exact ⟨by simp [*], rfl⟩)
      · refine s_aload_nr (j := 0) dX12_told_28 rfl ?_
        refine gM_stance dX12_told_29 rfl hP ?_
        refine s_goto dX12_told_32 (tgt := 36) (by decide) ?_
        exact e_iret dX12_told_36 rfl (by exact ⟨by simp [*], rfl⟩)
    · refine s_aload_nr (j := 0) dX12_told_16 rfl ?_
      refine gM_lost dX12_told_17 rfl hP ?_
      refine s_goto dX12_told_20 (tgt := 36) (by decide) ?_
      exact e_iret dX12_told_36 rfl (by exact ⟨by simp [*], rfl⟩)
  · refine s_aload_nr (j := 0) dX12_told_4 rfl ?_
    refine gM_won dX12_told_5 rfl hP ?_
    refine s_goto dX12_told_8 (tgt := 36) (by decide) ?_
    exact e_iret dX12_told_36 rfl (by exact ⟨by simp [*], rfl⟩)

set_option maxRecDepth 100000 in
set_option maxHeartbeats 4000000 in
theorem m_stance (d : Nat) (P D : HP) (M : MZ) (hP : P.length = 95) (n : Int32) : Con (d + 1) qX12_stance 0 0 [.ref 95, .int n] (mh P M D) (PI fun y h => if 0 ≤ n ∧ n ≤ 2 then y = M.1 3 ∧ h = mh P (ms1 M 3 n) D else y = -1 ∧ h = mh P M D) := by
  refine Con.of (by decide +kernel) (Nat.le_of_ble_eq_true rfl) ?_
  show Sem (d + 1) qX12_stance 0 0 0 [(0, .ref 95), (1, .int n)] [] (mh P M D) _
  refine s_aload_nr (j := 0) dX12_stance_0 rfl ?_
  refine s_iload_n (j := 1) dX12_stance_1 rfl ?_
  refine s_iconst (v := 0) dX12_stance_2 (by decide) ?_
  refine s_iconst (v := 2) dX12_stance_3 (by decide) ?_
  refine s_V3i cv_X12_203 rfl dX12_stance_4 (mh_get (k := 0) hP rfl) rfl (Nat.le_of_ble_eq_true rfl) (m_in _ P D _ hP _ _ _) (fun y4 h4 q4 => ?_)
  obtain ⟨rfl, rfl⟩ := q4
  refine s_if_ne dX12_stance_7 (tgt := 12) (by decide) (fun c7 => ?_) (fun c7 => ?_)
  · replace c7 := b2i_n0.mp c7
    refine s_aload_nr (j := 0) dX12_stance_12 rfl ?_
    refine gM_stance dX12_stance_13 rfl hP ?_
    refine s_istore_n dX12_stance_16 (by decide) rfl ?_
    refine s_aload_nr (j := 1) dX12_stance_17 rfl ?_
    refine s_iload_n (j := 2) dX12_stance_18 rfl ?_
    refine pM_stance dX12_stance_19 rfl hP ?_
    refine s_iload_n (j := 0) dX12_stance_22 rfl ?_
    exact e_iret dX12_stance_23 rfl (by first | (rw [if_pos (by assumption)]; exact ⟨rfl, rfl⟩) | (rw [if_neg (by assumption)]; exact ⟨rfl, rfl⟩))
  · replace c7 := b2i_0.mp c7
    refine s_iconst (v := -1) dX12_stance_10 (by decide) ?_
    exact e_iret dX12_stance_11 rfl (by first | (rw [if_pos (by assumption)]; exact ⟨rfl, rfl⟩) | (rw [if_neg (by assumption)]; exact ⟨rfl, rfl⟩))

set_option maxRecDepth 100000 in
set_option maxHeartbeats 4000000 in
theorem m_isOver (d : Nat) (P D : HP) (M : MZ) (hP : P.length = 95) : Con d qX12_isOver 0 0 [.ref 95] (mh P M D) (XI (b2i (M.1 1 = 4 ∨ M.1 2 = 4)) (mh P M D)) := by
  refine Con.of (by decide +kernel) (Nat.le_of_ble_eq_true rfl) ?_
  show Sem d qX12_isOver 0 0 0 [(0, .ref 95)] [] (mh P M D) _
  refine s_aload_nr (j := 0) dX12_isOver_0 rfl ?_
  refine gM_won dX12_isOver_1 rfl hP ?_
  refine s_iconst (v := 4) dX12_isOver_4 (by decide) ?_
  refine s_icmp_eq dX12_isOver_5 (tgt := 16) (by decide) (fun c5 => ?_) (fun c5 => ?_)
  · refine s_iconst (v := 1) dX12_isOver_16 (by decide) ?_
    refine s_goto dX12_isOver_17 (tgt := 21) (by decide) ?_
    exact e_zret dX12_isOver_21 rfl (by first | rfl | exact b2i_z | decide) (by first | exact ⟨(b2i_t (by simp [*])).symm, rfl⟩ | exact ⟨(b2i_f (by simp [*])).symm, rfl⟩)
  · refine s_aload_nr (j := 0) dX12_isOver_8 rfl ?_
    refine gM_lost dX12_isOver_9 rfl hP ?_
    refine s_iconst (v := 4) dX12_isOver_12 (by decide) ?_
    refine s_icmp_ne dX12_isOver_13 (tgt := 20) (by decide) (fun c13 => ?_) (fun c13 => ?_)
    · refine s_iconst (v := 0) dX12_isOver_20 (by decide) ?_
      exact e_zret dX12_isOver_21 rfl (by first | rfl | exact b2i_z | decide) (by first | exact ⟨(b2i_t (by simp [*])).symm, rfl⟩ | exact ⟨(b2i_f (by simp [*])).symm, rfl⟩)
    · refine s_iconst (v := 1) dX12_isOver_16 (by decide) ?_
      refine s_goto dX12_isOver_17 (tgt := 21) (by decide) ?_
      exact e_zret dX12_isOver_21 rfl (by first | rfl | exact b2i_z | decide) (by first | exact ⟨(b2i_t (by simp [*])).symm, rfl⟩ | exact ⟨(b2i_f (by simp [*])).symm, rfl⟩)

set_option maxRecDepth 100000 in
set_option maxHeartbeats 4000000 in
theorem m_percent (d : Nat) (P D : HP) (M : MZ) (hP : P.length = 95) (n : Int32) : Con d qX12_percent 0 0 [.ref 95, .int n] (mh P M D) (XI (if n < 0 then 0 else if 100 < n then 100 else n) (mh P M D)) := by
  refine Con.of (by decide +kernel) (Nat.le_of_ble_eq_true rfl) ?_
  show Sem d qX12_percent 0 0 0 [(0, .ref 95), (1, .int n)] [] (mh P M D) _
  refine s_iload_n (j := 1) dX12_percent_0 rfl ?_
  refine s_if_ge dX12_percent_1 (tgt := 8) (by decide) (fun c1 => ?_) (fun c1 => ?_)
  · refine s_iload_n (j := 1) dX12_percent_8 rfl ?_
    refine s_bipush (v := 100) dX12_percent_9 (by decide) ?_
    refine s_icmp_le dX12_percent_11 (tgt := 19) (by decide) (fun c11 => ?_) (fun c11 => ?_)
    · refine s_iload_n (j := 1) dX12_percent_19 rfl ?_
      exact e_iret dX12_percent_20 rfl (by exact ⟨by (try simp only [← Int32.not_le] at *); (try simp only [*, not_true, not_false_iff, ↓reduceIte, if_true, if_false]); try rfl, rfl⟩)
    · refine s_bipush (v := 100) dX12_percent_14 (by decide) ?_
      refine s_goto dX12_percent_16 (tgt := 20) (by decide) ?_
      exact e_iret dX12_percent_20 rfl (by exact ⟨by (try simp only [← Int32.not_le] at *); (try simp only [*, not_true, not_false_iff, ↓reduceIte, if_true, if_false]); try rfl, rfl⟩)
  · refine s_iconst (v := 0) dX12_percent_4 (by decide) ?_
    refine s_goto dX12_percent_5 (tgt := 20) (by decide) ?_
    exact e_iret dX12_percent_20 rfl (by exact ⟨by (try simp only [← Int32.not_le] at *); (try simp only [*, not_true, not_false_iff, ↓reduceIte, if_true, if_false]); try rfl, rfl⟩)

set_option maxRecDepth 100000 in
set_option maxHeartbeats 4000000 in
theorem m_begin (d : Nat) (P D : HP) (M : MZ) (hP : P.length = 95) : Con d qX12_begin 0 0 [.ref 95] (mh P M D) (XI (if M.1 5 < 0 then 0 else 10 * M.1 5) (mh P M D)) := by
  refine Con.of (by decide +kernel) (Nat.le_of_ble_eq_true rfl) ?_
  show Sem d qX12_begin 0 0 0 [(0, .ref 95)] [] (mh P M D) _
  refine s_aload_nr (j := 0) dX12_begin_0 rfl ?_
  refine gM_the dX12_begin_1 rfl hP ?_
  refine s_if_ge dX12_begin_4 (tgt := 11) (by decide) (fun c4 => ?_) (fun c4 => ?_)
  · refine s_bipush (v := 10) dX12_begin_11 (by decide) ?_
    refine s_aload_nr (j := 0) dX12_begin_13 rfl ?_
    refine gM_the dX12_begin_14 rfl hP ?_
    refine s_imul dX12_begin_17 ?_
    exact e_iret dX12_begin_18 rfl (by exact ⟨by (try simp only [← Int32.not_le] at *); (try simp only [*, not_true, not_false_iff, ↓reduceIte, if_true, if_false]); try rfl, rfl⟩)
  · refine s_iconst (v := 0) dX12_begin_7 (by decide) ?_
    refine s_goto dX12_begin_8 (tgt := 18) (by decide) ?_
    exact e_iret dX12_begin_18 rfl (by exact ⟨by (try simp only [← Int32.not_le] at *); (try simp only [*, not_true, not_false_iff, ↓reduceIte, if_true, if_false]); try rfl, rfl⟩)
