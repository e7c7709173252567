theorem mo1 (M : MZ) (k : Nat) : msa (msa (msa (msa M 4 k 0) 2 k (M.2.1 2 k)) 3 k (M.2.1 3 k)) 4 k (M.2.1 4 k) = M := by
  rw [msa_sw _ _ _ _ _ (show (3 : Nat) ≠ 4 by decide), msa_sw _ _ _ _ _ (show (2 : Nat) ≠ 4 by decide), msa_2, msa_id, msa_id, msa_id]
theorem mo2 (M : MZ) (k : Nat) (x y : Int32) : msa (msa (msa (msa (msa M 2 k x) 3 k y) 2 k (M.2.1 2 k)) 3 k (M.2.1 3 k)) 4 k (M.2.1 4 k) = M := by
  rw [msa_sw _ _ _ _ _ (show (3 : Nat) ≠ 2 by decide), msa_2, msa_2, msa_id, msa_id, msa_id]
set_option maxRecDepth 100000 in
set_option maxHeartbeats 4000000 in
theorem m_chanceOf (d : Nat) (P D : HP) (M s : MZ) (hP : P.length = 95) (p a b : Int32) (hp : vp_in p 4) (cl : CLs) (hcl : CN M cl) : Con (d + 4) qX12_chanceOf 0 0 [.ref 95, .int p, .int a, .int b] (mh P (scr M s) D) (XS P D (sCh M cl p a b) M s) := by
  refine Con.of (by decide +kernel) (Nat.le_of_ble_eq_true rfl) ?_
  show Sem (d + 4) qX12_chanceOf 0 0 0 [(0, .ref 95), (1, .int p), (2, .int a), (3, .int b)] [] (mh P (scr M s) D) _
  rw [show mh P (scr M s) D = mh P (scr M (mra s 15 (s.2.1 15))) D by rw [mra_id]]
  generalize s.2.1 15 = g0
  refine s_aload_nr (j := 0) dX12_chanceOf_0 rfl ?_
  refine s_iload_n (j := 1) dX12_chanceOf_1 rfl ?_
  refine s_iload_n (j := 2) dX12_chanceOf_2 rfl ?_
  refine s_V2i cv_X12_280 rfl dX12_chanceOf_3 (mh_get (k := 0) hP rfl) rfl (Nat.le_of_ble_eq_true rfl) (m_inOf _ P D M _ hP p a hp cl hcl) (fun y3 h3 q3 => ?_)
  obtain ⟨rfl, g3, rfl⟩ := q3
  try rw [mra_2]
  refine s_istore dX12_chanceOf_6 (by decide) rfl ?_
  refine s_iload (j := 0) dX12_chanceOf_8 rfl ?_
  refine s_aload_nr (j := 1) dX12_chanceOf_10 rfl ?_
  refine s_iload_n (j := 2) dX12_chanceOf_11 rfl ?_
  refine s_iload_n (j := 3) dX12_chanceOf_12 rfl ?_
  refine s_V2i cv_X12_284 rfl dX12_chanceOf_13 (mh_get (k := 0) hP rfl) rfl (Nat.le_of_ble_eq_true rfl) (m_winsOf _ P D M _ hP p a hp cl hcl) (fun y13 h13 q13 => ?_)
  obtain ⟨rfl, g13, rfl⟩ := q13
  try rw [mra_2]
  refine s_imul dX12_chanceOf_16 ?_
  refine s_bipush (v := 100) dX12_chanceOf_17 (by decide) ?_
  refine s_imul dX12_chanceOf_19 ?_
  refine s_bipush (v := 100) dX12_chanceOf_20 (by decide) ?_
  refine s_iload (j := 0) dX12_chanceOf_22 rfl ?_
  refine s_isub dX12_chanceOf_24 ?_
  refine s_aload_nr (j := 1) dX12_chanceOf_25 rfl ?_
  refine s_iload_n (j := 2) dX12_chanceOf_26 rfl ?_
  refine s_iload_n (j := 4) dX12_chanceOf_27 rfl ?_
  refine s_V2i cv_X12_280 rfl dX12_chanceOf_28 (mh_get (k := 0) hP rfl) rfl (Nat.le_of_ble_eq_true rfl) (m_inOf _ P D M _ hP p b hp cl hcl) (fun y28 h28 q28 => ?_)
  obtain ⟨rfl, g28, rfl⟩ := q28
  try rw [mra_2]
  refine s_imul dX12_chanceOf_31 ?_
  refine s_aload_nr (j := 1) dX12_chanceOf_32 rfl ?_
  refine s_iload_n (j := 2) dX12_chanceOf_33 rfl ?_
  refine s_iload_n (j := 4) dX12_chanceOf_34 rfl ?_
  refine s_V2i cv_X12_284 rfl dX12_chanceOf_35 (mh_get (k := 0) hP rfl) rfl (Nat.le_of_ble_eq_true rfl) (m_winsOf _ P D M _ hP p b hp cl hcl) (fun y35 h35 q35 => ?_)
  obtain ⟨rfl, g35, rfl⟩ := q35
  try rw [mra_2]
  refine s_imul dX12_chanceOf_38 ?_
  refine s_iadd dX12_chanceOf_39 ?_
  exact e_iret dX12_chanceOf_40 rfl (by exact ⟨rfl, _, rfl⟩)

set_option maxRecDepth 100000 in
set_option maxHeartbeats 4000000 in
theorem m_faultsOf (d : Nat) (P D : HP) (M s : MZ) (hP : P.length = 95) (p a b : Int32) (hp : vp_in p 4) (cl : CLs) (hcl : CN M cl) : Con (d + 4) qX12_faultsOf 0 0 [.ref 95, .int p, .int a, .int b] (mh P (scr M s) D) (XS P D (sFa M cl p a b) M s) := by
  refine Con.of (by decide +kernel) (Nat.le_of_ble_eq_true rfl) ?_
  show Sem (d + 4) qX12_faultsOf 0 0 0 [(0, .ref 95), (1, .int p), (2, .int a), (3, .int b)] [] (mh P (scr M s) D) _
  rw [show mh P (scr M s) D = mh P (scr M (mra s 15 (s.2.1 15))) D by rw [mra_id]]
  generalize s.2.1 15 = g0
  refine s_bipush (v := 100) dX12_faultsOf_0 (by decide) ?_
  refine s_aload_nr (j := 0) dX12_faultsOf_2 rfl ?_
  refine s_iload_n (j := 1) dX12_faultsOf_3 rfl ?_
  refine s_iload_n (j := 2) dX12_faultsOf_4 rfl ?_
  refine s_V2i cv_X12_280 rfl dX12_faultsOf_5 (mh_get (k := 0) hP rfl) rfl (Nat.le_of_ble_eq_true rfl) (m_inOf _ P D M _ hP p a hp cl hcl) (fun y5 h5 q5 => ?_)
  obtain ⟨rfl, g5, rfl⟩ := q5
  try rw [mra_2]
  refine s_isub dX12_faultsOf_8 ?_
  refine s_bipush (v := 100) dX12_faultsOf_9 (by decide) ?_
  refine s_aload_nr (j := 0) dX12_faultsOf_11 rfl ?_
  refine s_iload_n (j := 1) dX12_faultsOf_12 rfl ?_
  refine s_iload_n (j := 3) dX12_faultsOf_13 rfl ?_
  refine s_V2i cv_X12_280 rfl dX12_faultsOf_14 (mh_get (k := 0) hP rfl) rfl (Nat.le_of_ble_eq_true rfl) (m_inOf _ P D M _ hP p b hp cl hcl) (fun y14 h14 q14 => ?_)
  obtain ⟨rfl, g14, rfl⟩ := q14
  try rw [mra_2]
  refine s_isub dX12_faultsOf_17 ?_
  refine s_imul dX12_faultsOf_18 ?_
  exact e_iret dX12_faultsOf_19 rfl (by exact ⟨rfl, _, rfl⟩)

set_option maxRecDepth 100000 in
set_option maxHeartbeats 4000000 in
theorem m_chanceNow (d : Nat) (P D : HP) (M s : MZ) (hP : P.length = 95) (p : Int32) (hp : vp_in p 4) (cl : CLs) (hcl : CN M cl) (hs : ∀ i, i < 4 → 0 ≤ M.2.1 4 i) : Con (d + 5) qX12_chanceNow 0 0 [.ref 95, .int p] (mh P (scr M s) D) (XS P D (sNow M cl p) M s) := by
  refine Con.of (by decide +kernel) (Nat.le_of_ble_eq_true rfl) ?_
  show Sem (d + 5) qX12_chanceNow 0 0 0 [(0, .ref 95), (1, .int p)] [] (mh P (scr M s) D) _
  rw [show mh P (scr M s) D = mh P (scr M (mra s 15 (s.2.1 15))) D by rw [mra_id]]
  generalize s.2.1 15 = g0
  refine s_aload_nr (j := 0) dX12_chanceNow_0 rfl ?_
  refine s_iload_n (j := 1) dX12_chanceNow_1 rfl ?_
  refine s_aload_nr (j := 0) dX12_chanceNow_2 rfl ?_
  refine s_iload_n (j := 1) dX12_chanceNow_3 rfl ?_
  refine s_V1i cv_X12_287 rfl dX12_chanceNow_4 (mh_get (k := 0) hP rfl) rfl (Nat.le_of_ble_eq_true rfl) (n_firstOf _ P D M _ hP _ hp hs) (fun y4 h4 q4 => ?_)
  obtain ⟨rfl, rfl⟩ := q4
  refine s_aload_nr (j := 0) dX12_chanceNow_7 rfl ?_
  refine s_iload_n (j := 1) dX12_chanceNow_8 rfl ?_
  refine s_V1i cv_X12_290 rfl dX12_chanceNow_9 (mh_get (k := 0) hP rfl) rfl (Nat.le_of_ble_eq_true rfl) (n_secondOf _ P D M _ hP _ hp) (fun y9 h9 q9 => ?_)
  obtain ⟨rfl, rfl⟩ := q9
  refine s_V3i cv_X12_293 rfl dX12_chanceNow_12 (mh_get (k := 0) hP rfl) rfl (Nat.le_of_ble_eq_true rfl) (m_chanceOf _ P D (M) _ hP p (_) (_) hp cl hcl) (fun y12 h12 q12 => ?_)
  obtain ⟨rfl, g12, rfl⟩ := q12
  try rw [mra_2]
  exact e_iret dX12_chanceNow_15 rfl (by exact ⟨rfl, _, rfl⟩)

set_option maxRecDepth 100000 in
set_option maxHeartbeats 4000000 in
theorem m_chance (d : Nat) (P D : HP) (M s : MZ) (hP : P.length = 95) (p a b : Int32) (hz : 0 ≤ M.1 0 ∧ M.1 0 ≤ 4) (hs : ∀ i, i < 4 → 0 ≤ M.2.1 4 i) (cl : CLs) (hcl : CN M cl) : Con (d + 5) qX12_chance 0 0 [.ref 95, .int p, .int a, .int b] (mh P (scr M s) D) (XS P D (sp_chance M cl p a b) M s) := by
  refine Con.of (by decide +kernel) (Nat.le_of_ble_eq_true rfl) ?_
  show Sem (d + 5) qX12_chance 0 0 0 [(0, .ref 95), (1, .int p), (2, .int a), (3, .int b)] [] (mh P (scr M s) D) _
  rw [show mh P (scr M s) D = mh P (scr M (mra s 15 (s.2.1 15))) D by rw [mra_id]]
  generalize s.2.1 15 = g0
  refine s_aload_nr (j := 0) dX12_chance_0 rfl ?_
  refine s_iload_n (j := 1) dX12_chance_1 rfl ?_
  refine s_V1i cv_X12_211 rfl dX12_chance_2 (mh_get (k := 0) hP rfl) rfl (Nat.le_of_ble_eq_true rfl) (n_isServer _ P D M _ hP _) (fun y2 h2 q2 => ?_)
  obtain ⟨rfl, rfl⟩ := q2
  refine s_if_eq dX12_chance_5 (tgt := 34) (by decide) (fun c5 => ?_) (fun c5 => ?_)
  · replace c5 := b2i_0.mp c5
    refine s_iconst (v := -1) dX12_chance_34 (by decide) ?_
    exact e_iret dX12_chance_35 rfl (by unfold sp_chance; (first | rw [if_pos c5] | rw [if_neg c5] | skip); first | exact ⟨rfl, _, rfl⟩ | contradiction | (exfalso; (try simp only [Int32.not_lt, Int32.not_le, Int32.le_iff_toInt_le, Int32.lt_iff_toInt_lt, ← Int32.toInt_inj] at *); (try simp at *); omega) | (simp_all; done))
  · replace c5 := b2i_n0.mp c5
    refine s_aload_nr (j := 0) dX12_chance_8 rfl ?_
    refine s_iload_n (j := 2) dX12_chance_9 rfl ?_
    refine s_V1i cv_X12_207 rfl dX12_chance_10 (mh_get (k := 0) hP rfl) rfl (Nat.le_of_ble_eq_true rfl) (m_isForce _ P D _ hP _) (fun y10 h10 q10 => ?_)
    obtain ⟨rfl, rfl⟩ := q10
    refine s_if_eq dX12_chance_13 (tgt := 34) (by decide) (fun c13 => ?_) (fun c13 => ?_)
    · replace c13 := b2i_0.mp c13
      refine s_iconst (v := -1) dX12_chance_34 (by decide) ?_
      exact e_iret dX12_chance_35 rfl (by unfold sp_chance; (first | rw [if_pos c5] | rw [if_neg c5] | skip); (first | rw [if_pos c13] | rw [if_neg c13] | skip); first | exact ⟨rfl, _, rfl⟩ | contradiction | (exfalso; (try simp only [Int32.not_lt, Int32.not_le, Int32.le_iff_toInt_le, Int32.lt_iff_toInt_lt, ← Int32.toInt_inj] at *); (try simp at *); omega) | (simp_all; done))
    · replace c13 := b2i_n0.mp c13
      refine s_aload_nr (j := 0) dX12_chance_16 rfl ?_
      refine s_iload_n (j := 3) dX12_chance_17 rfl ?_
      refine s_V1i cv_X12_207 rfl dX12_chance_18 (mh_get (k := 0) hP rfl) rfl (Nat.le_of_ble_eq_true rfl) (m_isForce _ P D _ hP _) (fun y18 h18 q18 => ?_)
      obtain ⟨rfl, rfl⟩ := q18
      refine s_if_eq dX12_chance_21 (tgt := 34) (by decide) (fun c21 => ?_) (fun c21 => ?_)
      · replace c21 := b2i_0.mp c21
        refine s_iconst (v := -1) dX12_chance_34 (by decide) ?_
        exact e_iret dX12_chance_35 rfl (by unfold sp_chance; (first | rw [if_pos c5] | rw [if_neg c5] | skip); (first | rw [if_pos c13] | rw [if_neg c13] | skip); (first | rw [if_pos c21] | rw [if_neg c21] | skip); first | exact ⟨rfl, _, rfl⟩ | contradiction | (exfalso; (try simp only [Int32.not_lt, Int32.not_le, Int32.le_iff_toInt_le, Int32.lt_iff_toInt_lt, ← Int32.toInt_inj] at *); (try simp at *); omega) | (simp_all; done))
      · replace c21 := b2i_n0.mp c21
        have hp := in4_of hz c5
        refine s_aload_nr (j := 0) dX12_chance_24 rfl ?_
        refine s_iload_n (j := 1) dX12_chance_25 rfl ?_
        refine s_iload_n (j := 2) dX12_chance_26 rfl ?_
        refine s_iload_n (j := 3) dX12_chance_27 rfl ?_
        refine s_V3i cv_X12_293 rfl dX12_chance_28 (mh_get (k := 0) hP rfl) rfl (Nat.le_of_ble_eq_true rfl) (m_chanceOf _ P D (M) _ hP p (a) (b) hp cl hcl) (fun y28 h28 q28 => ?_)
        obtain ⟨rfl, g28, rfl⟩ := q28
        try rw [mra_2]
        refine s_goto dX12_chance_31 (tgt := 35) (by decide) ?_
        exact e_iret dX12_chance_35 rfl (by unfold sp_chance; (first | rw [if_pos c5] | rw [if_neg c5] | skip); (first | rw [if_pos c13] | rw [if_neg c13] | skip); (first | rw [if_pos c21] | rw [if_neg c21] | skip); first | exact ⟨rfl, _, rfl⟩ | contradiction | (exfalso; (try simp only [Int32.not_lt, Int32.not_le, Int32.le_iff_toInt_le, Int32.lt_iff_toInt_lt, ← Int32.toInt_inj] at *); (try simp at *); omega) | (simp_all; done))

set_option maxRecDepth 100000 in
set_option maxHeartbeats 4000000 in
theorem m_faults (d : Nat) (P D : HP) (M s : MZ) (hP : P.length = 95) (p a b : Int32) (hz : 0 ≤ M.1 0 ∧ M.1 0 ≤ 4) (hs : ∀ i, i < 4 → 0 ≤ M.2.1 4 i) (cl : CLs) (hcl : CN M cl) : Con (d + 5) qX12_faults 0 0 [.ref 95, .int p, .int a, .int b] (mh P (scr M s) D) (XS P D (sp_faults M cl p a b) M s) := by
  refine Con.of (by decide +kernel) (Nat.le_of_ble_eq_true rfl) ?_
  show Sem (d + 5) qX12_faults 0 0 0 [(0, .ref 95), (1, .int p), (2, .int a), (3, .int b)] [] (mh P (scr M s) D) _
  rw [show mh P (scr M s) D = mh P (scr M (mra s 15 (s.2.1 15))) D by rw [mra_id]]
  generalize s.2.1 15 = g0
  refine s_aload_nr (j := 0) dX12_faults_0 rfl ?_
  refine s_iload_n (j := 1) dX12_faults_1 rfl ?_
  refine s_V1i cv_X12_211 rfl dX12_faults_2 (mh_get (k := 0) hP rfl) rfl (Nat.le_of_ble_eq_true rfl) (n_isServer _ P D M _ hP _) (fun y2 h2 q2 => ?_)
  obtain ⟨rfl, rfl⟩ := q2
  refine s_if_eq dX12_faults_5 (tgt := 34) (by decide) (fun c5 => ?_) (fun c5 => ?_)
  · replace c5 := b2i_0.mp c5
    refine s_iconst (v := -1) dX12_faults_34 (by decide) ?_
    exact e_iret dX12_faults_35 rfl (by unfold sp_faults; (first | rw [if_pos c5] | rw [if_neg c5] | skip); first | exact ⟨rfl, _, rfl⟩ | contradiction | (exfalso; (try simp only [Int32.not_lt, Int32.not_le, Int32.le_iff_toInt_le, Int32.lt_iff_toInt_lt, ← Int32.toInt_inj] at *); (try simp at *); omega) | (simp_all; done))
  · replace c5 := b2i_n0.mp c5
    refine s_aload_nr (j := 0) dX12_faults_8 rfl ?_
    refine s_iload_n (j := 2) dX12_faults_9 rfl ?_
    refine s_V1i cv_X12_207 rfl dX12_faults_10 (mh_get (k := 0) hP rfl) rfl (Nat.le_of_ble_eq_true rfl) (m_isForce _ P D _ hP _) (fun y10 h10 q10 => ?_)
    obtain ⟨rfl, rfl⟩ := q10
    refine s_if_eq dX12_faults_13 (tgt := 34) (by decide) (fun c13 => ?_) (fun c13 => ?_)
    · replace c13 := b2i_0.mp c13
      refine s_iconst (v := -1) dX12_faults_34 (by decide) ?_
      exact e_iret dX12_faults_35 rfl (by unfold sp_faults; (first | rw [if_pos c5] | rw [if_neg c5] | skip); (first | rw [if_pos c13] | rw [if_neg c13] | skip); first | exact ⟨rfl, _, rfl⟩ | contradiction | (exfalso; (try simp only [Int32.not_lt, Int32.not_le, Int32.le_iff_toInt_le, Int32.lt_iff_toInt_lt, ← Int32.toInt_inj] at *); (try simp at *); omega) | (simp_all; done))
    · replace c13 := b2i_n0.mp c13
      refine s_aload_nr (j := 0) dX12_faults_16 rfl ?_
      refine s_iload_n (j := 3) dX12_faults_17 rfl ?_
      refine s_V1i cv_X12_207 rfl dX12_faults_18 (mh_get (k := 0) hP rfl) rfl (Nat.le_of_ble_eq_true rfl) (m_isForce _ P D _ hP _) (fun y18 h18 q18 => ?_)
      obtain ⟨rfl, rfl⟩ := q18
      refine s_if_eq dX12_faults_21 (tgt := 34) (by decide) (fun c21 => ?_) (fun c21 => ?_)
      · replace c21 := b2i_0.mp c21
        refine s_iconst (v := -1) dX12_faults_34 (by decide) ?_
        exact e_iret dX12_faults_35 rfl (by unfold sp_faults; (first | rw [if_pos c5] | rw [if_neg c5] | skip); (first | rw [if_pos c13] | rw [if_neg c13] | skip); (first | rw [if_pos c21] | rw [if_neg c21] | skip); first | exact ⟨rfl, _, rfl⟩ | contradiction | (exfalso; (try simp only [Int32.not_lt, Int32.not_le, Int32.le_iff_toInt_le, Int32.lt_iff_toInt_lt, ← Int32.toInt_inj] at *); (try simp at *); omega) | (simp_all; done))
      · replace c21 := b2i_n0.mp c21
        have hp := in4_of hz c5
        refine s_aload_nr (j := 0) dX12_faults_24 rfl ?_
        refine s_iload_n (j := 1) dX12_faults_25 rfl ?_
        refine s_iload_n (j := 2) dX12_faults_26 rfl ?_
        refine s_iload_n (j := 3) dX12_faults_27 rfl ?_
        refine s_V3i cv_X12_296 rfl dX12_faults_28 (mh_get (k := 0) hP rfl) rfl (Nat.le_of_ble_eq_true rfl) (m_faultsOf _ P D M _ hP p (a) (b) hp cl hcl) (fun y28 h28 q28 => ?_)
        obtain ⟨rfl, g28, rfl⟩ := q28
        try rw [mra_2]
        refine s_goto dX12_faults_31 (tgt := 35) (by decide) ?_
        exact e_iret dX12_faults_35 rfl (by unfold sp_faults; (first | rw [if_pos c5] | rw [if_neg c5] | skip); (first | rw [if_pos c13] | rw [if_neg c13] | skip); (first | rw [if_pos c21] | rw [if_neg c21] | skip); first | exact ⟨rfl, _, rfl⟩ | contradiction | (exfalso; (try simp only [Int32.not_lt, Int32.not_le, Int32.le_iff_toInt_le, Int32.lt_iff_toInt_lt, ← Int32.toInt_inj] at *); (try simp at *); omega) | (simp_all; done))

set_option maxRecDepth 100000 in
set_option maxHeartbeats 4000000 in
theorem m_of (d : Nat) (P D : HP) (M s : MZ) (hP : P.length = 95) (p w : Int32) (hz : 0 ≤ M.1 0 ∧ M.1 0 ≤ 4) (hs : ∀ i, i < 4 → 0 ≤ M.2.1 4 i) (cl : CLs) (hcl : CN M cl) : Con (d + 4) qX12_of 0 0 [.ref 95, .int p, .int w] (mh P (scr M s) D) (XS P D (sp_of M cl p w) M s) := by
  refine Con.of (by decide +kernel) (Nat.le_of_ble_eq_true rfl) ?_
  show Sem (d + 4) qX12_of 0 0 0 [(0, .ref 95), (1, .int p), (2, .int w)] [] (mh P (scr M s) D) _
  rw [show mh P (scr M s) D = mh P (scr M (mra s 15 (s.2.1 15))) D by rw [mra_id]]
  generalize s.2.1 15 = g0
  refine s_aload_nr (j := 0) dX12_of_0 rfl ?_
  refine s_iload_n (j := 1) dX12_of_1 rfl ?_
  refine s_V1i cv_X12_211 rfl dX12_of_2 (mh_get (k := 0) hP rfl) rfl (Nat.le_of_ble_eq_true rfl) (n_isServer _ P D M _ hP _) (fun y2 h2 q2 => ?_)
  obtain ⟨rfl, rfl⟩ := q2
  refine s_if_ne dX12_of_5 (tgt := 10) (by decide) (fun c5 => ?_) (fun c5 => ?_)
  · replace c5 := b2i_n0.mp c5
    have hp := in4_of hz c5
    refine s_aload_nr (j := 0) dX12_of_10 rfl ?_
    refine s_iload_n (j := 2) dX12_of_11 rfl ?_
    refine s_bipush (v := 10) dX12_of_12 (by decide) ?_
    refine s_bipush (v := 29) dX12_of_14 (by decide) ?_
    refine s_V3i cv_X12_203 rfl dX12_of_16 (mh_get (k := 0) hP rfl) rfl (Nat.le_of_ble_eq_true rfl) (m_in _ P D _ hP _ _ _) (fun y16 h16 q16 => ?_)
    obtain ⟨rfl, rfl⟩ := q16
    refine s_if_eq dX12_of_19 (tgt := 50) (by decide) (fun c19 => ?_) (fun c19 => ?_)
    · replace c19 := b2i_0.mp c19
      refine s_iload_n (j := 2) dX12_of_50 rfl ?_
      refine s_topi (fun x51 ex51 => ?_)
      by_cases k51_0 : x51 = 0
      · refine s_tswIn dX12_of_51 (tgt := 92) (by rw [k51_0]; decide) (by rw [k51_0]; decide) (off := 41) (by rw [k51_0]; decide) (by decide) ?_
        replace ex51 := ex51.symm.trans k51_0
        clear k51_0
        refine s_aload_nr (j := 0) dX12_of_92 rfl ?_
        refine gS_kind dX12_of_93 rfl hP ?_
        refine s_iload_n (j := 1) dX12_of_96 rfl ?_
        refine lS_kind dX12_of_97 hP (by exact hp) ?_
        exact e_iret dX12_of_98 rfl (by unfold sp_of; (first | rw [if_pos c5] | rw [if_neg c5] | skip); (first | rw [if_pos c19] | rw [if_neg c19] | skip); first | exact ⟨rfl, _, rfl⟩ | exact ⟨by simp [*], _, rfl⟩)
      by_cases k51_1 : x51 = 1
      · refine s_tswIn dX12_of_51 (tgt := 99) (by rw [k51_1]; decide) (by rw [k51_1]; decide) (off := 48) (by rw [k51_1]; decide) (by decide) ?_
        replace ex51 := ex51.symm.trans k51_1
        clear k51_1 k51_0
        refine s_aload_nr (j := 0) dX12_of_99 rfl ?_
        refine gS_v dX12_of_100 rfl hP ?_
        refine s_iload_n (j := 1) dX12_of_103 rfl ?_
        refine lS_v dX12_of_104 hP (by exact hp) ?_
        exact e_iret dX12_of_105 rfl (by unfold sp_of; (first | rw [if_pos c5] | rw [if_neg c5] | skip); (first | rw [if_pos c19] | rw [if_neg c19] | skip); first | exact ⟨rfl, _, rfl⟩ | exact ⟨by simp [*], _, rfl⟩)
      by_cases k51_2 : x51 = 2
      · refine s_tswIn dX12_of_51 (tgt := 106) (by rw [k51_2]; decide) (by rw [k51_2]; decide) (off := 55) (by rw [k51_2]; decide) (by decide) ?_
        replace ex51 := ex51.symm.trans k51_2
        clear k51_2 k51_1 k51_0
        refine s_aload_nr (j := 0) dX12_of_106 rfl ?_
        refine gS_hard dX12_of_107 rfl hP ?_
        refine s_iload_n (j := 1) dX12_of_110 rfl ?_
        refine lS_hard dX12_of_111 hP (by exact hp) ?_
        exact e_iret dX12_of_112 rfl (by unfold sp_of; (first | rw [if_pos c5] | rw [if_neg c5] | skip); (first | rw [if_pos c19] | rw [if_neg c19] | skip); first | exact ⟨rfl, _, rfl⟩ | exact ⟨by simp [*], _, rfl⟩)
      by_cases k51_3 : x51 = 3
      · refine s_tswIn dX12_of_51 (tgt := 113) (by rw [k51_3]; decide) (by rw [k51_3]; decide) (off := 62) (by rw [k51_3]; decide) (by decide) ?_
        replace ex51 := ex51.symm.trans k51_3
        clear k51_3 k51_2 k51_1 k51_0
        refine s_aload_nr (j := 0) dX12_of_113 rfl ?_
        refine gS_soft dX12_of_114 rfl hP ?_
        refine s_iload_n (j := 1) dX12_of_117 rfl ?_
        refine lS_soft dX12_of_118 hP (by exact hp) ?_
        exact e_iret dX12_of_119 rfl (by unfold sp_of; (first | rw [if_pos c5] | rw [if_neg c5] | skip); (first | rw [if_pos c19] | rw [if_neg c19] | skip); first | exact ⟨rfl, _, rfl⟩ | exact ⟨by simp [*], _, rfl⟩)
      by_cases k51_4 : x51 = 4
      · refine s_tswIn dX12_of_51 (tgt := 120) (by rw [k51_4]; decide) (by rw [k51_4]; decide) (off := 69) (by rw [k51_4]; decide) (by decide) ?_
        replace ex51 := ex51.symm.trans k51_4
        clear k51_4 k51_3 k51_2 k51_1 k51_0
        refine s_aload_nr (j := 0) dX12_of_120 rfl ?_
        refine gS_served dX12_of_121 rfl hP ?_
        refine s_iload_n (j := 1) dX12_of_124 rfl ?_
        refine lS_served dX12_of_125 hP (by exact hp) ?_
        exact e_iret dX12_of_126 rfl (by unfold sp_of; (first | rw [if_pos c5] | rw [if_neg c5] | skip); (first | rw [if_pos c19] | rw [if_neg c19] | skip); first | exact ⟨rfl, _, rfl⟩ | exact ⟨by simp [*], _, rfl⟩)
      by_cases k51_5 : x51 = 5
      · refine s_tswIn dX12_of_51 (tgt := 127) (by rw [k51_5]; decide) (by rw [k51_5]; decide) (off := 76) (by rw [k51_5]; decide) (by decide) ?_
        replace ex51 := ex51.symm.trans k51_5
        clear k51_5 k51_4 k51_3 k51_2 k51_1 k51_0
        refine s_aload_nr (j := 0) dX12_of_127 rfl ?_
        refine s_iload_n (j := 1) dX12_of_128 rfl ?_
        refine s_V1i cv_X12_287 rfl dX12_of_129 (mh_get (k := 0) hP rfl) rfl (Nat.le_of_ble_eq_true rfl) (n_firstOf _ P D M _ hP _ hp hs) (fun y129 h129 q129 => ?_)
        obtain ⟨rfl, rfl⟩ := q129
        exact e_iret dX12_of_132 rfl (by unfold sp_of; (first | rw [if_pos c5] | rw [if_neg c5] | skip); (first | rw [if_pos c19] | rw [if_neg c19] | skip); first | exact ⟨rfl, _, rfl⟩ | exact ⟨by simp [*], _, rfl⟩)
      by_cases k51_6 : x51 = 6
      · refine s_tswIn dX12_of_51 (tgt := 133) (by rw [k51_6]; decide) (by rw [k51_6]; decide) (off := 82) (by rw [k51_6]; decide) (by decide) ?_
        replace ex51 := ex51.symm.trans k51_6
        clear k51_6 k51_5 k51_4 k51_3 k51_2 k51_1 k51_0
        refine s_aload_nr (j := 0) dX12_of_133 rfl ?_
        refine s_iload_n (j := 1) dX12_of_134 rfl ?_
        refine s_V1i cv_X12_290 rfl dX12_of_135 (mh_get (k := 0) hP rfl) rfl (Nat.le_of_ble_eq_true rfl) (n_secondOf _ P D M _ hP _ hp) (fun y135 h135 q135 => ?_)
        obtain ⟨rfl, rfl⟩ := q135
        exact e_iret dX12_of_138 rfl (by unfold sp_of; (first | rw [if_pos c5] | rw [if_neg c5] | skip); (first | rw [if_pos c19] | rw [if_neg c19] | skip); first | exact ⟨rfl, _, rfl⟩ | exact ⟨by simp [*], _, rfl⟩)
      refine s_tswOut dX12_of_51 (tgt := 139) (by have a0 := lv_neT (a := 0) k51_0 rfl; have a1 := lv_neT (a := 1) k51_1 rfl; have a2 := lv_neT (a := 2) k51_2 rfl; have a3 := lv_neT (a := 3) k51_3 rfl; have a4 := lv_neT (a := 4) k51_4 rfl; have a5 := lv_neT (a := 5) k51_5 rfl; have a6 := lv_neT (a := 6) k51_6 rfl; omega) (by decide) ?_
      replace k51_0 : ¬ _ = _ := fun z => k51_0 (ex51.trans z)
      replace k51_1 : ¬ _ = _ := fun z => k51_1 (ex51.trans z)
      replace k51_2 : ¬ _ = _ := fun z => k51_2 (ex51.trans z)
      replace k51_3 : ¬ _ = _ := fun z => k51_3 (ex51.trans z)
      replace k51_4 : ¬ _ = _ := fun z => k51_4 (ex51.trans z)
      replace k51_5 : ¬ _ = _ := fun z => k51_5 (ex51.trans z)
      replace k51_6 : ¬ _ = _ := fun z => k51_6 (ex51.trans z)
      clear ex51
      refine s_iconst (v := -1) dX12_of_139 (by decide) ?_
      exact e_iret dX12_of_140 rfl (by unfold sp_of; (first | rw [if_pos c5] | rw [if_neg c5] | skip); (first | rw [if_pos c19] | rw [if_neg c19] | skip); first | exact ⟨rfl, _, rfl⟩ | exact ⟨by simp [*], _, rfl⟩)
    · replace c19 := b2i_n0.mp c19
      refine s_iload_n (j := 2) dX12_of_22 rfl ?_
      refine s_bipush (v := 20) dX12_of_23 (by decide) ?_
      refine s_icmp_ge dX12_of_25 (tgt := 40) (by decide) (fun c25 => ?_) (fun c25 => ?_)
      · refine s_aload_nr (j := 0) dX12_of_40 rfl ?_
        refine s_iload_n (j := 1) dX12_of_41 rfl ?_
        refine s_iload_n (j := 2) dX12_of_42 rfl ?_
        refine s_bipush (v := 20) dX12_of_43 (by decide) ?_
        refine s_isub dX12_of_45 ?_
        refine s_V2i cv_X12_284 rfl dX12_of_46 (mh_get (k := 0) hP rfl) rfl (Nat.le_of_ble_eq_true rfl) (m_winsOf _ P D M _ hP p (w - 20) hp cl hcl) (fun y46 h46 q46 => ?_)
        obtain ⟨rfl, g46, rfl⟩ := q46
        try rw [mra_2]
        exact e_iret dX12_of_49 rfl (by unfold sp_of; (first | rw [if_pos c5] | rw [if_neg c5] | skip); (first | rw [if_pos c19] | rw [if_neg c19] | skip); (first | rw [if_pos c25] | rw [if_neg c25] | skip); first | exact ⟨rfl, _, rfl⟩ | exact ⟨by simp [*], _, rfl⟩)
      · refine s_aload_nr (j := 0) dX12_of_28 rfl ?_
        refine s_iload_n (j := 1) dX12_of_29 rfl ?_
        refine s_iload_n (j := 2) dX12_of_30 rfl ?_
        refine s_bipush (v := 10) dX12_of_31 (by decide) ?_
        refine s_isub dX12_of_33 ?_
        refine s_V2i cv_X12_280 rfl dX12_of_34 (mh_get (k := 0) hP rfl) rfl (Nat.le_of_ble_eq_true rfl) (m_inOf _ P D M _ hP p (w - 10) hp cl hcl) (fun y34 h34 q34 => ?_)
        obtain ⟨rfl, g34, rfl⟩ := q34
        try rw [mra_2]
        refine s_goto dX12_of_37 (tgt := 49) (by decide) ?_
        exact e_iret dX12_of_49 rfl (by unfold sp_of; (first | rw [if_pos c5] | rw [if_neg c5] | skip); (first | rw [if_pos c19] | rw [if_neg c19] | skip); (first | rw [if_pos c25] | rw [if_neg c25] | skip); first | exact ⟨rfl, _, rfl⟩ | exact ⟨by simp [*], _, rfl⟩)
  · replace c5 := b2i_0.mp c5
    refine s_iconst (v := -1) dX12_of_8 (by decide) ?_
    exact e_iret dX12_of_9 rfl (by unfold sp_of; (first | rw [if_pos c5] | rw [if_neg c5] | skip); first | exact ⟨rfl, _, rfl⟩ | exact ⟨by simp [*], _, rfl⟩)

set_option maxRecDepth 100000 in
set_option maxHeartbeats 4000000 in
theorem m_goPoint (d : Nat) (P D : HP) (M s : MZ) (hP : P.length = 95) (p u v : Int32) (hp : vp_in p 4) (cl : CLs) (hcl : CN M cl) (hs : ∀ i, i < 4 → 0 ≤ M.2.1 4 i) : Con (d + 4) qX12_goPoint 0 0 [.ref 95, .int p, .int u, .int v] (mh P (scr M s) D) (PI fun y h => y = b2i (goW M cl p u v = true) ∧ ∃ g, h = mh P (scr (goM M p (goW M cl p u v)) (mra s 15 g)) D) := by
  refine Con.of (by decide +kernel) (Nat.le_of_ble_eq_true rfl) ?_
  show Sem (d + 4) qX12_goPoint 0 0 0 [(0, .ref 95), (1, .int p), (2, .int u), (3, .int v)] [] (mh P (scr M s) D) _
  rw [show mh P (scr M s) D = mh P (scr M (mra s 15 (s.2.1 15))) D by rw [mra_id]]
  generalize s.2.1 15 = g0
  refine s_aload_nr (j := 0) dX12_goPoint_0 rfl ?_
  refine s_iload_n (j := 1) dX12_goPoint_1 rfl ?_
  refine s_V1i cv_X12_287 rfl dX12_goPoint_2 (mh_get (k := 0) hP rfl) rfl (Nat.le_of_ble_eq_true rfl) (n_firstOf _ P D M _ hP _ hp hs) (fun y2 h2 q2 => ?_)
  obtain ⟨rfl, rfl⟩ := q2
  refine s_istore dX12_goPoint_5 (by decide) rfl ?_
  refine s_aload_nr (j := 1) dX12_goPoint_7 rfl ?_
  refine s_iload_n (j := 2) dX12_goPoint_8 rfl ?_
  refine s_V1i cv_X12_290 rfl dX12_goPoint_9 (mh_get (k := 0) hP rfl) rfl (Nat.le_of_ble_eq_true rfl) (n_secondOf _ P D M _ hP _ hp) (fun y9 h9 q9 => ?_)
  obtain ⟨rfl, rfl⟩ := q9
  refine s_istore dX12_goPoint_12 (by decide) rfl ?_
  refine s_iload_n (j := 4) dX12_goPoint_14 rfl ?_
  refine s_aload_nr (j := 2) dX12_goPoint_15 rfl ?_
  refine s_iload_n (j := 3) dX12_goPoint_16 rfl ?_
  refine s_iload (j := 1) dX12_goPoint_17 rfl ?_
  refine s_V2i cv_X12_280 rfl dX12_goPoint_19 (mh_get (k := 0) hP rfl) rfl (Nat.le_of_ble_eq_true rfl) (m_inOf _ P D M _ hP p _ hp cl hcl) (fun y19 h19 q19 => ?_)
  obtain ⟨rfl, g19, rfl⟩ := q19
  try rw [mra_2]
  refine s_icmp_ge dX12_goPoint_22 (tgt := 44) (by decide) (fun c22 => ?_) (fun c22 => ?_)
  · refine s_iload_n (j := 5) dX12_goPoint_44 rfl ?_
    refine s_aload_nr (j := 2) dX12_goPoint_45 rfl ?_
    refine s_iload_n (j := 3) dX12_goPoint_46 rfl ?_
    refine s_iload (j := 0) dX12_goPoint_47 rfl ?_
    refine s_V2i cv_X12_280 rfl dX12_goPoint_49 (mh_get (k := 0) hP rfl) rfl (Nat.le_of_ble_eq_true rfl) (m_inOf _ P D M _ hP p _ hp cl hcl) (fun y49 h49 q49 => ?_)
    obtain ⟨rfl, g49, rfl⟩ := q49
    try rw [mra_2]
    refine s_icmp_ge dX12_goPoint_52 (tgt := 75) (by decide) (fun c52 => ?_) (fun c52 => ?_)
    · refine s_iconst (v := 0) dX12_goPoint_75 (by decide) ?_
      refine s_istore dX12_goPoint_76 (by decide) rfl ?_
      refine s_iload (j := 0) dX12_goPoint_78 rfl ?_
      refine s_if_eq dX12_goPoint_80 (tgt := 96) (by decide) (fun c80 => ?_) (fun c80 => ?_)
      · refine s_aload_nr (j := 3) dX12_goPoint_96 rfl ?_
        refine s_dup dX12_goPoint_97 rfl ?_
        refine gS_lost dX12_goPoint_98 rfl hP ?_
        refine s_iconst (v := 1) dX12_goPoint_101 (by decide) ?_
        refine s_iadd dX12_goPoint_102 ?_
        refine pS_lost dX12_goPoint_103 rfl hP ?_
        refine s_aload_nr (j := 3) dX12_goPoint_106 rfl ?_
        refine gS_served dX12_goPoint_107 rfl hP ?_
        refine s_iload_n (j := 4) dX12_goPoint_110 rfl ?_
        refine s_dup2 dX12_goPoint_111 rfl rfl ?_
        refine lS_served dX12_goPoint_112 hP (by exact hp) ?_
        refine s_aload_nr (j := 3) dX12_goPoint_113 rfl ?_
        refine gS_served dX12_goPoint_114 rfl hP ?_
        refine s_iload_n (j := 4) dX12_goPoint_117 rfl ?_
        refine lS_served dX12_goPoint_118 hP (by exact hp) ?_
        refine s_sipush (v := 9999) dX12_goPoint_119 (by decide) ?_
        refine s_icmp_ge dX12_goPoint_122 (tgt := 129) (by decide) (fun c122 => ?_) (fun c122 => ?_)
        · refine s_iconst (v := 0) dX12_goPoint_129 (by decide) ?_
          refine s_iadd dX12_goPoint_130 ?_
          refine sS_served dX12_goPoint_131 hP (by exact hp) ?_
          refine s_iload (j := 0) dX12_goPoint_132 rfl ?_
          exact e_zret dX12_goPoint_134 rfl (by decide) (by have e9 : goW M cl p u v = false := (by rw [goW, if_pos c22, decide_eq_true c52]; rfl); have e8 : (if 9999 ≤ M.2.1 4 (pz p) then (0 : Int32) else 1) = _ := if_pos c122; rw [e9]; exact ⟨rfl, _, by rw [goM, e8]; rfl⟩)
        · refine s_iconst (v := 1) dX12_goPoint_125 (by decide) ?_
          refine s_goto dX12_goPoint_126 (tgt := 130) (by decide) ?_
          refine s_iadd dX12_goPoint_130 ?_
          refine sS_served dX12_goPoint_131 hP (by exact hp) ?_
          refine s_iload (j := 0) dX12_goPoint_132 rfl ?_
          exact e_zret dX12_goPoint_134 rfl (by decide) (by have e9 : goW M cl p u v = false := (by rw [goW, if_pos c22, decide_eq_true c52]; rfl); have e8 : (if 9999 ≤ M.2.1 4 (pz p) then (0 : Int32) else 1) = _ := if_neg c122; rw [e9]; exact ⟨rfl, _, by rw [goM, e8]; rfl⟩)
      · refine s_aload_nr (j := 3) dX12_goPoint_83 rfl ?_
        refine s_dup dX12_goPoint_84 rfl ?_
        refine gS_won dX12_goPoint_85 rfl hP ?_
        refine s_iconst (v := 1) dX12_goPoint_88 (by decide) ?_
        refine s_iadd dX12_goPoint_89 ?_
        refine pS_won dX12_goPoint_90 rfl hP ?_
        refine s_goto dX12_goPoint_93 (tgt := 106) (by decide) ?_
        refine s_aload_nr (j := 3) dX12_goPoint_106 rfl ?_
        refine gS_served dX12_goPoint_107 rfl hP ?_
        refine s_iload_n (j := 4) dX12_goPoint_110 rfl ?_
        refine s_dup2 dX12_goPoint_111 rfl rfl ?_
        refine lS_served dX12_goPoint_112 hP (by exact hp) ?_
        refine s_aload_nr (j := 3) dX12_goPoint_113 rfl ?_
        refine gS_served dX12_goPoint_114 rfl hP ?_
        refine s_iload_n (j := 4) dX12_goPoint_117 rfl ?_
        refine lS_served dX12_goPoint_118 hP (by exact hp) ?_
        refine s_sipush (v := 9999) dX12_goPoint_119 (by decide) ?_
        refine s_icmp_ge dX12_goPoint_122 (tgt := 129) (by decide) (fun c122 => ?_) (fun c122 => ?_)
        · refine s_iconst (v := 0) dX12_goPoint_129 (by decide) ?_
          refine s_iadd dX12_goPoint_130 ?_
          refine sS_served dX12_goPoint_131 hP (by exact hp) ?_
          refine s_iload (j := 0) dX12_goPoint_132 rfl ?_
          exact e_zret dX12_goPoint_134 rfl (by decide) (by exact absurd rfl c80)
        · refine s_iconst (v := 1) dX12_goPoint_125 (by decide) ?_
          refine s_goto dX12_goPoint_126 (tgt := 130) (by decide) ?_
          refine s_iadd dX12_goPoint_130 ?_
          refine sS_served dX12_goPoint_131 hP (by exact hp) ?_
          refine s_iload (j := 0) dX12_goPoint_132 rfl ?_
          exact e_zret dX12_goPoint_134 rfl (by decide) (by exact absurd rfl c80)
    · refine s_iload_n (j := 4) dX12_goPoint_55 rfl ?_
      refine s_iload_n (j := 5) dX12_goPoint_56 rfl ?_
      refine s_iadd dX12_goPoint_57 ?_
      refine s_bipush (v := 100) dX12_goPoint_58 (by decide) ?_
      refine s_irem dX12_goPoint_60 (by decide) ?_
      refine s_aload_nr (j := 2) dX12_goPoint_61 rfl ?_
      refine s_iload_n (j := 3) dX12_goPoint_62 rfl ?_
      refine s_iload (j := 0) dX12_goPoint_63 rfl ?_
      refine s_V2i cv_X12_284 rfl dX12_goPoint_65 (mh_get (k := 0) hP rfl) rfl (Nat.le_of_ble_eq_true rfl) (m_winsOf _ P D M _ hP p _ hp cl hcl) (fun y65 h65 q65 => ?_)
      obtain ⟨rfl, g65, rfl⟩ := q65
      try rw [mra_2]
      refine s_icmp_ge dX12_goPoint_68 (tgt := 75) (by decide) (fun c68 => ?_) (fun c68 => ?_)
      · refine s_iconst (v := 0) dX12_goPoint_75 (by decide) ?_
        refine s_istore dX12_goPoint_76 (by decide) rfl ?_
        refine s_iload (j := 0) dX12_goPoint_78 rfl ?_
        refine s_if_eq dX12_goPoint_80 (tgt := 96) (by decide) (fun c80 => ?_) (fun c80 => ?_)
        · refine s_aload_nr (j := 3) dX12_goPoint_96 rfl ?_
          refine s_dup dX12_goPoint_97 rfl ?_
          refine gS_lost dX12_goPoint_98 rfl hP ?_
          refine s_iconst (v := 1) dX12_goPoint_101 (by decide) ?_
          refine s_iadd dX12_goPoint_102 ?_
          refine pS_lost dX12_goPoint_103 rfl hP ?_
          refine s_aload_nr (j := 3) dX12_goPoint_106 rfl ?_
          refine gS_served dX12_goPoint_107 rfl hP ?_
          refine s_iload_n (j := 4) dX12_goPoint_110 rfl ?_
          refine s_dup2 dX12_goPoint_111 rfl rfl ?_
          refine lS_served dX12_goPoint_112 hP (by exact hp) ?_
          refine s_aload_nr (j := 3) dX12_goPoint_113 rfl ?_
          refine gS_served dX12_goPoint_114 rfl hP ?_
          refine s_iload_n (j := 4) dX12_goPoint_117 rfl ?_
          refine lS_served dX12_goPoint_118 hP (by exact hp) ?_
          refine s_sipush (v := 9999) dX12_goPoint_119 (by decide) ?_
          refine s_icmp_ge dX12_goPoint_122 (tgt := 129) (by decide) (fun c122 => ?_) (fun c122 => ?_)
          · refine s_iconst (v := 0) dX12_goPoint_129 (by decide) ?_
            refine s_iadd dX12_goPoint_130 ?_
            refine sS_served dX12_goPoint_131 hP (by exact hp) ?_
            refine s_iload (j := 0) dX12_goPoint_132 rfl ?_
            exact e_zret dX12_goPoint_134 rfl (by decide) (by have e9 : goW M cl p u v = false := (by rw [goW, if_pos c22, decide_eq_false c52, decide_eq_true c68]; rfl); have e8 : (if 9999 ≤ M.2.1 4 (pz p) then (0 : Int32) else 1) = _ := if_pos c122; rw [e9]; exact ⟨rfl, _, by rw [goM, e8]; rfl⟩)
          · refine s_iconst (v := 1) dX12_goPoint_125 (by decide) ?_
            refine s_goto dX12_goPoint_126 (tgt := 130) (by decide) ?_
            refine s_iadd dX12_goPoint_130 ?_
            refine sS_served dX12_goPoint_131 hP (by exact hp) ?_
            refine s_iload (j := 0) dX12_goPoint_132 rfl ?_
            exact e_zret dX12_goPoint_134 rfl (by decide) (by have e9 : goW M cl p u v = false := (by rw [goW, if_pos c22, decide_eq_false c52, decide_eq_true c68]; rfl); have e8 : (if 9999 ≤ M.2.1 4 (pz p) then (0 : Int32) else 1) = _ := if_neg c122; rw [e9]; exact ⟨rfl, _, by rw [goM, e8]; rfl⟩)
        · refine s_aload_nr (j := 3) dX12_goPoint_83 rfl ?_
          refine s_dup dX12_goPoint_84 rfl ?_
          refine gS_won dX12_goPoint_85 rfl hP ?_
          refine s_iconst (v := 1) dX12_goPoint_88 (by decide) ?_
          refine s_iadd dX12_goPoint_89 ?_
          refine pS_won dX12_goPoint_90 rfl hP ?_
          refine s_goto dX12_goPoint_93 (tgt := 106) (by decide) ?_
          refine s_aload_nr (j := 3) dX12_goPoint_106 rfl ?_
          refine gS_served dX12_goPoint_107 rfl hP ?_
          refine s_iload_n (j := 4) dX12_goPoint_110 rfl ?_
          refine s_dup2 dX12_goPoint_111 rfl rfl ?_
          refine lS_served dX12_goPoint_112 hP (by exact hp) ?_
          refine s_aload_nr (j := 3) dX12_goPoint_113 rfl ?_
          refine gS_served dX12_goPoint_114 rfl hP ?_
          refine s_iload_n (j := 4) dX12_goPoint_117 rfl ?_
          refine lS_served dX12_goPoint_118 hP (by exact hp) ?_
          refine s_sipush (v := 9999) dX12_goPoint_119 (by decide) ?_
          refine s_icmp_ge dX12_goPoint_122 (tgt := 129) (by decide) (fun c122 => ?_) (fun c122 => ?_)
          · refine s_iconst (v := 0) dX12_goPoint_129 (by decide) ?_
            refine s_iadd dX12_goPoint_130 ?_
            refine sS_served dX12_goPoint_131 hP (by exact hp) ?_
            refine s_iload (j := 0) dX12_goPoint_132 rfl ?_
            exact e_zret dX12_goPoint_134 rfl (by decide) (by exact absurd rfl c80)
          · refine s_iconst (v := 1) dX12_goPoint_125 (by decide) ?_
            refine s_goto dX12_goPoint_126 (tgt := 130) (by decide) ?_
            refine s_iadd dX12_goPoint_130 ?_
            refine sS_served dX12_goPoint_131 hP (by exact hp) ?_
            refine s_iload (j := 0) dX12_goPoint_132 rfl ?_
            exact e_zret dX12_goPoint_134 rfl (by decide) (by exact absurd rfl c80)
      · refine s_iconst (v := 1) dX12_goPoint_71 (by decide) ?_
        refine s_goto dX12_goPoint_72 (tgt := 76) (by decide) ?_
        refine s_istore dX12_goPoint_76 (by decide) rfl ?_
        refine s_iload (j := 0) dX12_goPoint_78 rfl ?_
        refine s_if_eq dX12_goPoint_80 (tgt := 96) (by decide) (fun c80 => ?_) (fun c80 => ?_)
        · refine s_aload_nr (j := 3) dX12_goPoint_96 rfl ?_
          refine s_dup dX12_goPoint_97 rfl ?_
          refine gS_lost dX12_goPoint_98 rfl hP ?_
          refine s_iconst (v := 1) dX12_goPoint_101 (by decide) ?_
          refine s_iadd dX12_goPoint_102 ?_
          refine pS_lost dX12_goPoint_103 rfl hP ?_
          refine s_aload_nr (j := 3) dX12_goPoint_106 rfl ?_
          refine gS_served dX12_goPoint_107 rfl hP ?_
          refine s_iload_n (j := 4) dX12_goPoint_110 rfl ?_
          refine s_dup2 dX12_goPoint_111 rfl rfl ?_
          refine lS_served dX12_goPoint_112 hP (by exact hp) ?_
          refine s_aload_nr (j := 3) dX12_goPoint_113 rfl ?_
          refine gS_served dX12_goPoint_114 rfl hP ?_
          refine s_iload_n (j := 4) dX12_goPoint_117 rfl ?_
          refine lS_served dX12_goPoint_118 hP (by exact hp) ?_
          refine s_sipush (v := 9999) dX12_goPoint_119 (by decide) ?_
          refine s_icmp_ge dX12_goPoint_122 (tgt := 129) (by decide) (fun c122 => ?_) (fun c122 => ?_)
          · refine s_iconst (v := 0) dX12_goPoint_129 (by decide) ?_
            refine s_iadd dX12_goPoint_130 ?_
            refine sS_served dX12_goPoint_131 hP (by exact hp) ?_
            refine s_iload (j := 0) dX12_goPoint_132 rfl ?_
            exact e_zret dX12_goPoint_134 rfl (by decide) (by exact absurd c80 (by decide))
          · refine s_iconst (v := 1) dX12_goPoint_125 (by decide) ?_
            refine s_goto dX12_goPoint_126 (tgt := 130) (by decide) ?_
            refine s_iadd dX12_goPoint_130 ?_
            refine sS_served dX12_goPoint_131 hP (by exact hp) ?_
            refine s_iload (j := 0) dX12_goPoint_132 rfl ?_
            exact e_zret dX12_goPoint_134 rfl (by decide) (by exact absurd c80 (by decide))
        · refine s_aload_nr (j := 3) dX12_goPoint_83 rfl ?_
          refine s_dup dX12_goPoint_84 rfl ?_
          refine gS_won dX12_goPoint_85 rfl hP ?_
          refine s_iconst (v := 1) dX12_goPoint_88 (by decide) ?_
          refine s_iadd dX12_goPoint_89 ?_
          refine pS_won dX12_goPoint_90 rfl hP ?_
          refine s_goto dX12_goPoint_93 (tgt := 106) (by decide) ?_
          refine s_aload_nr (j := 3) dX12_goPoint_106 rfl ?_
          refine gS_served dX12_goPoint_107 rfl hP ?_
          refine s_iload_n (j := 4) dX12_goPoint_110 rfl ?_
          refine s_dup2 dX12_goPoint_111 rfl rfl ?_
          refine lS_served dX12_goPoint_112 hP (by exact hp) ?_
          refine s_aload_nr (j := 3) dX12_goPoint_113 rfl ?_
          refine gS_served dX12_goPoint_114 rfl hP ?_
          refine s_iload_n (j := 4) dX12_goPoint_117 rfl ?_
          refine lS_served dX12_goPoint_118 hP (by exact hp) ?_
          refine s_sipush (v := 9999) dX12_goPoint_119 (by decide) ?_
          refine s_icmp_ge dX12_goPoint_122 (tgt := 129) (by decide) (fun c122 => ?_) (fun c122 => ?_)
          · refine s_iconst (v := 0) dX12_goPoint_129 (by decide) ?_
            refine s_iadd dX12_goPoint_130 ?_
            refine sS_served dX12_goPoint_131 hP (by exact hp) ?_
            refine s_iload (j := 0) dX12_goPoint_132 rfl ?_
            exact e_zret dX12_goPoint_134 rfl (by decide) (by have e9 : goW M cl p u v = true := (by rw [goW, if_pos c22, decide_eq_false c52, decide_eq_false c68]; rfl); have e8 : (if 9999 ≤ M.2.1 4 (pz p) then (0 : Int32) else 1) = _ := if_pos c122; rw [e9]; exact ⟨rfl, _, by rw [goM, e8]; rfl⟩)
          · refine s_iconst (v := 1) dX12_goPoint_125 (by decide) ?_
            refine s_goto dX12_goPoint_126 (tgt := 130) (by decide) ?_
            refine s_iadd dX12_goPoint_130 ?_
            refine sS_served dX12_goPoint_131 hP (by exact hp) ?_
            refine s_iload (j := 0) dX12_goPoint_132 rfl ?_
            exact e_zret dX12_goPoint_134 rfl (by decide) (by have e9 : goW M cl p u v = true := (by rw [goW, if_pos c22, decide_eq_false c52, decide_eq_false c68]; rfl); have e8 : (if 9999 ≤ M.2.1 4 (pz p) then (0 : Int32) else 1) = _ := if_neg c122; rw [e9]; exact ⟨rfl, _, by rw [goM, e8]; rfl⟩)
  · refine s_iload_n (j := 5) dX12_goPoint_25 rfl ?_
    refine s_aload_nr (j := 2) dX12_goPoint_26 rfl ?_
    refine s_iload_n (j := 3) dX12_goPoint_27 rfl ?_
    refine s_iload (j := 1) dX12_goPoint_28 rfl ?_
    refine s_V2i cv_X12_284 rfl dX12_goPoint_30 (mh_get (k := 0) hP rfl) rfl (Nat.le_of_ble_eq_true rfl) (m_winsOf _ P D M _ hP p _ hp cl hcl) (fun y30 h30 q30 => ?_)
    obtain ⟨rfl, g30, rfl⟩ := q30
    try rw [mra_2]
    refine s_icmp_ge dX12_goPoint_33 (tgt := 40) (by decide) (fun c33 => ?_) (fun c33 => ?_)
    · refine s_iconst (v := 0) dX12_goPoint_40 (by decide) ?_
      refine s_goto dX12_goPoint_41 (tgt := 76) (by decide) ?_
      refine s_istore dX12_goPoint_76 (by decide) rfl ?_
      refine s_iload (j := 0) dX12_goPoint_78 rfl ?_
      refine s_if_eq dX12_goPoint_80 (tgt := 96) (by decide) (fun c80 => ?_) (fun c80 => ?_)
      · refine s_aload_nr (j := 3) dX12_goPoint_96 rfl ?_
        refine s_dup dX12_goPoint_97 rfl ?_
        refine gS_lost dX12_goPoint_98 rfl hP ?_
        refine s_iconst (v := 1) dX12_goPoint_101 (by decide) ?_
        refine s_iadd dX12_goPoint_102 ?_
        refine pS_lost dX12_goPoint_103 rfl hP ?_
        refine s_aload_nr (j := 3) dX12_goPoint_106 rfl ?_
        refine gS_served dX12_goPoint_107 rfl hP ?_
        refine s_iload_n (j := 4) dX12_goPoint_110 rfl ?_
        refine s_dup2 dX12_goPoint_111 rfl rfl ?_
        refine lS_served dX12_goPoint_112 hP (by exact hp) ?_
        refine s_aload_nr (j := 3) dX12_goPoint_113 rfl ?_
        refine gS_served dX12_goPoint_114 rfl hP ?_
        refine s_iload_n (j := 4) dX12_goPoint_117 rfl ?_
        refine lS_served dX12_goPoint_118 hP (by exact hp) ?_
        refine s_sipush (v := 9999) dX12_goPoint_119 (by decide) ?_
        refine s_icmp_ge dX12_goPoint_122 (tgt := 129) (by decide) (fun c122 => ?_) (fun c122 => ?_)
        · refine s_iconst (v := 0) dX12_goPoint_129 (by decide) ?_
          refine s_iadd dX12_goPoint_130 ?_
          refine sS_served dX12_goPoint_131 hP (by exact hp) ?_
          refine s_iload (j := 0) dX12_goPoint_132 rfl ?_
          exact e_zret dX12_goPoint_134 rfl (by decide) (by have e9 : goW M cl p u v = false := (by rw [goW, if_neg c22, decide_eq_true c33]; rfl); have e8 : (if 9999 ≤ M.2.1 4 (pz p) then (0 : Int32) else 1) = _ := if_pos c122; rw [e9]; exact ⟨rfl, _, by rw [goM, e8]; rfl⟩)
        · refine s_iconst (v := 1) dX12_goPoint_125 (by decide) ?_
          refine s_goto dX12_goPoint_126 (tgt := 130) (by decide) ?_
          refine s_iadd dX12_goPoint_130 ?_
          refine sS_served dX12_goPoint_131 hP (by exact hp) ?_
          refine s_iload (j := 0) dX12_goPoint_132 rfl ?_
          exact e_zret dX12_goPoint_134 rfl (by decide) (by have e9 : goW M cl p u v = false := (by rw [goW, if_neg c22, decide_eq_true c33]; rfl); have e8 : (if 9999 ≤ M.2.1 4 (pz p) then (0 : Int32) else 1) = _ := if_neg c122; rw [e9]; exact ⟨rfl, _, by rw [goM, e8]; rfl⟩)
      · refine s_aload_nr (j := 3) dX12_goPoint_83 rfl ?_
        refine s_dup dX12_goPoint_84 rfl ?_
        refine gS_won dX12_goPoint_85 rfl hP ?_
        refine s_iconst (v := 1) dX12_goPoint_88 (by decide) ?_
        refine s_iadd dX12_goPoint_89 ?_
        refine pS_won dX12_goPoint_90 rfl hP ?_
        refine s_goto dX12_goPoint_93 (tgt := 106) (by decide) ?_
        refine s_aload_nr (j := 3) dX12_goPoint_106 rfl ?_
        refine gS_served dX12_goPoint_107 rfl hP ?_
        refine s_iload_n (j := 4) dX12_goPoint_110 rfl ?_
        refine s_dup2 dX12_goPoint_111 rfl rfl ?_
        refine lS_served dX12_goPoint_112 hP (by exact hp) ?_
        refine s_aload_nr (j := 3) dX12_goPoint_113 rfl ?_
        refine gS_served dX12_goPoint_114 rfl hP ?_
        refine s_iload_n (j := 4) dX12_goPoint_117 rfl ?_
        refine lS_served dX12_goPoint_118 hP (by exact hp) ?_
        refine s_sipush (v := 9999) dX12_goPoint_119 (by decide) ?_
        refine s_icmp_ge dX12_goPoint_122 (tgt := 129) (by decide) (fun c122 => ?_) (fun c122 => ?_)
        · refine s_iconst (v := 0) dX12_goPoint_129 (by decide) ?_
          refine s_iadd dX12_goPoint_130 ?_
          refine sS_served dX12_goPoint_131 hP (by exact hp) ?_
          refine s_iload (j := 0) dX12_goPoint_132 rfl ?_
          exact e_zret dX12_goPoint_134 rfl (by decide) (by exact absurd rfl c80)
        · refine s_iconst (v := 1) dX12_goPoint_125 (by decide) ?_
          refine s_goto dX12_goPoint_126 (tgt := 130) (by decide) ?_
          refine s_iadd dX12_goPoint_130 ?_
          refine sS_served dX12_goPoint_131 hP (by exact hp) ?_
          refine s_iload (j := 0) dX12_goPoint_132 rfl ?_
          exact e_zret dX12_goPoint_134 rfl (by decide) (by exact absurd rfl c80)
    · refine s_iconst (v := 1) dX12_goPoint_36 (by decide) ?_
      refine s_goto dX12_goPoint_37 (tgt := 76) (by decide) ?_
      refine s_istore dX12_goPoint_76 (by decide) rfl ?_
      refine s_iload (j := 0) dX12_goPoint_78 rfl ?_
      refine s_if_eq dX12_goPoint_80 (tgt := 96) (by decide) (fun c80 => ?_) (fun c80 => ?_)
      · refine s_aload_nr (j := 3) dX12_goPoint_96 rfl ?_
        refine s_dup dX12_goPoint_97 rfl ?_
        refine gS_lost dX12_goPoint_98 rfl hP ?_
        refine s_iconst (v := 1) dX12_goPoint_101 (by decide) ?_
        refine s_iadd dX12_goPoint_102 ?_
        refine pS_lost dX12_goPoint_103 rfl hP ?_
        refine s_aload_nr (j := 3) dX12_goPoint_106 rfl ?_
        refine gS_served dX12_goPoint_107 rfl hP ?_
        refine s_iload_n (j := 4) dX12_goPoint_110 rfl ?_
        refine s_dup2 dX12_goPoint_111 rfl rfl ?_
        refine lS_served dX12_goPoint_112 hP (by exact hp) ?_
        refine s_aload_nr (j := 3) dX12_goPoint_113 rfl ?_
        refine gS_served dX12_goPoint_114 rfl hP ?_
        refine s_iload_n (j := 4) dX12_goPoint_117 rfl ?_
        refine lS_served dX12_goPoint_118 hP (by exact hp) ?_
        refine s_sipush (v := 9999) dX12_goPoint_119 (by decide) ?_
        refine s_icmp_ge dX12_goPoint_122 (tgt := 129) (by decide) (fun c122 => ?_) (fun c122 => ?_)
        · refine s_iconst (v := 0) dX12_goPoint_129 (by decide) ?_
          refine s_iadd dX12_goPoint_130 ?_
          refine sS_served dX12_goPoint_131 hP (by exact hp) ?_
          refine s_iload (j := 0) dX12_goPoint_132 rfl ?_
          exact e_zret dX12_goPoint_134 rfl (by decide) (by exact absurd c80 (by decide))
        · refine s_iconst (v := 1) dX12_goPoint_125 (by decide) ?_
          refine s_goto dX12_goPoint_126 (tgt := 130) (by decide) ?_
          refine s_iadd dX12_goPoint_130 ?_
          refine sS_served dX12_goPoint_131 hP (by exact hp) ?_
          refine s_iload (j := 0) dX12_goPoint_132 rfl ?_
          exact e_zret dX12_goPoint_134 rfl (by decide) (by exact absurd c80 (by decide))
      · refine s_aload_nr (j := 3) dX12_goPoint_83 rfl ?_
        refine s_dup dX12_goPoint_84 rfl ?_
        refine gS_won dX12_goPoint_85 rfl hP ?_
        refine s_iconst (v := 1) dX12_goPoint_88 (by decide) ?_
        refine s_iadd dX12_goPoint_89 ?_
        refine pS_won dX12_goPoint_90 rfl hP ?_
        refine s_goto dX12_goPoint_93 (tgt := 106) (by decide) ?_
        refine s_aload_nr (j := 3) dX12_goPoint_106 rfl ?_
        refine gS_served dX12_goPoint_107 rfl hP ?_
        refine s_iload_n (j := 4) dX12_goPoint_110 rfl ?_
        refine s_dup2 dX12_goPoint_111 rfl rfl ?_
        refine lS_served dX12_goPoint_112 hP (by exact hp) ?_
        refine s_aload_nr (j := 3) dX12_goPoint_113 rfl ?_
        refine gS_served dX12_goPoint_114 rfl hP ?_
        refine s_iload_n (j := 4) dX12_goPoint_117 rfl ?_
        refine lS_served dX12_goPoint_118 hP (by exact hp) ?_
        refine s_sipush (v := 9999) dX12_goPoint_119 (by decide) ?_
        refine s_icmp_ge dX12_goPoint_122 (tgt := 129) (by decide) (fun c122 => ?_) (fun c122 => ?_)
        · refine s_iconst (v := 0) dX12_goPoint_129 (by decide) ?_
          refine s_iadd dX12_goPoint_130 ?_
          refine sS_served dX12_goPoint_131 hP (by exact hp) ?_
          refine s_iload (j := 0) dX12_goPoint_132 rfl ?_
          exact e_zret dX12_goPoint_134 rfl (by decide) (by have e9 : goW M cl p u v = true := (by rw [goW, if_neg c22, decide_eq_false c33]; rfl); have e8 : (if 9999 ≤ M.2.1 4 (pz p) then (0 : Int32) else 1) = _ := if_pos c122; rw [e9]; exact ⟨rfl, _, by rw [goM, e8]; rfl⟩)
        · refine s_iconst (v := 1) dX12_goPoint_125 (by decide) ?_
          refine s_goto dX12_goPoint_126 (tgt := 130) (by decide) ?_
          refine s_iadd dX12_goPoint_130 ?_
          refine sS_served dX12_goPoint_131 hP (by exact hp) ?_
          refine s_iload (j := 0) dX12_goPoint_132 rfl ?_
          exact e_zret dX12_goPoint_134 rfl (by decide) (by have e9 : goW M cl p u v = true := (by rw [goW, if_neg c22, decide_eq_false c33]; rfl); have e8 : (if 9999 ≤ M.2.1 4 (pz p) then (0 : Int32) else 1) = _ := if_neg c122; rw [e9]; exact ⟨rfl, _, by rw [goM, e8]; rfl⟩)

set_option maxRecDepth 100000 in
set_option maxHeartbeats 4000000 in
theorem m_play (d : Nat) (P D : HP) (M s : MZ) (hP : P.length = 95) (p u v : Int32) (hz : 0 ≤ M.1 0 ∧ M.1 0 ≤ 4) (hs : ∀ i, i < 4 → 0 ≤ M.2.1 4 i) (cl : CLs) (hcl : CN M cl) : Con (d + 5) qX12_play 0 0 [.ref 95, .int p, .int u, .int v] (mh P (scr M s) D) (PI fun y h => y = (sp_play M cl p u v).1 ∧ ∃ g, h = mh P (scr (sp_play M cl p u v).2 (mra s 15 g)) D) := by
  refine Con.of (by decide +kernel) (Nat.le_of_ble_eq_true rfl) ?_
  show Sem (d + 5) qX12_play 0 0 0 [(0, .ref 95), (1, .int p), (2, .int u), (3, .int v)] [] (mh P (scr M s) D) _
  rw [show mh P (scr M s) D = mh P (scr M (mra s 15 (s.2.1 15))) D by rw [mra_id]]
  generalize s.2.1 15 = g0
  refine s_aload_nr (j := 0) dX12_play_0 rfl ?_
  refine s_iload_n (j := 1) dX12_play_1 rfl ?_
  refine s_V1i cv_X12_211 rfl dX12_play_2 (mh_get (k := 0) hP rfl) rfl (Nat.le_of_ble_eq_true rfl) (n_isServer _ P D M _ hP _) (fun y2 h2 q2 => ?_)
  obtain ⟨rfl, rfl⟩ := q2
  refine s_if_ne dX12_play_5 (tgt := 10) (by decide) (fun c5 => ?_) (fun c5 => ?_)
  · replace c5 := b2i_n0.mp c5
    have hp := in4_of hz c5
    refine s_aload_nr (j := 0) dX12_play_10 rfl ?_
    refine s_iload_n (j := 2) dX12_play_11 rfl ?_
    refine s_iload_n (j := 3) dX12_play_12 rfl ?_
    refine s_V2i cv_X12_299 rfl dX12_play_13 (mh_get (k := 0) hP rfl) rfl (Nat.le_of_ble_eq_true rfl) (m_areDraws _ P D _ hP _ _) (fun y13 h13 q13 => ?_)
    obtain ⟨rfl, rfl⟩ := q13
    refine s_if_ne dX12_play_16 (tgt := 22) (by decide) (fun c16 => ?_) (fun c16 => ?_)
    · replace c16 := b2i_n0.mp c16
      refine s_aload_nr (j := 0) dX12_play_22 rfl ?_
      refine s_V0i cv_X12_302 rfl dX12_play_23 (mh_get (k := 0) hP rfl) rfl (Nat.le_of_ble_eq_true rfl) (n_isOver _ P D M _ hP) (fun y23 h23 q23 => ?_)
      obtain ⟨rfl, rfl⟩ := q23
      refine s_if_eq dX12_play_26 (tgt := 32) (by decide) (fun c26 => ?_) (fun c26 => ?_)
      · replace c26 := b2i_0.mp c26
        refine s_aload_nr (j := 0) dX12_play_32 rfl ?_
        refine s_iload_n (j := 1) dX12_play_33 rfl ?_
        refine s_iload_n (j := 2) dX12_play_34 rfl ?_
        refine s_iload_n (j := 3) dX12_play_35 rfl ?_
        refine s_V3i cv_X12_305 rfl dX12_play_36 (mh_get (k := 0) hP rfl) rfl (Nat.le_of_ble_eq_true rfl) (m_goPoint _ P D M _ hP p u v hp cl hcl hs) (fun y36 h36 q36 => ?_)
        obtain ⟨rfl, g36, rfl⟩ := q36
        try rw [mra_2]
        refine s_if_eq dX12_play_39 (tgt := 46) (by decide) (fun c39 => ?_) (fun c39 => ?_)
        · replace c39 := b2i_0.mp c39
          refine s_iconst (v := 0) dX12_play_46 (by decide) ?_
          exact e_iret dX12_play_47 rfl (by unfold sp_play; rw [if_pos c5, if_pos c16, if_neg c26]; exact ⟨(b2i_f c39).symm, _, rfl⟩)
        · replace c39 := b2i_n0.mp c39
          refine s_iconst (v := 1) dX12_play_42 (by decide) ?_
          refine s_goto dX12_play_43 (tgt := 47) (by decide) ?_
          exact e_iret dX12_play_47 rfl (by unfold sp_play; rw [if_pos c5, if_pos c16, if_neg c26]; exact ⟨(b2i_t c39).symm, _, rfl⟩)
      · replace c26 := b2i_n0.mp c26
        refine s_bipush (v := -3) dX12_play_29 (by decide) ?_
        exact e_iret dX12_play_31 rfl (by unfold sp_play; (first | rw [if_pos c5] | rw [if_neg c5] | skip); (first | rw [if_pos c16] | rw [if_neg c16] | skip); (first | rw [if_pos c26] | rw [if_neg c26] | skip); first | exact ⟨rfl, _, rfl⟩ | contradiction | (exfalso; (try simp only [Int32.not_lt, Int32.not_le, Int32.le_iff_toInt_le, Int32.lt_iff_toInt_lt, ← Int32.toInt_inj] at *); (try simp at *); omega) | (simp_all; done))
    · replace c16 := b2i_0.mp c16
      refine s_bipush (v := -2) dX12_play_19 (by decide) ?_
      exact e_iret dX12_play_21 rfl (by unfold sp_play; (first | rw [if_pos c5] | rw [if_neg c5] | skip); (first | rw [if_pos c16] | rw [if_neg c16] | skip); first | exact ⟨rfl, _, rfl⟩ | contradiction | (exfalso; (try simp only [Int32.not_lt, Int32.not_le, Int32.le_iff_toInt_le, Int32.lt_iff_toInt_lt, ← Int32.toInt_inj] at *); (try simp at *); omega) | (simp_all; done))
  · replace c5 := b2i_0.mp c5
    refine s_iconst (v := -1) dX12_play_8 (by decide) ?_
    exact e_iret dX12_play_9 rfl (by unfold sp_play; (first | rw [if_pos c5] | rw [if_neg c5] | skip); first | exact ⟨rfl, _, rfl⟩ | contradiction | (exfalso; (try simp only [Int32.not_lt, Int32.not_le, Int32.le_iff_toInt_le, Int32.lt_iff_toInt_lt, ← Int32.toInt_inj] at *); (try simp at *); omega) | (simp_all; done))

set_option maxRecDepth 100000 in
set_option maxHeartbeats 4000000 in
theorem m_best (d : Nat) (P D : HP) (M s : MZ) (hP : P.length = 95) (p w : Int32) (hz : 0 ≤ M.1 0 ∧ M.1 0 ≤ 4) (hs : ∀ i, i < 4 → 0 ≤ M.2.1 4 i) (cl : CLs) (hcl : CN M cl) : Con (d + 5) qX12_best 0 0 [.ref 95, .int p, .int w] (mh P (scr M s) D) (XS P D (sp_best M cl p w) M s) := by
  refine Con.of (by decide +kernel) (Nat.le_of_ble_eq_true rfl) ?_
  show Sem (d + 5) qX12_best 0 0 0 [(0, .ref 95), (1, .int p), (2, .int w)] [] (mh P (scr M s) D) _
  rw [show mh P (scr M s) D = mh P (scr M (mra s 15 (s.2.1 15))) D by rw [mra_id]]
  generalize s.2.1 15 = g0
  refine s_aload_nr (j := 0) dX12_best_0 rfl ?_
  refine s_iload_n (j := 1) dX12_best_1 rfl ?_
  refine s_V1i cv_X12_211 rfl dX12_best_2 (mh_get (k := 0) hP rfl) rfl (Nat.le_of_ble_eq_true rfl) (n_isServer _ P D M _ hP _) (fun y2 h2 q2 => ?_)
  obtain ⟨rfl, rfl⟩ := q2
  refine s_if_eq dX12_best_5 (tgt := 18) (by decide) (fun c5 => ?_) (fun c5 => ?_)
  · replace c5 := b2i_0.mp c5
    refine s_iconst (v := -1) dX12_best_18 (by decide) ?_
    exact e_iret dX12_best_19 rfl (by unfold sp_best; (first | rw [if_pos c5] | rw [if_neg c5] | skip); first | exact ⟨rfl, _, rfl⟩ | contradiction | (exfalso; (try simp only [Int32.not_lt, Int32.not_le, Int32.le_iff_toInt_le, Int32.lt_iff_toInt_lt, ← Int32.toInt_inj] at *); (try simp at *); omega) | (simp_all; done))
  · replace c5 := b2i_n0.mp c5
    refine s_aload_nr (j := 0) dX12_best_8 rfl ?_
    refine s_iload_n (j := 2) dX12_best_9 rfl ?_
    refine s_iconst (v := 0) dX12_best_10 (by decide) ?_
    refine s_iconst (v := 1) dX12_best_11 (by decide) ?_
    refine s_V3i cv_X12_203 rfl dX12_best_12 (mh_get (k := 0) hP rfl) rfl (Nat.le_of_ble_eq_true rfl) (m_in _ P D _ hP _ _ _) (fun y12 h12 q12 => ?_)
    obtain ⟨rfl, rfl⟩ := q12
    refine s_if_ne dX12_best_15 (tgt := 20) (by decide) (fun c15 => ?_) (fun c15 => ?_)
    · replace c15 := b2i_n0.mp c15
      have hp := in4_of hz c5
      refine s_iconst (v := 0) dX12_best_20 (by decide) ?_
      refine s_istore_n dX12_best_21 (by decide) rfl ?_
      refine s_iconst (v := -1) dX12_best_22 (by decide) ?_
      refine s_istore dX12_best_23 (by decide) rfl ?_
      refine s_iconst (v := 0) dX12_best_25 (by decide) ?_
      refine s_istore dX12_best_26 (by decide) rfl ?_
      have LP : ∀ (n : Nat) (m : Nat) (g : Nat → Int32), 100 - m < n → m ≤ 100 → Sem (d + 5) qX12_best 0 0 28 [(0, .ref 95), (1, .int p), (2, .int w), (3, .int (bst M cl p m).1), (4, .int (bst M cl p m).2), (5, .int (nI m))] [] (mh P (scr M (mra s 15 g)) D) (XS P D (sp_best M cl p w) M s) := by
        intro n
        induction n with
        | zero => intro m g hm; exact absurd hm (Nat.not_lt_zero _)
        | succ n ih =>
          intro m g hm h1
          refine s_iload (j := 5) dX12_best_28 rfl ?_
          refine s_bipush (v := 100) dX12_best_30 (by decide) ?_
          refine s_icmp_ge dX12_best_32 (tgt := 75) (by decide) (fun c32 => ?_) (fun c32 => ?_)
          · have hm0 : m = 100 := Nat.le_antisymm h1 ((nI_leI (a := 100) (by decide) (by omega)).mp c32)
            subst hm0
            refine s_iload_n (j := 2) dX12_best_75 rfl ?_
            refine s_if_ne dX12_best_76 (tgt := 83) (by decide) (fun c76 => ?_) (fun c76 => ?_)
            · refine s_iload (j := 4) dX12_best_83 rfl ?_
              exact e_iret dX12_best_85 rfl (by unfold sp_best; (first | rw [if_pos c5] | rw [if_neg c5] | skip); (first | rw [if_pos c15] | rw [if_neg c15] | skip); (first | rw [if_pos c32] | rw [if_neg c32] | skip); (first | rw [if_pos c76] | rw [if_neg c76] | skip); first | exact ⟨rfl, _, rfl⟩ | contradiction | (exfalso; (try simp only [Int32.not_lt, Int32.not_le, Int32.le_iff_toInt_le, Int32.lt_iff_toInt_lt, ← Int32.toInt_inj] at *); (try simp at *); omega) | (simp_all; done))
            · refine s_iload_n (j := 3) dX12_best_79 rfl ?_
              refine s_goto dX12_best_80 (tgt := 85) (by decide) ?_
              exact e_iret dX12_best_85 rfl (by unfold sp_best; (first | rw [if_pos c5] | rw [if_neg c5] | skip); (first | rw [if_pos c15] | rw [if_neg c15] | skip); (first | rw [if_pos c32] | rw [if_neg c32] | skip); (first | rw [if_pos c76] | rw [if_neg c76] | skip); first | exact ⟨rfl, _, rfl⟩ | contradiction | (exfalso; (try simp only [Int32.not_lt, Int32.not_le, Int32.le_iff_toInt_le, Int32.lt_iff_toInt_lt, ← Int32.toInt_inj] at *); (try simp at *); omega) | (simp_all; done))
          · have hm0 : m < 100 := Nat.lt_of_not_le fun z => c32 ((nI_leI (a := 100) (by decide) (by omega)).mpr z)
            refine s_aload_nr (j := 0) dX12_best_35 rfl ?_
            refine s_iload_n (j := 1) dX12_best_36 rfl ?_
            refine s_iload (j := 5) dX12_best_37 rfl ?_
            refine s_bipush (v := 10) dX12_best_39 (by decide) ?_
            refine s_idiv dX12_best_41 (by decide) ?_
            refine s_iload (j := 5) dX12_best_42 rfl ?_
            refine s_bipush (v := 10) dX12_best_44 (by decide) ?_
            refine s_irem dX12_best_46 (by decide) ?_
            refine s_V3i cv_X12_293 rfl dX12_best_47 (mh_get (k := 0) hP rfl) rfl (Nat.le_of_ble_eq_true rfl) (m_chanceOf _ P D (M) _ hP p (nI m / 10) (nI m % 10) hp cl hcl) (fun y47 h47 q47 => ?_)
            obtain ⟨rfl, g47, rfl⟩ := q47
            try rw [mra_2]
            refine s_istore dX12_best_50 (by decide) rfl ?_
            refine s_iload (j := 0) dX12_best_52 rfl ?_
            refine s_iload (j := 5) dX12_best_54 rfl ?_
            refine s_icmp_gt dX12_best_56 (tgt := 62) (by decide) (fun c56 => ?_) (fun c56 => ?_)
            · refine s_iload (j := 6) dX12_best_62 rfl ?_
              refine s_istore_n dX12_best_64 (by decide) rfl ?_
              refine s_iload (j := 1) dX12_best_65 rfl ?_
              refine s_istore dX12_best_67 (by decide) rfl ?_
              refine s_iinc (j := 6) (v := _ + (1)) dX12_best_69 rfl rfl (by decide) rfl ?_
              refine s_goto dX12_best_72 (tgt := 28) (by decide) ?_
              refine s_locals [4, 5, 6, 2, 1, 0] rfl ?_
              rw [nI_1]
              have e9 : bst M cl p (m + 1) = _ := (show bst M cl p (m + 1) = _ by rw [bst, if_pos c56])
              refine (?_ : ∀ z : Int32 × Int32, bst M cl p (m + 1) = z → Sem _ _ _ _ _ [_, _, _, (3, .int z.1), (4, .int z.2), _] _ _ _) _ e9
              intro z ez
              subst ez
              exact ih (m + 1) _ (by omega) (by omega)
            · refine s_goto dX12_best_59 (tgt := 69) (by decide) ?_
              refine s_iinc (j := 6) (v := _ + (1)) dX12_best_69 rfl rfl (by decide) rfl ?_
              refine s_goto dX12_best_72 (tgt := 28) (by decide) ?_
              refine s_locals [2, 3, 4, 5, 6, 0] rfl ?_
              rw [nI_1]
              have e9 : bst M cl p (m + 1) = _ := (show bst M cl p (m + 1) = _ by rw [bst, if_neg c56])
              refine (?_ : ∀ z : Int32 × Int32, bst M cl p (m + 1) = z → Sem _ _ _ _ _ [_, _, _, (3, .int z.1), (4, .int z.2), _] _ _ _) _ e9
              intro z ez
              subst ez
              exact ih (m + 1) _ (by omega) (by omega)
      refine s_locals [3, 4, 5, 2, 1, 0] rfl ?_
      exact LP 101 0 _ (by decide) (by decide)
    · replace c15 := b2i_0.mp c15
      refine s_iconst (v := -1) dX12_best_18 (by decide) ?_
      exact e_iret dX12_best_19 rfl (by unfold sp_best; (first | rw [if_pos c5] | rw [if_neg c5] | skip); (first | rw [if_pos c15] | rw [if_neg c15] | skip); first | exact ⟨rfl, _, rfl⟩ | contradiction | (exfalso; (try simp only [Int32.not_lt, Int32.not_le, Int32.le_iff_toInt_le, Int32.lt_iff_toInt_lt, ← Int32.toInt_inj] at *); (try simp at *); omega) | (simp_all; done))

set_option maxRecDepth 100000 in
set_option maxHeartbeats 4000000 in
theorem m_risk (d : Nat) (P D : HP) (M s : MZ) (hP : P.length = 95) (p : Int32) (hz : 0 ≤ M.1 0 ∧ M.1 0 ≤ 4) (hs : ∀ i, i < 4 → 0 ≤ M.2.1 4 i) (cl : CLs) (hcl : CN M cl) : Con (d + 5) qX12_risk 0 0 [.ref 95, .int p] (mh P (scr M s) D) (XS P D (sp_risk M cl p) M s) := by
  refine Con.of (by decide +kernel) (Nat.le_of_ble_eq_true rfl) ?_
  show Sem (d + 5) qX12_risk 0 0 0 [(0, .ref 95), (1, .int p)] [] (mh P (scr M s) D) _
  rw [show mh P (scr M s) D = mh P (scr M (mra s 15 (s.2.1 15))) D by rw [mra_id]]
  generalize s.2.1 15 = g0
  refine s_aload_nr (j := 0) dX12_risk_0 rfl ?_
  refine s_iload_n (j := 1) dX12_risk_1 rfl ?_
  refine s_V1i cv_X12_211 rfl dX12_risk_2 (mh_get (k := 0) hP rfl) rfl (Nat.le_of_ble_eq_true rfl) (n_isServer _ P D M _ hP _) (fun y2 h2 q2 => ?_)
  obtain ⟨rfl, rfl⟩ := q2
  refine s_if_ne dX12_risk_5 (tgt := 10) (by decide) (fun c5 => ?_) (fun c5 => ?_)
  · replace c5 := b2i_n0.mp c5
    have hp := in4_of hz c5
    refine s_aload_nr (j := 0) dX12_risk_10 rfl ?_
    refine s_iload_n (j := 1) dX12_risk_11 rfl ?_
    refine s_V1i cv_X12_287 rfl dX12_risk_12 (mh_get (k := 0) hP rfl) rfl (Nat.le_of_ble_eq_true rfl) (n_firstOf _ P D M _ hP _ hp hs) (fun y12 h12 q12 => ?_)
    obtain ⟨rfl, rfl⟩ := q12
    refine s_istore_n dX12_risk_15 (by decide) rfl ?_
    refine s_aload_nr (j := 1) dX12_risk_16 rfl ?_
    refine s_iload_n (j := 2) dX12_risk_17 rfl ?_
    refine s_iload_n (j := 0) dX12_risk_18 rfl ?_
    refine s_aload_nr (j := 1) dX12_risk_19 rfl ?_
    refine s_iload_n (j := 2) dX12_risk_20 rfl ?_
    refine s_V1i cv_X12_290 rfl dX12_risk_21 (mh_get (k := 0) hP rfl) rfl (Nat.le_of_ble_eq_true rfl) (n_secondOf _ P D M _ hP _ hp) (fun y21 h21 q21 => ?_)
    obtain ⟨rfl, rfl⟩ := q21
    refine s_V3i cv_X12_296 rfl dX12_risk_24 (mh_get (k := 0) hP rfl) rfl (Nat.le_of_ble_eq_true rfl) (m_faultsOf _ P D M _ hP p (_) (_) hp cl hcl) (fun y24 h24 q24 => ?_)
    obtain ⟨rfl, g24, rfl⟩ := q24
    try rw [mra_2]
    refine s_istore_n dX12_risk_27 (by decide) rfl ?_
    refine s_iconst (v := 0) dX12_risk_28 (by decide) ?_
    refine s_istore dX12_risk_29 (by decide) rfl ?_
    have LP : ∀ (n : Nat) (m k : Nat) (g : Nat → Int32), m < n → k + m = 10 → srU (fun k => sFa M cl p (mFirst M p) (mSecond M p) < sFa M cl p (mFirst M p) (nI k)) m k = sp_risk M cl p → Sem (d + 5) qX12_risk 0 0 31 [(0, .ref 95), (1, .int p), (2, .int (mFirst M p)), (3, .int (sFa M cl p (mFirst M p) (mSecond M p))), (4, .int (nI k))] [] (mh P (scr M (mra s 15 g)) D) (XS P D (sp_risk M cl p) M s) := by
      intro n
      induction n with
      | zero => intro m k g hm; exact absurd hm (Nat.not_lt_zero _)
      | succ n ih =>
        intro m k g hm h1 h2
        refine s_iload (j := 4) dX12_risk_31 rfl ?_
        refine s_bipush (v := 10) dX12_risk_33 (by decide) ?_
        refine s_icmp_ge dX12_risk_35 (tgt := 59) (by decide) (fun c35 => ?_) (fun c35 => ?_)
        · obtain rfl : m = 0 := by have := (nI_leI (a := 10) (by decide) (by omega)).mp c35; omega
          refine s_bipush (v := -5) dX12_risk_59 (by decide) ?_
          exact e_iret dX12_risk_61 rfl (by exact ⟨h2, _, rfl⟩)
        · obtain ⟨m, rfl⟩ : ∃ j, m = j + 1 := ⟨m - 1, by have h9 : ¬ 10 ≤ k := fun z => c35 ((nI_leI (a := 10) (by decide) (by omega)).mpr z); omega⟩
          refine s_aload_nr (j := 0) dX12_risk_38 rfl ?_
          refine s_iload_n (j := 1) dX12_risk_39 rfl ?_
          refine s_iload_n (j := 2) dX12_risk_40 rfl ?_
          refine s_iload (j := 4) dX12_risk_41 rfl ?_
          refine s_V3i cv_X12_296 rfl dX12_risk_43 (mh_get (k := 0) hP rfl) rfl (Nat.le_of_ble_eq_true rfl) (m_faultsOf _ P D M _ hP p (_) (_) hp cl hcl) (fun y43 h43 q43 => ?_)
          obtain ⟨rfl, g43, rfl⟩ := q43
          try rw [mra_2]
          refine s_iload_n (j := 3) dX12_risk_46 rfl ?_
          refine s_icmp_le dX12_risk_47 (tgt := 53) (by decide) (fun c47 => ?_) (fun c47 => ?_)
          · refine s_iinc (j := 4) (v := _ + (1)) dX12_risk_53 rfl rfl (by decide) rfl ?_
            refine s_goto dX12_risk_56 (tgt := 31) (by decide) ?_
            refine s_locals [1, 2, 3, 4, 0] rfl ?_
            rw [nI_1]
            exact ih m (k + 1) _ (by omega) (by omega) (h2.symm.trans (by rw [srU, if_neg (show ¬ _ < _ from Int32.not_lt.mpr c47)])).symm
          · refine s_iload (j := 4) dX12_risk_50 rfl ?_
            exact e_iret dX12_risk_52 rfl (by exact ⟨by rw [← h2, srU, if_pos (show _ < _ from Int32.not_le.mp c47)], _, rfl⟩)
    refine s_locals [3, 4, 2, 1, 0] rfl ?_
    exact LP 11 10 0 _ (by decide) rfl (by rw [sp_risk, if_pos c5])
  · replace c5 := b2i_0.mp c5
    refine s_iconst (v := -1) dX12_risk_8 (by decide) ?_
    exact e_iret dX12_risk_9 rfl (by unfold sp_risk; (first | rw [if_pos c5] | rw [if_neg c5] | skip); first | exact ⟨rfl, _, rfl⟩ | contradiction | (exfalso; (try simp only [Int32.not_lt, Int32.not_le, Int32.le_iff_toInt_le, Int32.lt_iff_toInt_lt, ← Int32.toInt_inj] at *); (try simp at *); omega) | (simp_all; done))

set_option maxRecDepth 100000 in
set_option maxHeartbeats 4000000 in
theorem m_dare (d : Nat) (P D : HP) (M s : MZ) (hP : P.length = 95) (p : Int32) (hz : 0 ≤ M.1 0 ∧ M.1 0 ≤ 4) (hs : ∀ i, i < 4 → 0 ≤ M.2.1 4 i) (cl : CLs) (hcl : CN M cl) : Con (d + 6) qX12_dare 0 0 [.ref 95, .int p] (mh P (scr M s) D) (XS P D (sp_dare M cl p) M s) := by
  refine Con.of (by decide +kernel) (Nat.le_of_ble_eq_true rfl) ?_
  show Sem (d + 6) qX12_dare 0 0 0 [(0, .ref 95), (1, .int p)] [] (mh P (scr M s) D) _
  rw [show mh P (scr M s) D = mh P (scr M (mra s 15 (s.2.1 15))) D by rw [mra_id]]
  generalize s.2.1 15 = g0
  refine s_aload_nr (j := 0) dX12_dare_0 rfl ?_
  refine s_iload_n (j := 1) dX12_dare_1 rfl ?_
  refine s_V1i cv_X12_211 rfl dX12_dare_2 (mh_get (k := 0) hP rfl) rfl (Nat.le_of_ble_eq_true rfl) (n_isServer _ P D M _ hP _) (fun y2 h2 q2 => ?_)
  obtain ⟨rfl, rfl⟩ := q2
  refine s_if_ne dX12_dare_5 (tgt := 12) (by decide) (fun c5 => ?_) (fun c5 => ?_)
  · replace c5 := b2i_n0.mp c5
    have hp := in4_of hz c5
    refine s_aload_nr (j := 0) dX12_dare_12 rfl ?_
    refine s_iload_n (j := 1) dX12_dare_13 rfl ?_
    refine s_V1i cv_X12_287 rfl dX12_dare_14 (mh_get (k := 0) hP rfl) rfl (Nat.le_of_ble_eq_true rfl) (n_firstOf _ P D M _ hP _ hp hs) (fun y14 h14 q14 => ?_)
    obtain ⟨rfl, rfl⟩ := q14
    refine s_istore_n dX12_dare_17 (by decide) rfl ?_
    refine s_aload_nr (j := 1) dX12_dare_18 rfl ?_
    refine s_iload_n (j := 2) dX12_dare_19 rfl ?_
    refine s_iload_n (j := 0) dX12_dare_20 rfl ?_
    refine s_iload_n (j := 0) dX12_dare_21 rfl ?_
    refine s_V3i cv_X12_293 rfl dX12_dare_22 (mh_get (k := 0) hP rfl) rfl (Nat.le_of_ble_eq_true rfl) (m_chanceOf _ P D (M) _ hP p (_) (_) hp cl hcl) (fun y22 h22 q22 => ?_)
    obtain ⟨rfl, g22, rfl⟩ := q22
    try rw [mra_2]
    refine s_aload_nr (j := 1) dX12_dare_25 rfl ?_
    refine s_iload_n (j := 2) dX12_dare_26 rfl ?_
    refine s_V1i cv_X12_309 rfl dX12_dare_27 (mh_get (k := 0) hP rfl) rfl (Nat.le_of_ble_eq_true rfl) (m_chanceNow _ P D (M) _ hP p hp cl hcl hs) (fun y27 h27 q27 => ?_)
    obtain ⟨rfl, g27, rfl⟩ := q27
    try rw [mra_2]
    refine s_isub dX12_dare_30 ?_
    exact e_iret dX12_dare_31 rfl (by unfold sp_dare; (first | rw [if_pos c5] | rw [if_neg c5] | skip); first | exact ⟨rfl, _, rfl⟩ | contradiction | (exfalso; (try simp only [Int32.not_lt, Int32.not_le, Int32.le_iff_toInt_le, Int32.lt_iff_toInt_lt, ← Int32.toInt_inj] at *); (try simp at *); omega) | (simp_all; done))
  · replace c5 := b2i_0.mp c5
    refine s_ldcw dX12_dare_8 rfl m1535 ?_
    exact e_iret dX12_dare_11 rfl (by unfold sp_dare; (first | rw [if_pos c5] | rw [if_neg c5] | skip); first | exact ⟨rfl, _, rfl⟩ | contradiction | (exfalso; (try simp only [Int32.not_lt, Int32.not_le, Int32.le_iff_toInt_le, Int32.lt_iff_toInt_lt, ← Int32.toInt_inj] at *); (try simp at *); omega) | (simp_all; done))

set_option maxRecDepth 100000 in
set_option maxHeartbeats 4000000 in
theorem m_more (d : Nat) (P D : HP) (M s : MZ) (hP : P.length = 95) (p w : Int32) (hz : 0 ≤ M.1 0 ∧ M.1 0 ≤ 4) (hs : ∀ i, i < 4 → 0 ≤ M.2.1 4 i) (cl : CLs) (hcl : CN M cl) : Con (d + 6) qX12_more 0 0 [.ref 95, .int p, .int w] (mh P (scr M s) D) (XS P D (sp_more M cl p w) M s) := by
  refine Con.of (by decide +kernel) (Nat.le_of_ble_eq_true rfl) ?_
  show Sem (d + 6) qX12_more 0 0 0 [(0, .ref 95), (1, .int p), (2, .int w)] [] (mh P (scr M s) D) _
  rw [show mh P (scr M s) D = mh P (scr M (mra s 15 (s.2.1 15))) D by rw [mra_id]]
  generalize s.2.1 15 = g0
  refine s_aload_nr (j := 0) dX12_more_0 rfl ?_
  refine s_iload_n (j := 1) dX12_more_1 rfl ?_
  refine s_V1i cv_X12_211 rfl dX12_more_2 (mh_get (k := 0) hP rfl) rfl (Nat.le_of_ble_eq_true rfl) (n_isServer _ P D M _ hP _) (fun y2 h2 q2 => ?_)
  obtain ⟨rfl, rfl⟩ := q2
  refine s_if_eq dX12_more_5 (tgt := 18) (by decide) (fun c5 => ?_) (fun c5 => ?_)
  · replace c5 := b2i_0.mp c5
    refine s_ldcw dX12_more_18 rfl m1535 ?_
    exact e_iret dX12_more_21 rfl (by unfold sp_more; (first | rw [if_pos c5] | rw [if_neg c5] | skip); first | exact ⟨rfl, _, rfl⟩ | contradiction | (exfalso; (try simp only [Int32.not_lt, Int32.not_le, Int32.le_iff_toInt_le, Int32.lt_iff_toInt_lt, ← Int32.toInt_inj] at *); (try simp at *); omega) | (simp_all; done))
  · replace c5 := b2i_n0.mp c5
    refine s_aload_nr (j := 0) dX12_more_8 rfl ?_
    refine s_iload_n (j := 2) dX12_more_9 rfl ?_
    refine s_iconst (v := 0) dX12_more_10 (by decide) ?_
    refine s_iconst (v := 1) dX12_more_11 (by decide) ?_
    refine s_V3i cv_X12_203 rfl dX12_more_12 (mh_get (k := 0) hP rfl) rfl (Nat.le_of_ble_eq_true rfl) (m_in _ P D _ hP _ _ _) (fun y12 h12 q12 => ?_)
    obtain ⟨rfl, rfl⟩ := q12
    refine s_if_ne dX12_more_15 (tgt := 22) (by decide) (fun c15 => ?_) (fun c15 => ?_)
    · replace c15 := b2i_n0.mp c15
      have hp := in4_of hz c5
      refine s_aload_nr (j := 0) dX12_more_22 rfl ?_
      refine s_iload_n (j := 1) dX12_more_23 rfl ?_
      refine s_V1i cv_X12_309 rfl dX12_more_24 (mh_get (k := 0) hP rfl) rfl (Nat.le_of_ble_eq_true rfl) (m_chanceNow _ P D (M) _ hP p hp cl hcl hs) (fun y24 h24 q24 => ?_)
      obtain ⟨rfl, g24, rfl⟩ := q24
      try rw [mra_2]
      refine s_istore_n dX12_more_27 (by decide) rfl ?_
      refine s_aload_nr (j := 1) dX12_more_28 rfl ?_
      refine gS_hard dX12_more_29 rfl hP ?_
      refine s_iload_n (j := 2) dX12_more_32 rfl ?_
      refine lS_hard dX12_more_33 hP (by exact hp) ?_
      refine s_istore dX12_more_34 (by decide) rfl ?_
      refine s_aload_nr (j := 2) dX12_more_36 rfl ?_
      refine gS_soft dX12_more_37 rfl hP ?_
      refine s_iload_n (j := 3) dX12_more_40 rfl ?_
      refine lS_soft dX12_more_41 hP (by exact hp) ?_
      refine s_istore dX12_more_42 (by decide) rfl ?_
      refine s_aload_nr (j := 3) dX12_more_44 rfl ?_
      refine gS_served dX12_more_45 rfl hP ?_
      refine s_iload_n (j := 4) dX12_more_48 rfl ?_
      refine lS_served dX12_more_49 hP (by exact hp) ?_
      refine s_istore dX12_more_50 (by decide) rfl ?_
      refine s_iload_n (j := 6) dX12_more_52 rfl ?_
      refine s_if_ne dX12_more_53 (tgt := 103) (by decide) (fun c53 => ?_) (fun c53 => ?_)
      · have hsu : ∀ j, j < 4 → 0 ≤ (msa M 4 (pz p) 0).2.1 4 j := (fun j hj => by show 0 ≤ upd (M.2.1 4) (pz p) 0 j; unfold upd; split; exact Int32.le_refl _; exact hs j hj)
        refine s_aload_nr (j := 4) dX12_more_103 rfl ?_
        refine gS_served dX12_more_104 rfl hP ?_
        refine s_iload_n (j := 5) dX12_more_107 rfl ?_
        refine s_iconst (v := 0) dX12_more_108 (by decide) ?_
        refine sS_served dX12_more_109 hP (by exact hp) ?_
        refine s_aload_nr (j := 4) dX12_more_110 rfl ?_
        refine s_iload_n (j := 5) dX12_more_111 rfl ?_
        refine s_V1i cv_X12_309 rfl dX12_more_112 (mh_get (k := 0) hP rfl) rfl (Nat.le_of_ble_eq_true rfl) (m_chanceNow _ P D _ _ hP p hp cl (by first | exact (hcl.wa (by decide)).wa (by decide) | exact hcl.wa (by decide)) (by first | exact hs | exact hsu)) (fun y112 h112 q112 => ?_)
        obtain ⟨rfl, g112, rfl⟩ := q112
        try rw [mra_2]
        refine s_istore dX12_more_115 (by decide) rfl ?_
        refine s_aload_nr (j := 5) dX12_more_117 rfl ?_
        refine gS_hard dX12_more_118 rfl hP ?_
        refine s_iload_n (j := 6) dX12_more_121 rfl ?_
        refine s_iload (j := 3) dX12_more_122 rfl ?_
        refine sS_hard dX12_more_124 hP (by exact hp) ?_
        refine s_aload_nr (j := 5) dX12_more_125 rfl ?_
        refine gS_soft dX12_more_126 rfl hP ?_
        refine s_iload_n (j := 6) dX12_more_129 rfl ?_
        refine s_iload (j := 2) dX12_more_130 rfl ?_
        refine sS_soft dX12_more_132 hP (by exact hp) ?_
        refine s_aload_nr (j := 5) dX12_more_133 rfl ?_
        refine gS_served dX12_more_134 rfl hP ?_
        refine s_iload_n (j := 6) dX12_more_137 rfl ?_
        refine s_iload (j := 1) dX12_more_138 rfl ?_
        refine sS_served dX12_more_140 hP (by exact hp) ?_
        refine s_iload (j := 0) dX12_more_141 rfl ?_
        refine s_iload_n (j := 4) dX12_more_143 rfl ?_
        refine s_isub dX12_more_144 ?_
        exact e_iret dX12_more_145 rfl (by exact ⟨by rw [sp_more, if_pos c5, if_pos c15, if_neg c53], g112, congrArg (fun z => mh P (scr z (mra s 15 g112)) D) (mo1 M (pz p))⟩)
      · refine s_aload_nr (j := 4) dX12_more_56 rfl ?_
        refine gS_hard dX12_more_57 rfl hP ?_
        refine s_iload_n (j := 5) dX12_more_60 rfl ?_
        refine s_iload (j := 2) dX12_more_61 rfl ?_
        refine s_bipush (v := 9) dX12_more_63 (by decide) ?_
        refine s_icmp_ge dX12_more_65 (tgt := 75) (by decide) (fun c65 => ?_) (fun c65 => ?_)
        · refine s_bipush (v := 9) dX12_more_75 (by decide) ?_
          refine sS_hard dX12_more_77 hP (by exact hp) ?_
          refine s_aload_nr (j := 4) dX12_more_78 rfl ?_
          refine gS_soft dX12_more_79 rfl hP ?_
          refine s_iload_n (j := 5) dX12_more_82 rfl ?_
          refine s_iload (j := 1) dX12_more_83 rfl ?_
          refine s_bipush (v := 9) dX12_more_85 (by decide) ?_
          refine s_icmp_ge dX12_more_87 (tgt := 97) (by decide) (fun c87 => ?_) (fun c87 => ?_)
          · refine s_bipush (v := 9) dX12_more_97 (by decide) ?_
            refine sS_soft dX12_more_99 hP (by exact hp) ?_
            refine s_goto dX12_more_100 (tgt := 110) (by decide) ?_
            refine s_aload_nr (j := 4) dX12_more_110 rfl ?_
            refine s_iload_n (j := 5) dX12_more_111 rfl ?_
            refine s_V1i cv_X12_309 rfl dX12_more_112 (mh_get (k := 0) hP rfl) rfl (Nat.le_of_ble_eq_true rfl) (m_chanceNow _ P D _ _ hP p hp cl (by first | exact (hcl.wa (by decide)).wa (by decide) | exact hcl.wa (by decide)) (by first | exact hs | exact hsu)) (fun y112 h112 q112 => ?_)
            obtain ⟨rfl, g112, rfl⟩ := q112
            try rw [mra_2]
            refine s_istore dX12_more_115 (by decide) rfl ?_
            refine s_aload_nr (j := 5) dX12_more_117 rfl ?_
            refine gS_hard dX12_more_118 rfl hP ?_
            refine s_iload_n (j := 6) dX12_more_121 rfl ?_
            refine s_iload (j := 3) dX12_more_122 rfl ?_
            refine sS_hard dX12_more_124 hP (by exact hp) ?_
            refine s_aload_nr (j := 5) dX12_more_125 rfl ?_
            refine gS_soft dX12_more_126 rfl hP ?_
            refine s_iload_n (j := 6) dX12_more_129 rfl ?_
            refine s_iload (j := 2) dX12_more_130 rfl ?_
            refine sS_soft dX12_more_132 hP (by exact hp) ?_
            refine s_aload_nr (j := 5) dX12_more_133 rfl ?_
            refine gS_served dX12_more_134 rfl hP ?_
            refine s_iload_n (j := 6) dX12_more_137 rfl ?_
            refine s_iload (j := 1) dX12_more_138 rfl ?_
            refine sS_served dX12_more_140 hP (by exact hp) ?_
            refine s_iload (j := 0) dX12_more_141 rfl ?_
            refine s_iload_n (j := 4) dX12_more_143 rfl ?_
            refine s_isub dX12_more_144 ?_
            exact e_iret dX12_more_145 rfl (by exact ⟨by rw [sp_more, if_pos c5, if_pos c15, if_pos c53, up9, up9, if_pos c65, if_pos c87], g112, congrArg (fun z => mh P (scr z (mra s 15 g112)) D) (mo2 M (pz p) _ _)⟩)
          · refine s_iload (j := 1) dX12_more_90 rfl ?_
            refine s_iconst (v := 1) dX12_more_92 (by decide) ?_
            refine s_iadd dX12_more_93 ?_
            refine s_goto dX12_more_94 (tgt := 99) (by decide) ?_
            refine sS_soft dX12_more_99 hP (by exact hp) ?_
            refine s_goto dX12_more_100 (tgt := 110) (by decide) ?_
            refine s_aload_nr (j := 4) dX12_more_110 rfl ?_
            refine s_iload_n (j := 5) dX12_more_111 rfl ?_
            refine s_V1i cv_X12_309 rfl dX12_more_112 (mh_get (k := 0) hP rfl) rfl (Nat.le_of_ble_eq_true rfl) (m_chanceNow _ P D _ _ hP p hp cl (by first | exact (hcl.wa (by decide)).wa (by decide) | exact hcl.wa (by decide)) (by first | exact hs | exact hsu)) (fun y112 h112 q112 => ?_)
            obtain ⟨rfl, g112, rfl⟩ := q112
            try rw [mra_2]
            refine s_istore dX12_more_115 (by decide) rfl ?_
            refine s_aload_nr (j := 5) dX12_more_117 rfl ?_
            refine gS_hard dX12_more_118 rfl hP ?_
            refine s_iload_n (j := 6) dX12_more_121 rfl ?_
            refine s_iload (j := 3) dX12_more_122 rfl ?_
            refine sS_hard dX12_more_124 hP (by exact hp) ?_
            refine s_aload_nr (j := 5) dX12_more_125 rfl ?_
            refine gS_soft dX12_more_126 rfl hP ?_
            refine s_iload_n (j := 6) dX12_more_129 rfl ?_
            refine s_iload (j := 2) dX12_more_130 rfl ?_
            refine sS_soft dX12_more_132 hP (by exact hp) ?_
            refine s_aload_nr (j := 5) dX12_more_133 rfl ?_
            refine gS_served dX12_more_134 rfl hP ?_
            refine s_iload_n (j := 6) dX12_more_137 rfl ?_
            refine s_iload (j := 1) dX12_more_138 rfl ?_
            refine sS_served dX12_more_140 hP (by exact hp) ?_
            refine s_iload (j := 0) dX12_more_141 rfl ?_
            refine s_iload_n (j := 4) dX12_more_143 rfl ?_
            refine s_isub dX12_more_144 ?_
            exact e_iret dX12_more_145 rfl (by exact ⟨by rw [sp_more, if_pos c5, if_pos c15, if_pos c53, up9, up9, if_pos c65, if_neg c87], g112, congrArg (fun z => mh P (scr z (mra s 15 g112)) D) (mo2 M (pz p) _ _)⟩)
        · refine s_iload (j := 2) dX12_more_68 rfl ?_
          refine s_iconst (v := 1) dX12_more_70 (by decide) ?_
          refine s_iadd dX12_more_71 ?_
          refine s_goto dX12_more_72 (tgt := 77) (by decide) ?_
          refine sS_hard dX12_more_77 hP (by exact hp) ?_
          refine s_aload_nr (j := 4) dX12_more_78 rfl ?_
          refine gS_soft dX12_more_79 rfl hP ?_
          refine s_iload_n (j := 5) dX12_more_82 rfl ?_
          refine s_iload (j := 1) dX12_more_83 rfl ?_
          refine s_bipush (v := 9) dX12_more_85 (by decide) ?_
          refine s_icmp_ge dX12_more_87 (tgt := 97) (by decide) (fun c87 => ?_) (fun c87 => ?_)
          · refine s_bipush (v := 9) dX12_more_97 (by decide) ?_
            refine sS_soft dX12_more_99 hP (by exact hp) ?_
            refine s_goto dX12_more_100 (tgt := 110) (by decide) ?_
            refine s_aload_nr (j := 4) dX12_more_110 rfl ?_
            refine s_iload_n (j := 5) dX12_more_111 rfl ?_
            refine s_V1i cv_X12_309 rfl dX12_more_112 (mh_get (k := 0) hP rfl) rfl (Nat.le_of_ble_eq_true rfl) (m_chanceNow _ P D _ _ hP p hp cl (by first | exact (hcl.wa (by decide)).wa (by decide) | exact hcl.wa (by decide)) (by first | exact hs | exact hsu)) (fun y112 h112 q112 => ?_)
            obtain ⟨rfl, g112, rfl⟩ := q112
            try rw [mra_2]
            refine s_istore dX12_more_115 (by decide) rfl ?_
            refine s_aload_nr (j := 5) dX12_more_117 rfl ?_
            refine gS_hard dX12_more_118 rfl hP ?_
            refine s_iload_n (j := 6) dX12_more_121 rfl ?_
            refine s_iload (j := 3) dX12_more_122 rfl ?_
            refine sS_hard dX12_more_124 hP (by exact hp) ?_
            refine s_aload_nr (j := 5) dX12_more_125 rfl ?_
            refine gS_soft dX12_more_126 rfl hP ?_
            refine s_iload_n (j := 6) dX12_more_129 rfl ?_
            refine s_iload (j := 2) dX12_more_130 rfl ?_
            refine sS_soft dX12_more_132 hP (by exact hp) ?_
            refine s_aload_nr (j := 5) dX12_more_133 rfl ?_
            refine gS_served dX12_more_134 rfl hP ?_
            refine s_iload_n (j := 6) dX12_more_137 rfl ?_
            refine s_iload (j := 1) dX12_more_138 rfl ?_
            refine sS_served dX12_more_140 hP (by exact hp) ?_
            refine s_iload (j := 0) dX12_more_141 rfl ?_
            refine s_iload_n (j := 4) dX12_more_143 rfl ?_
            refine s_isub dX12_more_144 ?_
            exact e_iret dX12_more_145 rfl (by exact ⟨by rw [sp_more, if_pos c5, if_pos c15, if_pos c53, up9, up9, if_neg c65, if_pos c87], g112, congrArg (fun z => mh P (scr z (mra s 15 g112)) D) (mo2 M (pz p) _ _)⟩)
          · refine s_iload (j := 1) dX12_more_90 rfl ?_
            refine s_iconst (v := 1) dX12_more_92 (by decide) ?_
            refine s_iadd dX12_more_93 ?_
            refine s_goto dX12_more_94 (tgt := 99) (by decide) ?_
            refine sS_soft dX12_more_99 hP (by exact hp) ?_
            refine s_goto dX12_more_100 (tgt := 110) (by decide) ?_
            refine s_aload_nr (j := 4) dX12_more_110 rfl ?_
            refine s_iload_n (j := 5) dX12_more_111 rfl ?_
            refine s_V1i cv_X12_309 rfl dX12_more_112 (mh_get (k := 0) hP rfl) rfl (Nat.le_of_ble_eq_true rfl) (m_chanceNow _ P D _ _ hP p hp cl (by first | exact (hcl.wa (by decide)).wa (by decide) | exact hcl.wa (by decide)) (by first | exact hs | exact hsu)) (fun y112 h112 q112 => ?_)
            obtain ⟨rfl, g112, rfl⟩ := q112
            try rw [mra_2]
            refine s_istore dX12_more_115 (by decide) rfl ?_
            refine s_aload_nr (j := 5) dX12_more_117 rfl ?_
            refine gS_hard dX12_more_118 rfl hP ?_
            refine s_iload_n (j := 6) dX12_more_121 rfl ?_
            refine s_iload (j := 3) dX12_more_122 rfl ?_
            refine sS_hard dX12_more_124 hP (by exact hp) ?_
            refine s_aload_nr (j := 5) dX12_more_125 rfl ?_
            refine gS_soft dX12_more_126 rfl hP ?_
            refine s_iload_n (j := 6) dX12_more_129 rfl ?_
            refine s_iload (j := 2) dX12_more_130 rfl ?_
            refine sS_soft dX12_more_132 hP (by exact hp) ?_
            refine s_aload_nr (j := 5) dX12_more_133 rfl ?_
            refine gS_served dX12_more_134 rfl hP ?_
            refine s_iload_n (j := 6) dX12_more_137 rfl ?_
            refine s_iload (j := 1) dX12_more_138 rfl ?_
            refine sS_served dX12_more_140 hP (by exact hp) ?_
            refine s_iload (j := 0) dX12_more_141 rfl ?_
            refine s_iload_n (j := 4) dX12_more_143 rfl ?_
            refine s_isub dX12_more_144 ?_
            exact e_iret dX12_more_145 rfl (by exact ⟨by rw [sp_more, if_pos c5, if_pos c15, if_pos c53, up9, up9, if_neg c65, if_neg c87], g112, congrArg (fun z => mh P (scr z (mra s 15 g112)) D) (mo2 M (pz p) _ _)⟩)
    · replace c15 := b2i_0.mp c15
      refine s_ldcw dX12_more_18 rfl m1535 ?_
      exact e_iret dX12_more_21 rfl (by unfold sp_more; (first | rw [if_pos c5] | rw [if_neg c5] | skip); (first | rw [if_pos c15] | rw [if_neg c15] | skip); first | exact ⟨rfl, _, rfl⟩ | contradiction | (exfalso; (try simp only [Int32.not_lt, Int32.not_le, Int32.le_iff_toInt_le, Int32.lt_iff_toInt_lt, ← Int32.toInt_inj] at *); (try simp at *); omega) | (simp_all; done))

set_option maxRecDepth 100000 in
set_option maxHeartbeats 4000000 in
theorem m_safe (d : Nat) (P D : HP) (M s : MZ) (hP : P.length = 95) (p q : Int32) (hz : 0 ≤ M.1 0 ∧ M.1 0 ≤ 4) (hs : ∀ i, i < 4 → 0 ≤ M.2.1 4 i) (cl : CLs) (hcl : CN M cl) : Con (d + 4) qX12_safe 0 0 [.ref 95, .int p, .int q] (mh P (scr M s) D) (XS P D (sp_safe M cl p q) M s) := by
  refine Con.of (by decide +kernel) (Nat.le_of_ble_eq_true rfl) ?_
  show Sem (d + 4) qX12_safe 0 0 0 [(0, .ref 95), (1, .int p), (2, .int q)] [] (mh P (scr M s) D) _
  rw [show mh P (scr M s) D = mh P (scr M (mra s 15 (s.2.1 15))) D by rw [mra_id]]
  generalize s.2.1 15 = g0
  refine s_aload_nr (j := 0) dX12_safe_0 rfl ?_
  refine s_iload_n (j := 1) dX12_safe_1 rfl ?_
  refine s_V1i cv_X12_211 rfl dX12_safe_2 (mh_get (k := 0) hP rfl) rfl (Nat.le_of_ble_eq_true rfl) (n_isServer _ P D M _ hP _) (fun y2 h2 q2 => ?_)
  obtain ⟨rfl, rfl⟩ := q2
  refine s_if_ne dX12_safe_5 (tgt := 10) (by decide) (fun c5 => ?_) (fun c5 => ?_)
  · replace c5 := b2i_n0.mp c5
    refine s_aload_nr (j := 0) dX12_safe_10 rfl ?_
    refine s_iload_n (j := 2) dX12_safe_11 rfl ?_
    refine s_iconst (v := 0) dX12_safe_12 (by decide) ?_
    refine s_bipush (v := 100) dX12_safe_13 (by decide) ?_
    refine s_V3i cv_X12_203 rfl dX12_safe_15 (mh_get (k := 0) hP rfl) rfl (Nat.le_of_ble_eq_true rfl) (m_in _ P D _ hP _ _ _) (fun y15 h15 q15 => ?_)
    obtain ⟨rfl, rfl⟩ := q15
    refine s_if_ne dX12_safe_18 (tgt := 24) (by decide) (fun c18 => ?_) (fun c18 => ?_)
    · replace c18 := b2i_n0.mp c18
      have hp := in4_of hz c5
      refine s_bipush (v := 9) dX12_safe_24 (by decide) ?_
      refine s_istore_n dX12_safe_26 (by decide) rfl ?_
      have LP : ∀ (n : Nat) (k : Nat) (g : Nat → Int32), k < n → k ≤ 10 → srD (fun k => ¬ sIn M cl p (nI k) < q) k = sp_safe M cl p q → Sem (d + 4) qX12_safe 0 0 27 [(0, .ref 95), (1, .int p), (2, .int q), (3, .int (nI k + -1))] [] (mh P (scr M (mra s 15 g)) D) (XS P D (sp_safe M cl p q) M s) := by
        intro n
        induction n with
        | zero => intro k g hm; exact absurd hm (Nat.not_lt_zero _)
        | succ n ih =>
          intro k g hm h1 h2
          refine s_iload_n (j := 3) dX12_safe_27 rfl ?_
          refine s_if_lt dX12_safe_28 (tgt := 49) (by decide) (fun c28 => ?_) (fun c28 => ?_)
          · obtain rfl : k = 0 := by
              cases k with
              | zero => rfl
              | succ j => rw [nI_m1] at c28; exact absurd c28 (nI_pos (by omega))
            refine s_bipush (v := -5) dX12_safe_49 (by decide) ?_
            exact e_iret dX12_safe_51 rfl (by exact ⟨h2, _, rfl⟩)
          · obtain ⟨k, rfl⟩ : ∃ j, k = j + 1 := by
              cases k with
              | zero => exact absurd (show nI 0 + -1 < 0 by decide) c28
              | succ j => exact ⟨j, rfl⟩
            rw [nI_m1]
            refine s_aload_nr (j := 0) dX12_safe_31 rfl ?_
            refine s_iload_n (j := 1) dX12_safe_32 rfl ?_
            refine s_iload_n (j := 3) dX12_safe_33 rfl ?_
            refine s_V2i cv_X12_280 rfl dX12_safe_34 (mh_get (k := 0) hP rfl) rfl (Nat.le_of_ble_eq_true rfl) (m_inOf _ P D M _ hP p _ hp cl hcl) (fun y34 h34 q34 => ?_)
            obtain ⟨rfl, g34, rfl⟩ := q34
            try rw [mra_2]
            refine s_iload_n (j := 2) dX12_safe_37 rfl ?_
            refine s_icmp_lt dX12_safe_38 (tgt := 43) (by decide) (fun c38 => ?_) (fun c38 => ?_)
            · refine s_iinc (j := 3) (v := _ + (-1)) dX12_safe_43 rfl rfl (by decide) rfl ?_
              refine s_goto dX12_safe_46 (tgt := 27) (by decide) ?_
              refine s_locals [1, 2, 3, 0] rfl ?_
              exact ih k _ (by omega) (by omega) (h2.symm.trans (by rw [srD, if_neg (show ¬ ¬ _ < _ from fun z => z c38)])).symm
            · refine s_iload_n (j := 3) dX12_safe_41 rfl ?_
              exact e_iret dX12_safe_42 rfl (by exact ⟨by rw [← h2, srD, if_pos (show ¬ _ < _ from c38)], _, rfl⟩)
      refine s_locals [1, 2, 3, 0] rfl ?_
      exact LP 11 10 _ (by decide) (by decide) (by rw [sp_safe, if_pos c5, if_pos c18])
    · replace c18 := b2i_0.mp c18
      refine s_bipush (v := -2) dX12_safe_21 (by decide) ?_
      exact e_iret dX12_safe_23 rfl (by unfold sp_safe; (first | rw [if_pos c5] | rw [if_neg c5] | skip); (first | rw [if_pos c18] | rw [if_neg c18] | skip); first | exact ⟨rfl, _, rfl⟩ | contradiction | (exfalso; (try simp only [Int32.not_lt, Int32.not_le, Int32.le_iff_toInt_le, Int32.lt_iff_toInt_lt, ← Int32.toInt_inj] at *); (try simp at *); omega) | (simp_all; done))
  · replace c5 := b2i_0.mp c5
    refine s_iconst (v := -1) dX12_safe_8 (by decide) ?_
    exact e_iret dX12_safe_9 rfl (by unfold sp_safe; (first | rw [if_pos c5] | rw [if_neg c5] | skip); first | exact ⟨rfl, _, rfl⟩ | contradiction | (exfalso; (try simp only [Int32.not_lt, Int32.not_le, Int32.le_iff_toInt_le, Int32.lt_iff_toInt_lt, ← Int32.toInt_inj] at *); (try simp at *); omega) | (simp_all; done))

set_option maxRecDepth 100000 in
set_option maxHeartbeats 4000000 in
theorem m_stand (d : Nat) (P D : HP) (M s : MZ) (hP : P.length = 95) (p w : Int32) (hz : 0 ≤ M.1 0 ∧ M.1 0 ≤ 4) (hs : ∀ i, i < 4 → 0 ≤ M.2.1 4 i) (cl : CLs) (hcl : CN M cl) : Con (d + 6) qX12_stand 0 0 [.ref 95, .int p, .int w] (mh P (scr M s) D) (XS P D (sp_stand M cl p w) M s) := by
  refine Con.of (by decide +kernel) (Nat.le_of_ble_eq_true rfl) ?_
  show Sem (d + 6) qX12_stand 0 0 0 [(0, .ref 95), (1, .int p), (2, .int w)] [] (mh P (scr M s) D) _
  rw [show mh P (scr M s) D = mh P (scr M (mra s 15 (s.2.1 15))) D by rw [mra_id]]
  generalize s.2.1 15 = g0
  refine s_aload_nr (j := 0) dX12_stand_0 rfl ?_
  refine s_iload_n (j := 1) dX12_stand_1 rfl ?_
  refine s_V1i cv_X12_211 rfl dX12_stand_2 (mh_get (k := 0) hP rfl) rfl (Nat.le_of_ble_eq_true rfl) (n_isServer _ P D M _ hP _) (fun y2 h2 q2 => ?_)
  obtain ⟨rfl, rfl⟩ := q2
  refine s_if_eq dX12_stand_5 (tgt := 18) (by decide) (fun c5 => ?_) (fun c5 => ?_)
  · replace c5 := b2i_0.mp c5
    refine s_iconst (v := -1) dX12_stand_18 (by decide) ?_
    exact e_iret dX12_stand_19 rfl (by unfold sp_stand; (first | rw [if_pos c5] | rw [if_neg c5] | skip); first | exact ⟨rfl, _, rfl⟩ | contradiction | (exfalso; (try simp only [Int32.not_lt, Int32.not_le, Int32.le_iff_toInt_le, Int32.lt_iff_toInt_lt, ← Int32.toInt_inj] at *); (try simp at *); omega) | (simp_all; done))
  · replace c5 := b2i_n0.mp c5
    refine s_aload_nr (j := 0) dX12_stand_8 rfl ?_
    refine s_iload_n (j := 2) dX12_stand_9 rfl ?_
    refine s_iconst (v := 0) dX12_stand_10 (by decide) ?_
    refine s_iconst (v := 1) dX12_stand_11 (by decide) ?_
    refine s_V3i cv_X12_203 rfl dX12_stand_12 (mh_get (k := 0) hP rfl) rfl (Nat.le_of_ble_eq_true rfl) (m_in _ P D _ hP _ _ _) (fun y12 h12 q12 => ?_)
    obtain ⟨rfl, rfl⟩ := q12
    refine s_if_ne dX12_stand_15 (tgt := 20) (by decide) (fun c15 => ?_) (fun c15 => ?_)
    · replace c15 := b2i_n0.mp c15
      have hp := in4_of hz c5
      refine s_aload_nr (j := 0) dX12_stand_20 rfl ?_
      refine gS_stance dX12_stand_21 rfl hP ?_
      refine s_istore_n dX12_stand_24 (by decide) rfl ?_
      refine s_iconst (v := 0) dX12_stand_25 (by decide) ?_
      refine s_istore dX12_stand_26 (by decide) rfl ?_
      refine s_ldcw dX12_stand_28 rfl m1552 ?_
      refine s_istore dX12_stand_31 (by decide) rfl ?_
      refine s_iconst (v := 0) dX12_stand_33 (by decide) ?_
      refine s_istore dX12_stand_34 (by decide) rfl ?_
      have LP : ∀ (n : Nat) (m : Nat) (v : Int32) (g : Nat → Int32), 3 - m < n → m ≤ 3 → Sem (d + 6) qX12_stand 0 0 36 [(0, .ref 95), (1, .int p), (2, .int w), (3, .int (M.1 3)), (4, .int (sdt M cl p m).1), (5, .int (sdt M cl p m).2), (6, .int (nI m))] [] (mh P (scr (ms1 M 3 v) (mra s 15 g)) D) (XS P D (sp_stand M cl p w) M s) := by
        intro n
        induction n with
        | zero => intro m v g hm; exact absurd hm (Nat.not_lt_zero _)
        | succ n ih =>
          intro m v g hm h1
          refine s_iload (j := 6) dX12_stand_36 rfl ?_
          refine s_iconst (v := 3) dX12_stand_38 (by decide) ?_
          refine s_icmp_ge dX12_stand_39 (tgt := 79) (by decide) (fun c39 => ?_) (fun c39 => ?_)
          · have hm0 : m = 3 := Nat.le_antisymm h1 ((nI_leI (a := 3) (by decide) (by omega)).mp c39)
            subst hm0
            refine s_aload_nr (j := 0) dX12_stand_79 rfl ?_
            refine s_iload_n (j := 3) dX12_stand_80 rfl ?_
            refine pS_stance dX12_stand_81 rfl hP ?_
            rw [ms1_2, ms1_id]
            refine s_iload_n (j := 2) dX12_stand_84 rfl ?_
            refine s_if_ne dX12_stand_85 (tgt := 93) (by decide) (fun c85 => ?_) (fun c85 => ?_)
            · refine s_iload (j := 5) dX12_stand_93 rfl ?_
              exact e_iret dX12_stand_95 rfl (by unfold sp_stand; (first | rw [if_pos c5] | rw [if_neg c5] | skip); (first | rw [if_pos c15] | rw [if_neg c15] | skip); (first | rw [if_pos c39] | rw [if_neg c39] | skip); (first | rw [if_pos c85] | rw [if_neg c85] | skip); first | exact ⟨rfl, _, rfl⟩ | contradiction | (exfalso; (try simp only [Int32.not_lt, Int32.not_le, Int32.le_iff_toInt_le, Int32.lt_iff_toInt_lt, ← Int32.toInt_inj] at *); (try simp at *); omega) | (simp_all; done))
            · refine s_iload (j := 4) dX12_stand_88 rfl ?_
              refine s_goto dX12_stand_90 (tgt := 95) (by decide) ?_
              exact e_iret dX12_stand_95 rfl (by unfold sp_stand; (first | rw [if_pos c5] | rw [if_neg c5] | skip); (first | rw [if_pos c15] | rw [if_neg c15] | skip); (first | rw [if_pos c39] | rw [if_neg c39] | skip); (first | rw [if_pos c85] | rw [if_neg c85] | skip); first | exact ⟨rfl, _, rfl⟩ | contradiction | (exfalso; (try simp only [Int32.not_lt, Int32.not_le, Int32.le_iff_toInt_le, Int32.lt_iff_toInt_lt, ← Int32.toInt_inj] at *); (try simp at *); omega) | (simp_all; done))
          · have hm0 : m < 3 := Nat.lt_of_not_le fun z => c39 ((nI_leI (a := 3) (by decide) (by omega)).mpr z)
            refine s_aload_nr (j := 0) dX12_stand_42 rfl ?_
            refine s_iload (j := 6) dX12_stand_43 rfl ?_
            refine pS_stance dX12_stand_45 rfl hP ?_
            rw [ms1_2]
            refine s_aload_nr (j := 0) dX12_stand_48 rfl ?_
            refine s_iload_n (j := 1) dX12_stand_49 rfl ?_
            refine s_V1i cv_X12_309 rfl dX12_stand_50 (mh_get (k := 0) hP rfl) rfl (Nat.le_of_ble_eq_true rfl) (m_chanceNow _ P D (ms1 M 3 (nI m)) _ hP p hp cl (hcl.w1 (by decide)) hs) (fun y50 h50 q50 => ?_)
            obtain ⟨rfl, g50, rfl⟩ := q50
            try rw [mra_2]
            refine s_istore dX12_stand_53 (by decide) rfl ?_
            refine s_iload (j := 0) dX12_stand_55 rfl ?_
            refine s_iload (j := 6) dX12_stand_57 rfl ?_
            refine s_icmp_lt dX12_stand_59 (tgt := 65) (by decide) (fun c59 => ?_) (fun c59 => ?_)
            · refine s_iload (j := 7) dX12_stand_65 rfl ?_
              refine s_istore dX12_stand_67 (by decide) rfl ?_
              refine s_iload (j := 1) dX12_stand_69 rfl ?_
              refine s_istore dX12_stand_71 (by decide) rfl ?_
              refine s_iinc (j := 7) (v := _ + (1)) dX12_stand_73 rfl rfl (by decide) rfl ?_
              refine s_goto dX12_stand_76 (tgt := 36) (by decide) ?_
              refine s_locals [4, 5, 6, 7, 2, 1, 0] rfl ?_
              rw [nI_1]
              have e9 : sdt M cl p (m + 1) = _ := (show sdt M cl p (m + 1) = _ by rw [sdt, if_pos c59])
              refine (?_ : ∀ z : Int32 × Int32, sdt M cl p (m + 1) = z → Sem _ _ _ _ _ [_, _, _, _, (4, .int z.1), (5, .int z.2), _] _ _ _) _ e9
              intro z ez
              subst ez
              exact ih (m + 1) _ _ (by omega) (by omega)
            · refine s_goto dX12_stand_62 (tgt := 73) (by decide) ?_
              refine s_iinc (j := 7) (v := _ + (1)) dX12_stand_73 rfl rfl (by decide) rfl ?_
              refine s_goto dX12_stand_76 (tgt := 36) (by decide) ?_
              refine s_locals [2, 3, 4, 5, 6, 7, 0] rfl ?_
              rw [nI_1]
              have e9 : sdt M cl p (m + 1) = _ := (show sdt M cl p (m + 1) = _ by rw [sdt, if_neg c59])
              refine (?_ : ∀ z : Int32 × Int32, sdt M cl p (m + 1) = z → Sem _ _ _ _ _ [_, _, _, _, (4, .int z.1), (5, .int z.2), _] _ _ _) _ e9
              intro z ez
              subst ez
              exact ih (m + 1) _ _ (by omega) (by omega)
      refine s_locals [4, 5, 6, 3, 2, 1, 0] rfl ?_
      rw [show mh P (scr M (mra s 15 g0)) D = mh P (scr (ms1 M 3 (M.1 3)) (mra s 15 g0)) D by rw [ms1_id]]
      exact LP 4 0 _ _ (by decide) (by decide)
    · replace c15 := b2i_0.mp c15
      refine s_iconst (v := -1) dX12_stand_18 (by decide) ?_
      exact e_iret dX12_stand_19 rfl (by unfold sp_stand; (first | rw [if_pos c5] | rw [if_neg c5] | skip); (first | rw [if_pos c15] | rw [if_neg c15] | skip); first | exact ⟨rfl, _, rfl⟩ | contradiction | (exfalso; (try simp only [Int32.not_lt, Int32.not_le, Int32.le_iff_toInt_le, Int32.lt_iff_toInt_lt, ← Int32.toInt_inj] at *); (try simp at *); omega) | (simp_all; done))
