theorem pct_mm (n : Int32) : (if 0 < (if n < 100 then n else 100) then (if n < 100 then n else 100) else 0) = pct n := by
  unfold pct
  by_cases h1 : n < 100
  · rw [if_pos h1]
    by_cases h2 : 0 < n
    · rw [if_pos h2, if_neg (Int32.lt_asymm h2), if_neg (Int32.lt_asymm h1)]
    · rw [if_neg h2]
      by_cases h3 : n < 0
      · rw [if_pos h3]
      · rw [if_neg h3, if_neg (Int32.lt_asymm h1)]
        exact Int32.le_antisymm (Int32.not_lt.mp h3) (Int32.not_lt.mp h2)
  · rw [if_neg h1, if_pos (by decide)]
    have h4 := Int32.not_lt.mp h1
    rw [if_neg (fun z => absurd (Int32.lt_of_lt_of_le (show (0 : Int32) < 100 by decide) h4) (Int32.lt_asymm z))]
    by_cases h5 : 100 < n
    · rw [if_pos h5]
    · rw [if_neg h5]
      exact Int32.le_antisymm h4 (Int32.not_lt.mp h5)
theorem tir_eq {a b : Int32} (ha : 0 ≤ a ∧ a ≤ 9) (hb : 0 ≤ b ∧ b ≤ 9999) : (if 0 < a - b / 20 then a - b / 20 else 0) = if a < b / 20 then 0 else a - b / 20 := by
  obtain ⟨x, hx, rfl⟩ := bw_of (m := 9) (n := 9) (by decide) ha
  obtain ⟨y, hy, rfl⟩ := bw_of (m := 9999) (n := 9999) (by decide) hb
  have e : nI y / 20 = nI (y / 20) := nI_div (b := 20) (by omega) (by decide)
  rw [e]
  have hq : y / 20 ≤ 499 := by omega
  by_cases h : x < y / 20
  · rw [if_pos (nI_lt h (by omega))]
    refine if_neg fun z => ?_
    have t : (nI x - nI (y / 20)).toInt = (x : Int) - (y / 20 : Nat) := by
      rw [fb_subI] <;> rw [nI_toInt (by omega), nI_toInt (by omega)] <;> omega
    rw [Int32.lt_iff_toInt_lt, t] at z
    simp at z
    omega
  · rw [if_neg (nI_nlt (by omega) (by omega)), nI_subI (by omega) (by omega)]
    by_cases h2 : x - y / 20 = 0
    · rw [h2]; rfl
    · rw [if_pos (show (0 : Int32) < _ from nI_lt (a := 0) (by omega) (by omega))]
section PSRules
variable {d mc ms pc : Nat} {q : QM} {L : List (Nat × Value)} {st : List Value} {X : XZ} {M : MZ} {D : HP} {Qp : PO}
theorem pS_X1_31 {n : Nat} {k i v : Int32} {v1 v2 : Value} {P : Int32 → HP → Prop} (hs : SV D n k i v) (hk : k = 1 ∨ k = 4) (hd : decode q.2.1 pc = .ok (.invokespecial 31, 3)) (hown : q.1.cls = RX1) (hz : (st.map fun v => v.category).sum ≤ 8) (hC : Con d qX3_strikes 0 0 (.ref n :: [v1, v2]) (xh X M D) (PI P)) (kk : ∀ (x : Int32) (h1 : HP), P x h1 → Sem (d + 1) q mc ms (pc + 3) L (.int x :: st) h1 Qp) : Sem (d + 1) q mc ms pc L (v2 :: v1 :: .ref n :: st) (xh X M D) Qp := by
  rcases hk with rfl | rfl
  · exact s_P2i cp_X1_31 hown hd (hs.get (k := 1)) rfl hz hC kk
  · exact s_P2i cp_X1_31 hown hd (hs.get (k := 4)) rfl hz hC kk
theorem pSm_X1_31 {n : Nat} {k i v : Int32} {v1 v2 : Value} {mc1 ms1 mc2 ms2 : Nat} {P : Int32 → HP → Prop} (hs : SV D n k i v) (hk : k = 1 ∨ k = 4) (hd : decode q.2.1 pc = .ok (.invokespecial 31, 3)) (hown : q.1.cls = RX1) (hz : (st.map fun v => v.category).sum ≤ 8) (hC : Con d qX3_strikes mc1 ms1 (.ref n :: [v1, v2]) (xh X M D) (PI P)) (hm : mc1 + mc = mc2) (hm2 : ms1 + ms = ms2) (kk : ∀ (x : Int32) (h1 : HP), P x h1 → Sem (d + 1) q mc ms (pc + 3) L (.int x :: st) h1 Qp) : Sem (d + 1) q mc2 ms2 pc L (v2 :: v1 :: .ref n :: st) (xh X M D) Qp := by
  rcases hk with rfl | rfl
  · exact s_P2im cp_X1_31 hown hd (hs.get (k := 1)) rfl hz hC hm hm2 kk
  · exact s_P2im cp_X1_31 hown hd (hs.get (k := 4)) rfl hz hC hm hm2 kk
theorem pS_X2_35 {n : Nat} {k i v : Int32} {v1 v2 : Value} {P : Int32 → HP → Prop} (hs : SV D n k i v) (hk : k = 4) (hd : decode q.2.1 pc = .ok (.invokespecial 35, 3)) (hown : q.1.cls = RX2) (hz : (st.map fun v => v.category).sum ≤ 8) (hC : Con d qX1_strikes 0 0 (.ref n :: [v1, v2]) (xh X M D) (PI P)) (kk : ∀ (x : Int32) (h1 : HP), P x h1 → Sem (d + 1) q mc ms (pc + 3) L (.int x :: st) h1 Qp) : Sem (d + 1) q mc ms pc L (v2 :: v1 :: .ref n :: st) (xh X M D) Qp := by
  subst hk
  exact s_P2i cp_X2_35 hown hd (hs.get (k := 4)) rfl hz hC kk
theorem pSm_X2_35 {n : Nat} {k i v : Int32} {v1 v2 : Value} {mc1 ms1 mc2 ms2 : Nat} {P : Int32 → HP → Prop} (hs : SV D n k i v) (hk : k = 4) (hd : decode q.2.1 pc = .ok (.invokespecial 35, 3)) (hown : q.1.cls = RX2) (hz : (st.map fun v => v.category).sum ≤ 8) (hC : Con d qX1_strikes mc1 ms1 (.ref n :: [v1, v2]) (xh X M D) (PI P)) (hm : mc1 + mc = mc2) (hm2 : ms1 + ms = ms2) (kk : ∀ (x : Int32) (h1 : HP), P x h1 → Sem (d + 1) q mc ms (pc + 3) L (.int x :: st) h1 Qp) : Sem (d + 1) q mc2 ms2 pc L (v2 :: v1 :: .ref n :: st) (xh X M D) Qp := by
  subst hk
  exact s_P2im cp_X2_35 hown hd (hs.get (k := 4)) rfl hz hC hm hm2 kk
theorem pS_X5_25 {n : Nat} {k i v : Int32} {v1 : Value} {P : Int32 → HP → Prop} (hs : SV D n k i v) (hk : k = 2 ∨ k = 5) (hd : decode q.2.1 pc = .ok (.invokespecial 25, 3)) (hown : q.1.cls = RX5) (hz : (st.map fun v => v.category).sum ≤ 8) (hC : Con d qX8_first 0 0 (.ref n :: [v1]) (xh X M D) (PI P)) (kk : ∀ (x : Int32) (h1 : HP), P x h1 → Sem (d + 1) q mc ms (pc + 3) L (.int x :: st) h1 Qp) : Sem (d + 1) q mc ms pc L (v1 :: .ref n :: st) (xh X M D) Qp := by
  rcases hk with rfl | rfl
  · exact s_P1i cp_X5_25 hown hd (hs.get (k := 2)) rfl hz hC kk
  · exact s_P1i cp_X5_25 hown hd (hs.get (k := 5)) rfl hz hC kk
theorem pSm_X5_25 {n : Nat} {k i v : Int32} {v1 : Value} {mc1 ms1 mc2 ms2 : Nat} {P : Int32 → HP → Prop} (hs : SV D n k i v) (hk : k = 2 ∨ k = 5) (hd : decode q.2.1 pc = .ok (.invokespecial 25, 3)) (hown : q.1.cls = RX5) (hz : (st.map fun v => v.category).sum ≤ 8) (hC : Con d qX8_first mc1 ms1 (.ref n :: [v1]) (xh X M D) (PI P)) (hm : mc1 + mc = mc2) (hm2 : ms1 + ms = ms2) (kk : ∀ (x : Int32) (h1 : HP), P x h1 → Sem (d + 1) q mc ms (pc + 3) L (.int x :: st) h1 Qp) : Sem (d + 1) q mc2 ms2 pc L (v1 :: .ref n :: st) (xh X M D) Qp := by
  rcases hk with rfl | rfl
  · exact s_P1im cp_X5_25 hown hd (hs.get (k := 2)) rfl hz hC hm hm2 kk
  · exact s_P1im cp_X5_25 hown hd (hs.get (k := 5)) rfl hz hC hm hm2 kk
theorem pS_X8_31 {n : Nat} {k i v : Int32} {v1 v2 : Value} {P : Int32 → HP → Prop} (hs : SV D n k i v) (hk : k = 2 ∨ k = 5) (hd : decode q.2.1 pc = .ok (.invokespecial 31, 3)) (hown : q.1.cls = RX8) (hz : (st.map fun v => v.category).sum ≤ 8) (hC : Con d qX3_tosses 0 0 (.ref n :: [v1, v2]) (xh X M D) (PI P)) (kk : ∀ (x : Int32) (h1 : HP), P x h1 → Sem (d + 1) q mc ms (pc + 3) L (.int x :: st) h1 Qp) : Sem (d + 1) q mc ms pc L (v2 :: v1 :: .ref n :: st) (xh X M D) Qp := by
  rcases hk with rfl | rfl
  · exact s_P2i cp_X8_31 hown hd (hs.get (k := 2)) rfl hz hC kk
  · exact s_P2i cp_X8_31 hown hd (hs.get (k := 5)) rfl hz hC kk
theorem pSm_X8_31 {n : Nat} {k i v : Int32} {v1 v2 : Value} {mc1 ms1 mc2 ms2 : Nat} {P : Int32 → HP → Prop} (hs : SV D n k i v) (hk : k = 2 ∨ k = 5) (hd : decode q.2.1 pc = .ok (.invokespecial 31, 3)) (hown : q.1.cls = RX8) (hz : (st.map fun v => v.category).sum ≤ 8) (hC : Con d qX3_tosses mc1 ms1 (.ref n :: [v1, v2]) (xh X M D) (PI P)) (hm : mc1 + mc = mc2) (hm2 : ms1 + ms = ms2) (kk : ∀ (x : Int32) (h1 : HP), P x h1 → Sem (d + 1) q mc ms (pc + 3) L (.int x :: st) h1 Qp) : Sem (d + 1) q mc2 ms2 pc L (v2 :: v1 :: .ref n :: st) (xh X M D) Qp := by
  rcases hk with rfl | rfl
  · exact s_P2im cp_X8_31 hown hd (hs.get (k := 2)) rfl hz hC hm hm2 kk
  · exact s_P2im cp_X8_31 hown hd (hs.get (k := 5)) rfl hz hC hm hm2 kk
theorem pS_X9_40 {n : Nat} {k i v : Int32} {v1 v2 : Value} {P : Int32 → HP → Prop} (hs : SV D n k i v) (hk : k = 3 ∨ k = 6) (hd : decode q.2.1 pc = .ok (.invokespecial 40, 3)) (hown : q.1.cls = RX9) (hz : (st.map fun v => v.category).sum ≤ 8) (hC : Con d qX3_tells 0 0 (.ref n :: [v1, v2]) (xh X M D) (PI P)) (kk : ∀ (x : Int32) (h1 : HP), P x h1 → Sem (d + 1) q mc ms (pc + 3) L (.int x :: st) h1 Qp) : Sem (d + 1) q mc ms pc L (v2 :: v1 :: .ref n :: st) (xh X M D) Qp := by
  rcases hk with rfl | rfl
  · exact s_P2i cp_X9_40 hown hd (hs.get (k := 3)) rfl hz hC kk
  · exact s_P2i cp_X9_40 hown hd (hs.get (k := 6)) rfl hz hC kk
theorem pSm_X9_40 {n : Nat} {k i v : Int32} {v1 v2 : Value} {mc1 ms1 mc2 ms2 : Nat} {P : Int32 → HP → Prop} (hs : SV D n k i v) (hk : k = 3 ∨ k = 6) (hd : decode q.2.1 pc = .ok (.invokespecial 40, 3)) (hown : q.1.cls = RX9) (hz : (st.map fun v => v.category).sum ≤ 8) (hC : Con d qX3_tells mc1 ms1 (.ref n :: [v1, v2]) (xh X M D) (PI P)) (hm : mc1 + mc = mc2) (hm2 : ms1 + ms = ms2) (kk : ∀ (x : Int32) (h1 : HP), P x h1 → Sem (d + 1) q mc ms (pc + 3) L (.int x :: st) h1 Qp) : Sem (d + 1) q mc2 ms2 pc L (v2 :: v1 :: .ref n :: st) (xh X M D) Qp := by
  rcases hk with rfl | rfl
  · exact s_P2im cp_X9_40 hown hd (hs.get (k := 3)) rfl hz hC hm hm2 kk
  · exact s_P2im cp_X9_40 hown hd (hs.get (k := 6)) rfl hz hC hm hm2 kk
end PSRules
set_option maxRecDepth 100000 in
set_option maxHeartbeats 800000 in
theorem x_within (d : Nat) (hp : HP) (n b : Int32) : Con d qX11_within 0 0 [.int n, .int b] (hp) (XI (b2i (0 ≤ n ∧ n < b)) hp) := by
  refine Con.of (by decide +kernel) (Nat.le_of_ble_eq_true rfl) ?_
  show Sem d qX11_within 0 0 0 [(0, .int n), (1, .int b)] [] (hp) _
  refine s_iload_n (j := 0) dX11_within_0 rfl ?_
  refine s_if_lt dX11_within_1 (tgt := 13) (by decide) (fun c1 => ?_) (fun c1 => ?_)
  · refine s_iconst (v := 0) dX11_within_13 (by decide) ?_
    exact e_zret dX11_within_14 rfl (by first | rfl | exact b2i_z | decide) (by first | exact ⟨(b2i_t ⟨Int32.not_lt.mp c1, by first | assumption | exact Int32.not_le.mp (by assumption)⟩).symm, rfl⟩ | exact ⟨(b2i_f (fun z => by first | exact absurd z.1 (Int32.not_le.mpr (by assumption)) | exact absurd z.2 (Int32.not_lt.mpr (by assumption)) | exact absurd z.2 (by assumption))).symm, rfl⟩)
  · refine s_iload_n (j := 0) dX11_within_4 rfl ?_
    refine s_iload_n (j := 1) dX11_within_5 rfl ?_
    refine s_icmp_ge dX11_within_6 (tgt := 13) (by decide) (fun c6 => ?_) (fun c6 => ?_)
    · refine s_iconst (v := 0) dX11_within_13 (by decide) ?_
      exact e_zret dX11_within_14 rfl (by first | rfl | exact b2i_z | decide) (by first | exact ⟨(b2i_t ⟨Int32.not_lt.mp c1, by first | assumption | exact Int32.not_le.mp (by assumption)⟩).symm, rfl⟩ | exact ⟨(b2i_f (fun z => by first | exact absurd z.1 (Int32.not_le.mpr (by assumption)) | exact absurd z.2 (Int32.not_lt.mpr (by assumption)) | exact absurd z.2 (by assumption))).symm, rfl⟩)
    · refine s_iconst (v := 1) dX11_within_9 (by decide) ?_
      refine s_goto dX11_within_10 (tgt := 14) (by decide) ?_
      exact e_zret dX11_within_14 rfl (by first | rfl | exact b2i_z | decide) (by first | exact ⟨(b2i_t ⟨Int32.not_lt.mp c1, by first | assumption | exact Int32.not_le.mp (by assumption)⟩).symm, rfl⟩ | exact ⟨(b2i_f (fun z => by first | exact absurd z.1 (Int32.not_le.mpr (by assumption)) | exact absurd z.2 (Int32.not_lt.mpr (by assumption)) | exact absurd z.2 (by assumption))).symm, rfl⟩)

set_option maxRecDepth 100000 in
set_option maxHeartbeats 800000 in
theorem x_pair (d : Nat) (hp : HP) (a b : Int32) : Con d qX11_pair 0 0 [.int a, .int b] (hp) (XI (10 * a + b) hp) := by
  refine Con.of (by decide +kernel) (Nat.le_of_ble_eq_true rfl) ?_
  show Sem d qX11_pair 0 0 0 [(0, .int a), (1, .int b)] [] (hp) _
  refine s_bipush (v := 10) dX11_pair_0 (by decide) ?_
  refine s_iload_n (j := 0) dX11_pair_2 rfl ?_
  refine s_imul dX11_pair_3 ?_
  refine s_iload_n (j := 1) dX11_pair_4 rfl ?_
  refine s_iadd dX11_pair_5 ?_
  exact e_iret dX11_pair_6 rfl (by exact ⟨rfl, rfl⟩)

set_option maxRecDepth 100000 in
set_option maxHeartbeats 800000 in
theorem x_two (d : Nat) (hp : HP) (a b c e : Int32) : Con d qX11_twoServes 0 0 [.int a, .int b, .int c, .int e] (hp) (XI (a * b * 100 + (100 - a) * c * e) hp) := by
  refine Con.of (by decide +kernel) (Nat.le_of_ble_eq_true rfl) ?_
  show Sem d qX11_twoServes 0 0 0 [(0, .int a), (1, .int b), (2, .int c), (3, .int e)] [] (hp) _
  refine s_iload_n (j := 0) dX11_twoServes_0 rfl ?_
  refine s_iload_n (j := 1) dX11_twoServes_1 rfl ?_
  refine s_imul dX11_twoServes_2 ?_
  refine s_bipush (v := 100) dX11_twoServes_3 (by decide) ?_
  refine s_imul dX11_twoServes_5 ?_
  refine s_bipush (v := 100) dX11_twoServes_6 (by decide) ?_
  refine s_iload_n (j := 0) dX11_twoServes_8 rfl ?_
  refine s_isub dX11_twoServes_9 ?_
  refine s_iload_n (j := 2) dX11_twoServes_10 rfl ?_
  refine s_imul dX11_twoServes_11 ?_
  refine s_iload_n (j := 3) dX11_twoServes_12 rfl ?_
  refine s_imul dX11_twoServes_13 ?_
  refine s_iadd dX11_twoServes_14 ?_
  exact e_iret dX11_twoServes_15 rfl (by exact ⟨rfl, rfl⟩)

set_option maxRecDepth 100000 in
set_option maxHeartbeats 800000 in
theorem x_mixed (d : Nat) (hp : HP) (c : Int64) (x y : Int32) : Con d qX11_mixed 0 0 [.long c, .int x, .int y] (hp) (XI (gmL c x y) hp) := by
  refine Con.of (by decide +kernel) (Nat.le_of_ble_eq_true rfl) ?_
  show Sem d qX11_mixed 0 0 0 [(0, .long c), (2, .int x), (3, .int y)] [] (hp) _
  refine s_lload_n (j := 0) dX11_mixed_0 rfl ?_
  refine s_iload_n (j := 1) dX11_mixed_1 rfl ?_
  refine s_i2l dX11_mixed_2 ?_
  refine s_lmul dX11_mixed_3 ?_
  refine s_ldc2 dX11_mixed_4 rfl m826 ?_
  refine s_lload_n (j := 0) dX11_mixed_7 rfl ?_
  refine s_lsub dX11_mixed_8 ?_
  refine s_iload_n (j := 2) dX11_mixed_9 rfl ?_
  refine s_i2l dX11_mixed_10 ?_
  refine s_lmul dX11_mixed_11 ?_
  refine s_ladd dX11_mixed_12 ?_
  refine s_ldc2 dX11_mixed_13 rfl m826 ?_
  refine s_ldiv dX11_mixed_16 (by decide) ?_
  refine s_l2i dX11_mixed_17 ?_
  exact e_iret dX11_mixed_18 rfl (by exact ⟨rfl, rfl⟩)

set_option maxRecDepth 100000 in
set_option maxHeartbeats 800000 in
theorem x_percent (d : Nat) (hp : HP) (n : Int32) : Con (d + 1) qX4_percent 0 0 [.int n] (hp) (XI (pct n) hp) := by
  refine Con.of (by decide +kernel) (Nat.le_of_ble_eq_true rfl) ?_
  show Sem (d + 1) qX4_percent 0 0 0 [(0, .int n)] [] (hp) _
  refine s_iconst (v := 0) dX4_percent_0 (by decide) ?_
  refine s_bipush (v := 100) dX4_percent_1 (by decide) ?_
  refine s_iload_n (j := 0) dX4_percent_3 rfl ?_
  refine s_mmin cs_X4_108 rfl dX4_percent_4 (Nat.le_of_ble_eq_true rfl) ?_
  refine s_mmax cs_X4_114 rfl dX4_percent_7 (Nat.le_of_ble_eq_true rfl) ?_
  exact e_iret dX4_percent_10 rfl (by exact ⟨pct_mm n, rfl⟩)

set_option maxRecDepth 100000 in
set_option maxHeartbeats 800000 in
theorem x3_first (d : Nat) (X : XZ) (M : MZ) (D : HP) {w : Nat} (hw : w < 3) {K : MZ} (hR : SR X D w K) {n : Nat} {k i v : Int32} (hs : SV D n k i v) (hi : vp_in i 4) : Con d qX3_first 0 0 [.ref n, .ref (1 + 11 * w)] (xh X M D) (XI (K.2.1 2 (pz i)) (xh X M D)) := by
  refine Con.of (by decide +kernel) (Nat.le_of_ble_eq_true rfl) ?_
  show Sem d qX3_first 0 0 0 [(0, .ref n), (1, .ref (1 + 11 * w))] [] (xh X M D) _
  refine s_aload_nr (j := 1) dX3_first_0 rfl ?_
  refine gX_X3_19 (w := w) hw dX3_first_1 rfl ?_
  refine s_aload_nr (j := 0) dX3_first_4 rfl ?_
  refine gS_X3_13 hs dX3_first_5 rfl ?_
  refine lX_X4_hard (w := w) hw dX3_first_8 (by exact hi) ?_
  exact e_iret dX3_first_9 rfl (by exact ⟨hR.2.1.1 _ (pz_lt hi), rfl⟩)

set_option maxRecDepth 100000 in
set_option maxHeartbeats 800000 in
theorem x8_first (d : Nat) (X : XZ) (M : MZ) (D : HP) {w : Nat} (hw : w < 3) {K : MZ} (hR : SR X D w K) {n : Nat} {k i v : Int32} (hs : SV D n k i v) (hi : vp_in i 4) (hk : k = 2 ∨ k = 5) : Con d qX8_first 0 0 [.ref n, .ref (1 + 11 * w)] (xh X M D) (XI (K.2.1 3 (pz i)) (xh X M D)) := by
  refine Con.of (by decide +kernel) (Nat.le_of_ble_eq_true rfl) ?_
  show Sem d qX8_first 0 0 0 [(0, .ref n), (1, .ref (1 + 11 * w))] [] (xh X M D) _
  refine s_aload_nr (j := 1) dX8_first_0 rfl ?_
  refine gX_X8_7 (w := w) hw dX8_first_1 rfl ?_
  refine s_aload_nr (j := 0) dX8_first_4 rfl ?_
  refine gS_X8_13 hs hk dX8_first_5 rfl ?_
  refine lX_X4_soft (w := w) hw dX8_first_8 (by exact hi) ?_
  exact e_iret dX8_first_9 rfl (by exact ⟨hR.2.1.2.1 _ (pz_lt hi), rfl⟩)

set_option maxRecDepth 100000 in
set_option maxHeartbeats 800000 in
theorem x9_first (d : Nat) (X : XZ) (M : MZ) (D : HP) {w : Nat} (hw : w < 3) {K : MZ} (hR : SR X D w K) (hK : KI K) {n : Nat} {k i v : Int32} (hs : SV D n k i v) (hi : vp_in i 4) (hk : k = 3 ∨ k = 6) : Con (d + 1) qX9_first 0 0 [.ref n, .ref (1 + 11 * w)] (xh X M D) (XI (if K.2.1 2 (pz i) < K.2.1 4 (pz i) / 20 then 0 else K.2.1 2 (pz i) - K.2.1 4 (pz i) / 20) (xh X M D)) := by
  refine Con.of (by decide +kernel) (Nat.le_of_ble_eq_true rfl) ?_
  show Sem (d + 1) qX9_first 0 0 0 [(0, .ref n), (1, .ref (1 + 11 * w))] [] (xh X M D) _
  refine s_iconst (v := 0) dX9_first_0 (by decide) ?_
  refine s_aload_nr (j := 1) dX9_first_1 rfl ?_
  refine gX_X9_7 (w := w) hw dX9_first_2 rfl ?_
  refine s_aload_nr (j := 0) dX9_first_5 rfl ?_
  refine gS_X9_13 hs hk dX9_first_6 rfl ?_
  refine lX_X4_hard (w := w) hw dX9_first_9 (by exact hi) ?_
  refine s_aload_nr (j := 1) dX9_first_10 rfl ?_
  refine gX_X9_19 (w := w) hw dX9_first_11 rfl ?_
  refine s_aload_nr (j := 0) dX9_first_14 rfl ?_
  refine gS_X9_13 hs hk dX9_first_15 rfl ?_
  refine lX_X4_served (w := w) hw dX9_first_18 (by exact hi) ?_
  refine s_bipush (v := 20) dX9_first_19 (by decide) ?_
  refine s_idiv dX9_first_21 (by decide) ?_
  refine s_isub dX9_first_22 ?_
  refine s_mmax cs_X9_22 rfl dX9_first_23 (Nat.le_of_ble_eq_true rfl) ?_
  exact e_iret dX9_first_26 rfl (by rw [hR.2.1.1 _ (pz_lt hi), hR.2.1.2.2.1 _ (pz_lt hi)]; exact ⟨tir_eq (hK.2.2.1 _ (pz_lt hi)) (hK.2.1 _ (pz_lt hi)), rfl⟩)

set_option maxRecDepth 100000 in
set_option maxHeartbeats 800000 in
theorem x10_first (d : Nat) (X : XZ) (M : MZ) (D : HP) {w : Nat} (hw : w < 3) {K : MZ} (hR : SR X D w K) (hK : KI K) {n : Nat} {k i v : Int32} (hs : SV D n k i v) (hi : vp_in i 4) (hk : k = 6) : Con d qX10_first 0 0 [.ref n, .ref (1 + 11 * w)] (xh X M D) (XI (K.2.1 5 (pz (4 * i + K.2.1 4 (pz i) % 4))) (xh X M D)) := by
  refine Con.of (by decide +kernel) (Nat.le_of_ble_eq_true rfl) ?_
  show Sem d qX10_first 0 0 0 [(0, .ref n), (1, .ref (1 + 11 * w))] [] (xh X M D) _
  refine s_aload_nr (j := 1) dX10_first_0 rfl ?_
  refine gX_X10_9 (w := w) hw dX10_first_1 rfl ?_
  refine s_aload_nr (j := 0) dX10_first_4 rfl ?_
  refine gS_X10_15 hs hk dX10_first_5 rfl ?_
  refine s_iconst (v := 4) dX10_first_8 (by decide) ?_
  refine s_imul dX10_first_9 ?_
  refine s_aload_nr (j := 1) dX10_first_10 rfl ?_
  refine gX_X10_21 (w := w) hw dX10_first_11 rfl ?_
  refine s_aload_nr (j := 0) dX10_first_14 rfl ?_
  refine gS_X10_15 hs hk dX10_first_15 rfl ?_
  refine lX_X4_served (w := w) hw dX10_first_18 (by exact hi) ?_
  rw [hR.2.1.2.2.1 _ (pz_lt hi)]
  refine s_iconst (v := 4) dX10_first_19 (by decide) ?_
  refine s_irem dX10_first_20 (by decide) ?_
  refine s_iadd dX10_first_21 ?_
  rw [Int32.mul_comm]
  have r4 := rows_in hi (hK.2.1 _ (pz_lt hi)).1
  refine lX_X4_rows (w := w) hw dX10_first_22 (by exact r4) ?_
  exact e_iret dX10_first_23 rfl (by exact ⟨hR.2.1.2.2.2.1 _ (pz_lt r4), rfl⟩)

set_option maxRecDepth 100000 in
set_option maxHeartbeats 800000 in
theorem x5_first (d : Nat) (X : XZ) (M : MZ) (D : HP) {w : Nat} (hw : w < 3) {K : MZ} (hR : SR X D w K) {n : Nat} {k i v : Int32} (hs : SV D n k i v) (hi : vp_in i 4) (hk : k = 5) : Con (d + 1) qX5_first 0 0 [.ref n, .ref (1 + 11 * w)] (xh X M D) (XI (if K.1 1 = 3 ∨ K.1 2 = 3 then K.2.1 2 (pz i) else K.2.1 3 (pz i)) (xh X M D)) := by
  refine Con.of (by decide +kernel) (Nat.le_of_ble_eq_true rfl) ?_
  show Sem (d + 1) qX5_first 0 0 0 [(0, .ref n), (1, .ref (1 + 11 * w))] [] (xh X M D) _
  refine s_aload_nr (j := 1) dX5_first_0 rfl ?_
  refine gX_X5_7 (w := w) hw dX5_first_1 rfl ?_
  refine s_iconst (v := 3) dX5_first_4 (by decide) ?_
  rw [hR.1.2.1]
  refine s_icmp_eq dX5_first_5 (tgt := 16) (by decide) (fun c5 => ?_) (fun c5 => ?_)
  · refine s_aload_nr (j := 1) dX5_first_16 rfl ?_
    refine gX_X5_16 (w := w) hw dX5_first_17 rfl ?_
    refine s_aload_nr (j := 0) dX5_first_20 rfl ?_
    refine gS_X5_20 hs hk dX5_first_21 rfl ?_
    refine lX_X4_hard (w := w) hw dX5_first_24 (by exact hi) ?_
    refine s_goto dX5_first_25 (tgt := 33) (by decide) ?_
    exact e_iret dX5_first_33 rfl (by first | (rw [if_pos (Or.inl c5)]; exact ⟨hR.2.1.1 _ (pz_lt hi), rfl⟩) | (rw [if_pos (Or.inr c13)]; exact ⟨hR.2.1.1 _ (pz_lt hi), rfl⟩) | (rw [if_neg (fun z => z.elim c5 c13)]; exact ⟨rfl, rfl⟩))
  · refine s_aload_nr (j := 1) dX5_first_8 rfl ?_
    refine gX_X5_13 (w := w) hw dX5_first_9 rfl ?_
    refine s_iconst (v := 3) dX5_first_12 (by decide) ?_
    rw [hR.1.2.2.1]
    refine s_icmp_ne dX5_first_13 (tgt := 28) (by decide) (fun c13 => ?_) (fun c13 => ?_)
    · refine s_aload_nr (j := 0) dX5_first_28 rfl ?_
      refine s_aload_nr (j := 1) dX5_first_29 rfl ?_
      refine pS_X5_25 hs (Or.inr hk) dX5_first_30 rfl (Nat.le_of_ble_eq_true rfl) (x8_first _ X M D hw hR hs hi (Or.inr hk)) (fun y30 h30 q30 => ?_)
      obtain ⟨rfl, rfl⟩ := q30
      exact e_iret dX5_first_33 rfl (by first | (rw [if_pos (Or.inl c5)]; exact ⟨hR.2.1.1 _ (pz_lt hi), rfl⟩) | (rw [if_pos (Or.inr c13)]; exact ⟨hR.2.1.1 _ (pz_lt hi), rfl⟩) | (rw [if_neg (fun z => z.elim c5 c13)]; exact ⟨rfl, rfl⟩))
    · refine s_aload_nr (j := 1) dX5_first_16 rfl ?_
      refine gX_X5_16 (w := w) hw dX5_first_17 rfl ?_
      refine s_aload_nr (j := 0) dX5_first_20 rfl ?_
      refine gS_X5_20 hs hk dX5_first_21 rfl ?_
      refine lX_X4_hard (w := w) hw dX5_first_24 (by exact hi) ?_
      refine s_goto dX5_first_25 (tgt := 33) (by decide) ?_
      exact e_iret dX5_first_33 rfl (by first | (rw [if_pos (Or.inl c5)]; exact ⟨hR.2.1.1 _ (pz_lt hi), rfl⟩) | (rw [if_pos (Or.inr c13)]; exact ⟨hR.2.1.1 _ (pz_lt hi), rfl⟩) | (rw [if_neg (fun z => z.elim c5 c13)]; exact ⟨rfl, rfl⟩))

set_option maxRecDepth 100000 in
set_option maxHeartbeats 800000 in
theorem x3_second (d : Nat) (X : XZ) (M : MZ) (D : HP) {w : Nat} (hw : w < 3) {K : MZ} (hR : SR X D w K) {n : Nat} {k i v : Int32} (hs : SV D n k i v) (hi : vp_in i 4) : Con d qX3_second 0 0 [.ref n, .ref (1 + 11 * w)] (xh X M D) (XI (K.2.1 3 (pz i)) (xh X M D)) := by
  refine Con.of (by decide +kernel) (Nat.le_of_ble_eq_true rfl) ?_
  show Sem d qX3_second 0 0 0 [(0, .ref n), (1, .ref (1 + 11 * w))] [] (xh X M D) _
  refine s_aload_nr (j := 1) dX3_second_0 rfl ?_
  refine gX_X3_25 (w := w) hw dX3_second_1 rfl ?_
  refine s_aload_nr (j := 0) dX3_second_4 rfl ?_
  refine gS_X3_13 hs dX3_second_5 rfl ?_
  refine lX_X4_soft (w := w) hw dX3_second_8 (by exact hi) ?_
  exact e_iret dX3_second_9 rfl (by exact ⟨hR.2.1.2.1 _ (pz_lt hi), rfl⟩)

set_option maxRecDepth 100000 in
set_option maxHeartbeats 800000 in
theorem x1_second (d : Nat) (X : XZ) (M : MZ) (D : HP) {w : Nat} (hw : w < 3) {K : MZ} (hR : SR X D w K) {n : Nat} {k i v : Int32} (hs : SV D n k i v) (hi : vp_in i 4) (hk : k = 1 ∨ k = 4) : Con d qX1_second 0 0 [.ref n, .ref (1 + 11 * w)] (xh X M D) (XI (K.2.1 2 (pz i)) (xh X M D)) := by
  refine Con.of (by decide +kernel) (Nat.le_of_ble_eq_true rfl) ?_
  show Sem d qX1_second 0 0 0 [(0, .ref n), (1, .ref (1 + 11 * w))] [] (xh X M D) _
  refine s_aload_nr (j := 1) dX1_second_0 rfl ?_
  refine gX_X1_7 (w := w) hw dX1_second_1 rfl ?_
  refine s_aload_nr (j := 0) dX1_second_4 rfl ?_
  refine gS_X1_13 hs hk dX1_second_5 rfl ?_
  refine lX_X4_hard (w := w) hw dX1_second_8 (by exact hi) ?_
  exact e_iret dX1_second_9 rfl (by exact ⟨hR.2.1.1 _ (pz_lt hi), rfl⟩)

set_option maxRecDepth 100000 in
set_option maxHeartbeats 800000 in
theorem x3_wins (d : Nat) (X : XZ) (M : MZ) (D : HP) {n : Nat} {k i v : Int32} (hs : SV D n k i v) (x : Int32) : Con d qX3_winsAgainst 0 0 [.ref n, .int x] (xh X M D) (XI x (xh X M D)) := by
  refine Con.of (by decide +kernel) (Nat.le_of_ble_eq_true rfl) ?_
  show Sem d qX3_winsAgainst 0 0 0 [(0, .ref n), (1, .int x)] [] (xh X M D) _
  refine s_iload_n (j := 1) dX3_winsAgainst_0 rfl ?_
  exact e_iret dX3_winsAgainst_1 rfl (by exact ⟨rfl, rfl⟩)

set_option maxRecDepth 100000 in
set_option maxHeartbeats 800000 in
theorem x2_wins (d : Nat) (X : XZ) (M : MZ) (D : HP) {n : Nat} {k i v : Int32} (hs : SV D n k i v) (hk : k = 4) (x : Int32) : Con (d + 1) qX2_winsAgainst 0 0 [.ref n, .int x] (xh X M D) (XI (if 0 < x - v then x - v else 0) (xh X M D)) := by
  refine Con.of (by decide +kernel) (Nat.le_of_ble_eq_true rfl) ?_
  show Sem (d + 1) qX2_winsAgainst 0 0 0 [(0, .ref n), (1, .int x)] [] (xh X M D) _
  refine s_iconst (v := 0) dX2_winsAgainst_0 (by decide) ?_
  refine s_iload_n (j := 1) dX2_winsAgainst_1 rfl ?_
  refine s_aload_nr (j := 0) dX2_winsAgainst_2 rfl ?_
  refine gS_X2_7 hs hk dX2_winsAgainst_3 rfl ?_
  refine s_isub dX2_winsAgainst_6 ?_
  refine s_mmax cs_X2_13 rfl dX2_winsAgainst_7 (Nat.le_of_ble_eq_true rfl) ?_
  exact e_iret dX2_winsAgainst_10 rfl (by exact ⟨rfl, rfl⟩)
