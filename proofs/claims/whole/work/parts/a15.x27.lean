set_option maxRecDepth 100000 in
set_option maxHeartbeats 800000 in
theorem x_tosses0 (d : Nat) (X : XZ) (M : MZ) (D : HP) {n : Nat} {k i v : Int32} (hs : SV D n k i v) (tr : List Int32) (hB : BO X D tr) (hl : tr.length + 1 ≤ 15) (x : Int32) (a b : Nat) : Con (d + 7) qX3_tosses (1 + a) (15 + b) [.ref n, .int x, .ref 38] (xh X M D) (AC X M D tr (x + i, [10])) := by
  refine Con.of (by decide +kernel) (Nat.le_of_ble_eq_true rfl) ?_
  show Sem (d + 7) qX3_tosses (1 + a) (15 + b) 0 [(0, .ref n), (1, .int x), (2, .ref 38)] [] (xh X M D) _
  refine s_aload_nr (j := 2) dX3_tosses_0 rfl ?_
  refine s_bipush (v := 10) dX3_tosses_1 (by decide) ?_
  refine s_S1r cs_X3_28 rfl dX3_tosses_3 (Nat.le_of_ble_eq_true rfl) (j_valueOf _ _ 10 (by decide)) (fun y3 h3 q3 => ?_)
  obtain ⟨rfl, rfl⟩ := q3
  refine s_V1im (mc := 0 + a) (ms := 0 + b) cv_X3_34 rfl dX3_tosses_6 xg_Jx4a65c rfl (Nat.le_of_ble_eq_true rfl) (x_add1 _ X M D tr hB (by omega) 10 (by decide)) (by omega) (by omega) (fun y6 h6 q6 => ?_)
  obtain ⟨X2, D2, rfl, hf2, hb2⟩ := q6
  refine s_pop dX3_tosses_9 rfl ?_
  have hs := hs.fd hf2.2.2.2.2.2
  have hl9 := len1 tr 10
  obtain ⟨Cn9, T9, N9, hcl⟩ := hs.cle
  refine s_iload_n (j := 1) dX3_tosses_10 rfl ?_
  refine s_aload_nr (j := 0) dX3_tosses_11 rfl ?_
  refine gS_X3_13 hs dX3_tosses_12 rfl ?_
  refine s_iadd dX3_tosses_15 ?_
  exact e_iret dX3_tosses_16 rfl (by exact ⟨rfl, X2, D2, rfl, hf2, hb2⟩)

set_option maxRecDepth 100000 in
set_option maxHeartbeats 800000 in
theorem x_tosses8 (d : Nat) (X : XZ) (M : MZ) (D : HP) {n : Nat} {k i v : Int32} (hs : SV D n k i v) (tr : List Int32) (hB : BO X D tr) (hl : tr.length + 2 ≤ 15) (x : Int32) (a b : Nat) : Con (d + 8) qX8_tosses (2 + a) (30 + b) [.ref n, .int x, .ref 38] (xh X M D) (AC X M D tr (x * 3 + i, [30, 10])) := by
  refine Con.of (by decide +kernel) (Nat.le_of_ble_eq_true rfl) ?_
  show Sem (d + 8) qX8_tosses (2 + a) (30 + b) 0 [(0, .ref n), (1, .int x), (2, .ref 38)] [] (xh X M D) _
  refine s_aload_nr (j := 2) dX8_tosses_0 rfl ?_
  refine s_bipush (v := 30) dX8_tosses_1 (by decide) ?_
  refine s_S1r cs_X8_19 rfl dX8_tosses_3 (Nat.le_of_ble_eq_true rfl) (j_valueOf _ _ 30 (by decide)) (fun y3 h3 q3 => ?_)
  obtain ⟨rfl, rfl⟩ := q3
  refine s_V1im (mc := 1 + a) (ms := 15 + b) cv_X8_25 rfl dX8_tosses_6 xg_Jx4a65c rfl (Nat.le_of_ble_eq_true rfl) (x_add1 _ X M D tr hB (by omega) 30 (by decide)) (by omega) (by omega) (fun y6 h6 q6 => ?_)
  obtain ⟨X2, D2, rfl, hf2, hb2⟩ := q6
  refine s_pop dX8_tosses_9 rfl ?_
  have hs := hs.fd hf2.2.2.2.2.2
  have hl9 := len1 tr 30
  obtain ⟨Cn9, T9, N9, hcl⟩ := hs.cle
  refine s_aload_nr (j := 0) dX8_tosses_10 rfl ?_
  refine s_iload_n (j := 1) dX8_tosses_11 rfl ?_
  refine s_iconst (v := 3) dX8_tosses_12 (by decide) ?_
  refine s_imul dX8_tosses_13 ?_
  refine s_aload_nr (j := 2) dX8_tosses_14 rfl ?_
  refine s_P2im (mc := a) (ms := b) cp_X8_31 rfl dX8_tosses_15 (hs.get) hcl (Nat.le_of_ble_eq_true rfl) (x_tosses0 _ X2 M D2 hs (tr ++ [30]) hb2 (by omega) (x * 3) 0 0) (by omega) (by omega) (fun y15 h15 q15 => ?_)
  obtain ⟨rfl, X3, D3, rfl, hf3, hb3⟩ := q15
  exact e_iret dX8_tosses_18 rfl (by exact ⟨rfl, X3, D3, rfl, hf2.tr hf3, hb3.asc⟩)

set_option maxRecDepth 100000 in
set_option maxHeartbeats 800000 in
theorem x_tosses2 (d : Nat) (X : XZ) (M : MZ) (D : HP) {n : Nat} {k i v : Int32} (hs : SV D n k i v) (tr : List Int32) (hB : BO X D tr) (hl : tr.length + 2 ≤ 15) (x : Int32) (a b : Nat) : Con (d + 8) qX2_tosses (2 + a) (30 + b) [.ref n, .int x, .ref 38] (xh X M D) (AC X M D tr (-(x + i), [50, 10])) := by
  refine Con.of (by decide +kernel) (Nat.le_of_ble_eq_true rfl) ?_
  show Sem (d + 8) qX2_tosses (2 + a) (30 + b) 0 [(0, .ref n), (1, .int x), (2, .ref 38)] [] (xh X M D) _
  refine s_aload_nr (j := 2) dX2_tosses_0 rfl ?_
  refine s_bipush (v := 50) dX2_tosses_1 (by decide) ?_
  refine s_S1r cs_X2_19 rfl dX2_tosses_3 (Nat.le_of_ble_eq_true rfl) (j_valueOf _ _ 50 (by decide)) (fun y3 h3 q3 => ?_)
  obtain ⟨rfl, rfl⟩ := q3
  refine s_V1im (mc := 1 + a) (ms := 15 + b) cv_X2_25 rfl dX2_tosses_6 xg_Jx4a65c rfl (Nat.le_of_ble_eq_true rfl) (x_add1 _ X M D tr hB (by omega) 50 (by decide)) (by omega) (by omega) (fun y6 h6 q6 => ?_)
  obtain ⟨X2, D2, rfl, hf2, hb2⟩ := q6
  refine s_pop dX2_tosses_9 rfl ?_
  have hs := hs.fd hf2.2.2.2.2.2
  have hl9 := len1 tr 50
  obtain ⟨Cn9, T9, N9, hcl⟩ := hs.cle
  refine s_aload_nr (j := 0) dX2_tosses_10 rfl ?_
  refine s_iload_n (j := 1) dX2_tosses_11 rfl ?_
  refine s_aload_nr (j := 2) dX2_tosses_12 rfl ?_
  refine s_PX2im (mc := a) (ms := b) cpx_X2_31 rfl dX2_tosses_13 (hs.get) hcl (Nat.le_of_ble_eq_true rfl) (x_tosses0 _ X2 M D2 hs (tr ++ [50]) hb2 (by omega) x 0 0) (by omega) (by omega) (fun y13 h13 q13 => ?_)
  obtain ⟨rfl, X3, D3, rfl, hf3, hb3⟩ := q13
  refine s_ineg dX2_tosses_16 ?_
  exact e_iret dX2_tosses_17 rfl (by exact ⟨rfl, X3, D3, rfl, hf2.tr hf3, hb3.asc⟩)

set_option maxRecDepth 100000 in
set_option maxHeartbeats 800000 in
theorem x_tosses10 (d : Nat) (X : XZ) (M : MZ) (D : HP) {n : Nat} {k i v : Int32} (hs : SV D n k i v) (tr : List Int32) (hB : BO X D tr) (hl : tr.length + 2 ≤ 15) (x : Int32) (a b : Nat) (hk : k = 6) : Con (d + 8) qX10_tosses (2 + a) (30 + b) [.ref n, .int x, .ref 38] (xh X M D) (AC X M D tr ((x + i) ^^^ v, [71, 10])) := by
  refine Con.of (by decide +kernel) (Nat.le_of_ble_eq_true rfl) ?_
  show Sem (d + 8) qX10_tosses (2 + a) (30 + b) 0 [(0, .ref n), (1, .int x), (2, .ref 38)] [] (xh X M D) _
  refine s_aload_nr (j := 2) dX10_tosses_0 rfl ?_
  refine s_bipush (v := 71) dX10_tosses_1 (by decide) ?_
  refine s_S1r cs_X10_24 rfl dX10_tosses_3 (Nat.le_of_ble_eq_true rfl) (j_valueOf _ _ 71 (by decide)) (fun y3 h3 q3 => ?_)
  obtain ⟨rfl, rfl⟩ := q3
  refine s_V1im (mc := 1 + a) (ms := 15 + b) cv_X10_30 rfl dX10_tosses_6 xg_Jx4a65c rfl (Nat.le_of_ble_eq_true rfl) (x_add1 _ X M D tr hB (by omega) 71 (by decide)) (by omega) (by omega) (fun y6 h6 q6 => ?_)
  obtain ⟨X2, D2, rfl, hf2, hb2⟩ := q6
  refine s_pop dX10_tosses_9 rfl ?_
  have hs := hs.fd hf2.2.2.2.2.2
  have hl9 := len1 tr 71
  obtain ⟨Cn9, T9, N9, hcl⟩ := hs.cle
  refine s_aload_nr (j := 0) dX10_tosses_10 rfl ?_
  refine s_iload_n (j := 1) dX10_tosses_11 rfl ?_
  refine s_aload_nr (j := 2) dX10_tosses_12 rfl ?_
  refine s_PX2im (mc := a) (ms := b) cpx_X10_40 rfl dX10_tosses_13 (hs.get) hcl (Nat.le_of_ble_eq_true rfl) (x_tosses0 _ X2 M D2 hs (tr ++ [71]) hb2 (by omega) x 0 0) (by omega) (by omega) (fun y13 h13 q13 => ?_)
  obtain ⟨rfl, X3, D3, rfl, hf3, hb3⟩ := q13
  have hs3 := hs.fd hf3.2.2.2.2.2
  refine s_aload_nr (j := 0) dX10_tosses_16 rfl ?_
  refine gS_X10_43 hs3 hk dX10_tosses_17 rfl ?_
  refine s_ixor dX10_tosses_20 ?_
  exact e_iret dX10_tosses_21 rfl (by exact ⟨rfl, X3, D3, rfl, hf2.tr hf3, hb3.asc⟩)

theorem x_tosses (d : Nat) (X : XZ) (M : MZ) (D : HP) {n : Nat} {k i v : Int32} (hs : SV D n k i v) (tr : List Int32) (hB : BO X D tr) (hl : tr.length + 2 ≤ 15) (x : Int32) (a b : Nat) : Con (d + 8) (Q_tosses k) (2 + a) (30 + b) [.ref n, .int x, .ref 38] (xh X M D) (AC X M D tr (aT k v i x)) := by
  have e0 : 1 + (1 + a) = 2 + a := by omega
  have e1 : 15 + (15 + b) = 30 + b := by omega
  rcases i07 hs.2.2 with rfl | rfl | rfl | rfl | rfl | rfl | rfl
  · have h := x_tosses0 (d + 1) X M D hs tr hB (by omega) x (1 + a) (15 + b)
    rw [e0, e1] at h
    exact h
  · have h := x_tosses0 (d + 1) X M D hs tr hB (by omega) x (1 + a) (15 + b)
    rw [e0, e1] at h
    exact h
  · exact x_tosses8 d X M D hs tr hB hl x a b
  · have h := x_tosses0 (d + 1) X M D hs tr hB (by omega) x (1 + a) (15 + b)
    rw [e0, e1] at h
    exact h
  · exact x_tosses2 d X M D hs tr hB hl x a b
  · exact x_tosses8 d X M D hs tr hB hl x a b
  · exact x_tosses10 d X M D hs tr hB hl x a b rfl
