set_option maxRecDepth 100000 in
set_option maxHeartbeats 800000 in
theorem x_strikes0 (d : Nat) (X : XZ) (M : MZ) (D : HP) {n : Nat} {k i v : Int32} (hs : SV D n k i v) (tr : List Int32) (hB : BO X D tr) (hl : tr.length + 3 ≤ 15) (x : Int32) (a b : Nat) : Con (d + 9) qX3_strikes (3 + a) (45 + b) [.ref n, .int x, .ref 38] (xh X M D) (AC X M D tr (aS0 k v i x)) := by
  refine Con.of (by decide +kernel) (Nat.le_of_ble_eq_true rfl) ?_
  show Sem (d + 9) qX3_strikes (3 + a) (45 + b) 0 [(0, .ref n), (1, .int x), (2, .ref 38)] [] (xh X M D) _
  refine s_aload_nr (j := 2) dX3_strikes_0 rfl ?_
  refine s_bipush (v := 11) dX3_strikes_1 (by decide) ?_
  refine s_S1r cs_X3_28 rfl dX3_strikes_3 (Nat.le_of_ble_eq_true rfl) (j_valueOf _ _ 11 (by decide)) (fun y3 h3 q3 => ?_)
  obtain ⟨rfl, rfl⟩ := q3
  refine s_V1im (mc := 2 + a) (ms := 30 + b) cv_X3_34 rfl dX3_strikes_6 xg_Jx4a65c rfl (Nat.le_of_ble_eq_true rfl) (x_add1 _ X M D tr hB (by omega) 11 (by decide)) (by omega) (by omega) (fun y6 h6 q6 => ?_)
  obtain ⟨X2, D2, rfl, hf2, hb2⟩ := q6
  refine s_pop dX3_strikes_9 rfl ?_
  have hs := hs.fd hf2.2.2.2.2.2
  have hl9 := len1 tr 11
  obtain ⟨Cn9, T9, N9, hcl⟩ := hs.cle
  refine s_aload_nr (j := 0) dX3_strikes_10 rfl ?_
  refine s_iload_n (j := 1) dX3_strikes_11 rfl ?_
  refine s_aload_nr (j := 2) dX3_strikes_12 rfl ?_
  refine u2im_X3_40 (mc := a) (ms := b) hs dX3_strikes_13 rfl (Nat.le_of_ble_eq_true rfl) (x_tosses _ X2 M D2 hs (tr ++ [11]) hb2 (by omega) x 0 0) (by omega) (by omega) (fun y13 h13 q13 => ?_)
  obtain ⟨rfl, X3, D3, rfl, hf3, hb3⟩ := q13
  have hs := hs.fd hf3.2.2.2.2.2
  refine s_aload_nr (j := 0) dX3_strikes_16 rfl ?_
  refine gS_X3_16 hs dX3_strikes_17 rfl ?_
  refine s_isub dX3_strikes_20 ?_
  exact e_iret dX3_strikes_21 rfl (by exact ⟨rfl, X3, D3, rfl, hf2.tr hf3, hb3.asc⟩)

set_option maxRecDepth 100000 in
set_option maxHeartbeats 800000 in
theorem x_strikes1 (d : Nat) (X : XZ) (M : MZ) (D : HP) {n : Nat} {k i v : Int32} (hs : SV D n k i v) (tr : List Int32) (hB : BO X D tr) (hl : tr.length + 4 ≤ 15) (x : Int32) (a b : Nat) : Con (d + 10) qX1_strikes (4 + a) (60 + b) [.ref n, .int x, .ref 38] (xh X M D) (AC X M D tr (aSD k v i x)) := by
  refine Con.of (by decide +kernel) (Nat.le_of_ble_eq_true rfl) ?_
  show Sem (d + 10) qX1_strikes (4 + a) (60 + b) 0 [(0, .ref n), (1, .int x), (2, .ref 38)] [] (xh X M D) _
  refine s_aload_nr (j := 2) dX1_strikes_0 rfl ?_
  refine s_bipush (v := 20) dX1_strikes_1 (by decide) ?_
  refine s_S1r cs_X1_19 rfl dX1_strikes_3 (Nat.le_of_ble_eq_true rfl) (j_valueOf _ _ 20 (by decide)) (fun y3 h3 q3 => ?_)
  obtain ⟨rfl, rfl⟩ := q3
  refine s_V1im (mc := 3 + a) (ms := 45 + b) cv_X1_25 rfl dX1_strikes_6 xg_Jx4a65c rfl (Nat.le_of_ble_eq_true rfl) (x_add1 _ X M D tr hB (by omega) 20 (by decide)) (by omega) (by omega) (fun y6 h6 q6 => ?_)
  obtain ⟨X2, D2, rfl, hf2, hb2⟩ := q6
  refine s_pop dX1_strikes_9 rfl ?_
  have hs := hs.fd hf2.2.2.2.2.2
  have hl9 := len1 tr 20
  obtain ⟨Cn9, T9, N9, hcl⟩ := hs.cle
  refine s_aload_nr (j := 0) dX1_strikes_10 rfl ?_
  refine s_iload_n (j := 1) dX1_strikes_11 rfl ?_
  refine s_aload_nr (j := 2) dX1_strikes_12 rfl ?_
  refine s_P2im (mc := a) (ms := b) cp_X1_31 rfl dX1_strikes_13 (hs.get) hcl (Nat.le_of_ble_eq_true rfl) (x_strikes0 _ X2 M D2 hs (tr ++ [20]) hb2 (by omega) x 0 0) (by omega) (by omega) (fun y13 h13 q13 => ?_)
  obtain ⟨rfl, X3, D3, rfl, hf3, hb3⟩ := q13
  refine s_bipush (v := 6) dX1_strikes_16 (by decide) ?_
  refine s_ixor dX1_strikes_18 ?_
  exact e_iret dX1_strikes_19 rfl (by exact ⟨rfl, X3, D3, rfl, hf2.tr hf3, hb3.asc⟩)

set_option maxRecDepth 100000 in
set_option maxHeartbeats 800000 in
theorem x_strikes2 (d : Nat) (X : XZ) (M : MZ) (D : HP) {n : Nat} {k i v : Int32} (hs : SV D n k i v) (tr : List Int32) (hB : BO X D tr) (hl : tr.length + 5 ≤ 15) (x : Int32) (a b : Nat) : Con (d + 11) qX2_strikes (5 + a) (75 + b) [.ref n, .int x, .ref 38] (xh X M D) (AC X M D tr ((aSD k v i (x + 1)).1, 51 :: (aSD k v i (x + 1)).2)) := by
  refine Con.of (by decide +kernel) (Nat.le_of_ble_eq_true rfl) ?_
  show Sem (d + 11) qX2_strikes (5 + a) (75 + b) 0 [(0, .ref n), (1, .int x), (2, .ref 38)] [] (xh X M D) _
  refine s_aload_nr (j := 2) dX2_strikes_0 rfl ?_
  refine s_bipush (v := 51) dX2_strikes_1 (by decide) ?_
  refine s_S1r cs_X2_19 rfl dX2_strikes_3 (Nat.le_of_ble_eq_true rfl) (j_valueOf _ _ 51 (by decide)) (fun y3 h3 q3 => ?_)
  obtain ⟨rfl, rfl⟩ := q3
  refine s_V1im (mc := 4 + a) (ms := 60 + b) cv_X2_25 rfl dX2_strikes_6 xg_Jx4a65c rfl (Nat.le_of_ble_eq_true rfl) (x_add1 _ X M D tr hB (by omega) 51 (by decide)) (by omega) (by omega) (fun y6 h6 q6 => ?_)
  obtain ⟨X2, D2, rfl, hf2, hb2⟩ := q6
  refine s_pop dX2_strikes_9 rfl ?_
  have hs := hs.fd hf2.2.2.2.2.2
  have hl9 := len1 tr 51
  obtain ⟨Cn9, T9, N9, hcl⟩ := hs.cle
  refine s_aload_nr (j := 0) dX2_strikes_10 rfl ?_
  refine s_iload_n (j := 1) dX2_strikes_11 rfl ?_
  refine s_iconst (v := 1) dX2_strikes_12 (by decide) ?_
  refine s_iadd dX2_strikes_13 ?_
  refine s_aload_nr (j := 2) dX2_strikes_14 rfl ?_
  refine s_P2im (mc := a) (ms := b) cp_X2_35 rfl dX2_strikes_15 (hs.get) hcl (Nat.le_of_ble_eq_true rfl) (x_strikes1 _ X2 M D2 hs (tr ++ [51]) hb2 (by omega) (x + 1) 0 0) (by omega) (by omega) (fun y15 h15 q15 => ?_)
  obtain ⟨rfl, X3, D3, rfl, hf3, hb3⟩ := q15
  exact e_iret dX2_strikes_18 rfl (by exact ⟨rfl, X3, D3, rfl, hf2.tr hf3, hb3.asc⟩)

set_option maxRecDepth 100000 in
set_option maxHeartbeats 800000 in
theorem x_strikes10 (d : Nat) (X : XZ) (M : MZ) (D : HP) {n : Nat} {k i v : Int32} (hs : SV D n k i v) (tr : List Int32) (hB : BO X D tr) (hl : tr.length + 5 ≤ 15) (x : Int32) (a b : Nat) : Con (d + 10) qX10_strikes (5 + a) (75 + b) [.ref n, .int x, .ref 38] (xh X M D) (AC X M D tr ((aS0 k v i x).1 + (2 + i), 70 :: ((aS0 k v i x).2 ++ [10]))) := by
  refine Con.of (by decide +kernel) (Nat.le_of_ble_eq_true rfl) ?_
  show Sem (d + 10) qX10_strikes (5 + a) (75 + b) 0 [(0, .ref n), (1, .int x), (2, .ref 38)] [] (xh X M D) _
  refine s_aload_nr (j := 2) dX10_strikes_0 rfl ?_
  refine s_bipush (v := 70) dX10_strikes_1 (by decide) ?_
  refine s_S1r cs_X10_24 rfl dX10_strikes_3 (Nat.le_of_ble_eq_true rfl) (j_valueOf _ _ 70 (by decide)) (fun y3 h3 q3 => ?_)
  obtain ⟨rfl, rfl⟩ := q3
  refine s_V1im (mc := 4 + a) (ms := 60 + b) cv_X10_30 rfl dX10_strikes_6 xg_Jx4a65c rfl (Nat.le_of_ble_eq_true rfl) (x_add1 _ X M D tr hB (by omega) 70 (by decide)) (by omega) (by omega) (fun y6 h6 q6 => ?_)
  obtain ⟨X2, D2, rfl, hf2, hb2⟩ := q6
  refine s_pop dX10_strikes_9 rfl ?_
  have hs := hs.fd hf2.2.2.2.2.2
  have hl9 := len1 tr 70
  obtain ⟨Cn9, T9, N9, hcl⟩ := hs.cle
  refine s_aload_nr (j := 0) dX10_strikes_10 rfl ?_
  refine s_iload_n (j := 1) dX10_strikes_11 rfl ?_
  refine s_aload_nr (j := 2) dX10_strikes_12 rfl ?_
  refine s_PX2im (mc := 1 + a) (ms := 15 + b) cpx_X10_36 rfl dX10_strikes_13 (hs.get) hcl (Nat.le_of_ble_eq_true rfl) (x_strikes0 _ X2 M D2 hs (tr ++ [70]) hb2 (by omega) x 0 0) (by omega) (by omega) (fun y13 h13 q13 => ?_)
  obtain ⟨rfl, X3, D3, rfl, hf3, hb3⟩ := q13
  have hs3 := hs.fd hf3.2.2.2.2.2
  have hl8 := aS0_len k v i x
  have hl7 : (tr ++ [70] ++ (aS0 k v i x).2).length = (tr ++ [70]).length + (aS0 k v i x).2.length := List.length_append
  refine s_aload_nr (j := 0) dX10_strikes_16 rfl ?_
  refine s_iconst (v := 2) dX10_strikes_17 (by decide) ?_
  refine s_aload_nr (j := 2) dX10_strikes_18 rfl ?_
  refine s_PX2im (mc := a) (ms := b) cpx_X10_40 rfl dX10_strikes_19 (hs3.get) hcl (Nat.le_of_ble_eq_true rfl) (x_tosses0 _ X3 M D3 hs3 (tr ++ [70] ++ (aS0 k v i x).2) hb3 (by omega) 2 0 0) (by omega) (by omega) (fun y19 h19 q19 => ?_)
  obtain ⟨rfl, X4, D4, rfl, hf4, hb4⟩ := q19
  refine s_iadd dX10_strikes_22 ?_
  exact e_iret dX10_strikes_23 rfl (by exact ⟨rfl, X4, D4, rfl, (hf2.tr hf3).tr hf4, hb4.asc.asc2⟩)

theorem x_strikes (d : Nat) (X : XZ) (M : MZ) (D : HP) {n : Nat} {k i v : Int32} (hs : SV D n k i v) (tr : List Int32) (hB : BO X D tr) (hl : tr.length + 5 ≤ 15) (x : Int32) (a b : Nat) : Con (d + 11) (Q_strikes k) (5 + a) (75 + b) [.ref n, .int x, .ref 38] (xh X M D) (AC X M D tr (aS k v i x)) := by
  have e0 : 3 + (2 + a) = 5 + a := by omega
  have e1 : 45 + (30 + b) = 75 + b := by omega
  have e2 : 4 + (1 + a) = 5 + a := by omega
  have e3 : 60 + (15 + b) = 75 + b := by omega
  have h0 := x_strikes0 (d + 2) X M D hs tr hB (by omega) x (2 + a) (30 + b)
  rw [e0, e1] at h0
  rcases i07 hs.2.2 with rfl | rfl | rfl | rfl | rfl | rfl | rfl
  · exact h0
  · have h := x_strikes1 (d + 1) X M D hs tr hB (by omega) x (1 + a) (15 + b)
    rw [e2, e3] at h
    exact h
  · exact h0
  · exact h0
  · exact x_strikes2 d X M D hs tr hB hl x a b
  · exact h0
  · exact x_strikes10 (d + 1) X M D hs tr hB hl x a b

set_option maxRecDepth 100000 in
set_option maxHeartbeats 800000 in
theorem x_tells0 (d : Nat) (X : XZ) (M : MZ) (D : HP) {n : Nat} {k i v : Int32} (hs : SV D n k i v) (tr : List Int32) (hB : BO X D tr) (hl : tr.length + 6 ≤ 15) (x : Int32) (a b : Nat) : Con (d + 12) qX3_tells (6 + a) (90 + b) [.ref n, .int x, .ref 38] (xh X M D) (AC X M D tr (aL0 k v i x)) := by
  refine Con.of (by decide +kernel) (Nat.le_of_ble_eq_true rfl) ?_
  show Sem (d + 12) qX3_tells (6 + a) (90 + b) 0 [(0, .ref n), (1, .int x), (2, .ref 38)] [] (xh X M D) _
  refine s_aload_nr (j := 2) dX3_tells_0 rfl ?_
  refine s_bipush (v := 12) dX3_tells_1 (by decide) ?_
  refine s_S1r cs_X3_28 rfl dX3_tells_3 (Nat.le_of_ble_eq_true rfl) (j_valueOf _ _ 12 (by decide)) (fun y3 h3 q3 => ?_)
  obtain ⟨rfl, rfl⟩ := q3
  refine s_V1im (mc := 5 + a) (ms := 75 + b) cv_X3_34 rfl dX3_tells_6 xg_Jx4a65c rfl (Nat.le_of_ble_eq_true rfl) (x_add1 _ X M D tr hB (by omega) 12 (by decide)) (by omega) (by omega) (fun y6 h6 q6 => ?_)
  obtain ⟨X2, D2, rfl, hf2, hb2⟩ := q6
  refine s_pop dX3_tells_9 rfl ?_
  have hs := hs.fd hf2.2.2.2.2.2
  have hl9 := len1 tr 12
  obtain ⟨Cn9, T9, N9, hcl⟩ := hs.cle
  refine s_aload_nr (j := 0) dX3_tells_10 rfl ?_
  refine s_iload_n (j := 1) dX3_tells_11 rfl ?_
  refine s_aload_nr (j := 2) dX3_tells_12 rfl ?_
  refine u2im_X3_44 (mc := a) (ms := b) hs dX3_tells_13 rfl (Nat.le_of_ble_eq_true rfl) (x_strikes _ X2 M D2 hs (tr ++ [12]) hb2 (by omega) x 0 0) (by omega) (by omega) (fun y13 h13 q13 => ?_)
  obtain ⟨rfl, X3, D3, rfl, hf3, hb3⟩ := q13
  refine s_iconst (v := 2) dX3_tells_16 (by decide) ?_
  refine s_imul dX3_tells_17 ?_
  exact e_iret dX3_tells_18 rfl (by exact ⟨rfl, X3, D3, rfl, hf2.tr hf3, hb3.asc⟩)

set_option maxRecDepth 100000 in
set_option maxHeartbeats 800000 in
theorem x_tells9 (d : Nat) (X : XZ) (M : MZ) (D : HP) {n : Nat} {k i v : Int32} (hs : SV D n k i v) (tr : List Int32) (hB : BO X D tr) (hl : tr.length + 12 ≤ 15) (x : Int32) (a b : Nat) (hk : k = 3 ∨ k = 6) : Con (d + 13) qX9_tells (12 + a) (180 + b) [.ref n, .int x, .ref 38] (xh X M D) (AC X M D tr ((aL0 k v i x).1 + (aS k v i 1).1, 40 :: ((aL0 k v i x).2 ++ (aS k v i 1).2))) := by
  refine Con.of (by decide +kernel) (Nat.le_of_ble_eq_true rfl) ?_
  show Sem (d + 13) qX9_tells (12 + a) (180 + b) 0 [(0, .ref n), (1, .int x), (2, .ref 38)] [] (xh X M D) _
  refine s_aload_nr (j := 2) dX9_tells_0 rfl ?_
  refine s_bipush (v := 40) dX9_tells_1 (by decide) ?_
  refine s_S1r cs_X9_28 rfl dX9_tells_3 (Nat.le_of_ble_eq_true rfl) (j_valueOf _ _ 40 (by decide)) (fun y3 h3 q3 => ?_)
  obtain ⟨rfl, rfl⟩ := q3
  refine s_V1im (mc := 11 + a) (ms := 165 + b) cv_X9_34 rfl dX9_tells_6 xg_Jx4a65c rfl (Nat.le_of_ble_eq_true rfl) (x_add1 _ X M D tr hB (by omega) 40 (by decide)) (by omega) (by omega) (fun y6 h6 q6 => ?_)
  obtain ⟨X2, D2, rfl, hf2, hb2⟩ := q6
  refine s_pop dX9_tells_9 rfl ?_
  have hs := hs.fd hf2.2.2.2.2.2
  have hl9 := len1 tr 40
  obtain ⟨Cn9, T9, N9, hcl⟩ := hs.cle
  refine s_aload_nr (j := 0) dX9_tells_10 rfl ?_
  refine s_iload_n (j := 1) dX9_tells_11 rfl ?_
  refine s_aload_nr (j := 2) dX9_tells_12 rfl ?_
  refine s_P2im (mc := 5 + a) (ms := 75 + b) cp_X9_40 rfl dX9_tells_13 (hs.get) hcl (Nat.le_of_ble_eq_true rfl) (x_tells0 _ X2 M D2 hs (tr ++ [40]) hb2 (by omega) x 0 0) (by omega) (by omega) (fun y13 h13 q13 => ?_)
  obtain ⟨rfl, X3, D3, rfl, hf3, hb3⟩ := q13
  have hs3 := hs.fd hf3.2.2.2.2.2
  have hl8 := aL0_len k v i x
  have hl7 : (tr ++ [40] ++ (aL0 k v i x).2).length = (tr ++ [40]).length + (aL0 k v i x).2.length := List.length_append
  refine s_aload_nr (j := 0) dX9_tells_16 rfl ?_
  refine s_iconst (v := 1) dX9_tells_17 (by decide) ?_
  refine s_aload_nr (j := 2) dX9_tells_18 rfl ?_
  refine u2im_X9_44 (mc := a) (ms := b) hs3 hk dX9_tells_19 rfl (Nat.le_of_ble_eq_true rfl) (x_strikes _ X3 M D3 hs3 (tr ++ [40] ++ (aL0 k v i x).2) hb3 (by omega) 1 0 0) (by omega) (by omega) (fun y19 h19 q19 => ?_)
  obtain ⟨rfl, X4, D4, rfl, hf4, hb4⟩ := q19
  refine s_iadd dX9_tells_22 ?_
  exact e_iret dX9_tells_23 rfl (by exact ⟨rfl, X4, D4, rfl, (hf2.tr hf3).tr hf4, hb4.asc.asc2⟩)

set_option maxRecDepth 100000 in
set_option maxHeartbeats 800000 in
theorem x_tells5 (d : Nat) (X : XZ) (M : MZ) (D : HP) {n : Nat} {k i v : Int32} (hs : SV D n k i v) (tr : List Int32) (hB : BO X D tr) (hl : tr.length + 7 ≤ 15) (x : Int32) (a b : Nat) (hk : k = 5) : Con (d + 13) qX5_tells (7 + a) (105 + b) [.ref n, .int x, .ref 38] (xh X M D) (AC X M D tr ((aL0 k v i (x - i)).1, 60 :: (aL0 k v i (x - i)).2)) := by
  refine Con.of (by decide +kernel) (Nat.le_of_ble_eq_true rfl) ?_
  show Sem (d + 13) qX5_tells (7 + a) (105 + b) 0 [(0, .ref n), (1, .int x), (2, .ref 38)] [] (xh X M D) _
  refine s_aload_nr (j := 2) dX5_tells_0 rfl ?_
  refine s_bipush (v := 60) dX5_tells_1 (by decide) ?_
  refine s_S1r cs_X5_29 rfl dX5_tells_3 (Nat.le_of_ble_eq_true rfl) (j_valueOf _ _ 60 (by decide)) (fun y3 h3 q3 => ?_)
  obtain ⟨rfl, rfl⟩ := q3
  refine s_V1im (mc := 6 + a) (ms := 90 + b) cv_X5_35 rfl dX5_tells_6 xg_Jx4a65c rfl (Nat.le_of_ble_eq_true rfl) (x_add1 _ X M D tr hB (by omega) 60 (by decide)) (by omega) (by omega) (fun y6 h6 q6 => ?_)
  obtain ⟨X2, D2, rfl, hf2, hb2⟩ := q6
  refine s_pop dX5_tells_9 rfl ?_
  have hs := hs.fd hf2.2.2.2.2.2
  have hl9 := len1 tr 60
  obtain ⟨Cn9, T9, N9, hcl⟩ := hs.cle
  refine s_aload_nr (j := 0) dX5_tells_10 rfl ?_
  refine s_iload_n (j := 1) dX5_tells_11 rfl ?_
  refine s_aload_nr (j := 0) dX5_tells_12 rfl ?_
  refine gS_X5_20 hs hk dX5_tells_13 rfl ?_
  refine s_isub dX5_tells_16 ?_
  refine s_aload_nr (j := 2) dX5_tells_17 rfl ?_
  refine s_PX2im (mc := a) (ms := b) cpx_X5_41 rfl dX5_tells_18 (hs.get) hcl (Nat.le_of_ble_eq_true rfl) (x_tells0 _ X2 M D2 hs (tr ++ [60]) hb2 (by omega) (x - i) 0 0) (by omega) (by omega) (fun y18 h18 q18 => ?_)
  obtain ⟨rfl, X3, D3, rfl, hf3, hb3⟩ := q18
  exact e_iret dX5_tells_21 rfl (by exact ⟨rfl, X3, D3, rfl, hf2.tr hf3, hb3.asc⟩)

theorem x_tells (d : Nat) (X : XZ) (M : MZ) (D : HP) {n : Nat} {k i v : Int32} (hs : SV D n k i v) (tr : List Int32) (hB : BO X D tr) (hl : tr.length + 12 ≤ 15) (x : Int32) (a b : Nat) : Con (d + 13) (Q_tells k) (12 + a) (180 + b) [.ref n, .int x, .ref 38] (xh X M D) (AC X M D tr (aL k v i x)) := by
  have e0 : 6 + (6 + a) = 12 + a := by omega
  have e1 : 90 + (90 + b) = 180 + b := by omega
  have e2 : 7 + (5 + a) = 12 + a := by omega
  have e3 : 105 + (75 + b) = 180 + b := by omega
  have h0 := x_tells0 (d + 1) X M D hs tr hB (by omega) x (6 + a) (90 + b)
  rw [e0, e1] at h0
  rcases i07 hs.2.2 with rfl | rfl | rfl | rfl | rfl | rfl | rfl
  · exact h0
  · exact h0
  · exact h0
  · exact x_tells9 d X M D hs tr hB hl x a b (Or.inl rfl)
  · exact h0
  · have h := x_tells5 d X M D hs tr hB (by omega) x (5 + a) (75 + b) rfl
    rw [e2, e3] at h
    exact h
  · exact x_tells9 d X M D hs tr hB hl x a b (Or.inr rfl)
