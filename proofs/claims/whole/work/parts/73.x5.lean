theorem add_sub3 (a b c : Int32) : a + (b - c) = a + b - c := by rw [Int32.sub_eq_add_neg, Int32.sub_eq_add_neg, Int32.add_assoc]
theorem i4_eq {x : Int32} (h : 0 ≤ x ∧ x ≤ 4) (h4 : 4 ≤ x) : x = 4 := Int32.le_antisymm h.2 h4

set_option maxRecDepth 100000 in
set_option maxHeartbeats 800000 in
theorem x_inOf (d : Nat) (X : XZ) (M : MZ) (D : HP) {w : Nat} (hw : w < 3) {K : MZ} (hR : SR X D w K) (hK : KI K) {cl : CLs} (hC : CX X K cl) {n : Nat} {p : Int32} (hs : SV D n (K.2.1 0 (pz p)) p (K.2.1 1 (pz p))) (hp : vp_in p 4) (f : Int32) : Con (d + 3) qX4_inOf 0 0 [.ref (1 + 11 * w), .ref n, .int f] (xh X M D) (PI fun y h => y = sIn K cl p f ∧ ∃ g, h = xh (xlt X w g) M D) := by
  refine Con.of (by decide +kernel) (Nat.le_of_ble_eq_true rfl) ?_
  show Sem (d + 3) qX4_inOf 0 0 0 [(0, .ref (1 + 11 * w)), (1, .ref n), (2, .int f)] [] (xh X M D) _
  rcases hC.at hR with ⟨hv, rfl⟩ | ⟨c, hc, hv, hX⟩
  · skip
    refine s_aload_nr (j := 0) dX4_inOf_0 rfl ?_
    refine gX_X4_80 (w := w) hw dX4_inOf_1 rfl ?_
    refine s_topv (hv) ?_
    refine s_ifnonnull0 dX4_inOf_4 ?_
    refine s_iconst (v := 0) dX4_inOf_7 (by decide) ?_
    refine s_goto dX4_inOf_8 (tgt := 25) (by decide) ?_
    refine s_istore_n dX4_inOf_25 (by decide) rfl ?_
    refine s_bipush (v := 95) dX4_inOf_26 (by decide) ?_
    refine s_bipush (v := 6) dX4_inOf_28 (by decide) ?_
    refine s_iload_n (j := 3) dX4_inOf_30 rfl ?_
    refine s_imul dX4_inOf_31 ?_
    refine s_isub dX4_inOf_32 ?_
    refine s_iload_n (j := 0) dX4_inOf_33 rfl ?_
    refine s_iadd dX4_inOf_34 ?_
    refine s_S1i cs_X4_101 rfl dX4_inOf_35 (Nat.le_of_ble_eq_true rfl) (x_percent _ _ _) (fun y35 h35 q35 => ?_)
    obtain ⟨rfl, rfl⟩ := q35
    exact e_iret dX4_inOf_38 rfl (by exact ⟨by show pct _ = pct (95 - 6 * f + 0 - 0); rw [Int32.sub_zero], _, congrArg (fun z => xh z M D) (xlt_id X w).symm⟩)
  · skip
    refine s_aload_nr (j := 0) dX4_inOf_0 rfl ?_
    refine gX_X4_80 (w := w) hw dX4_inOf_1 rfl ?_
    refine s_topv (hv) ?_
    refine s_ifnonnullr dX4_inOf_4 (tgt := 11) (by decide) ?_
    refine s_aload_nr (j := 0) dX4_inOf_11 rfl ?_
    refine gX_X4_80 (w := w) hw dX4_inOf_12 rfl ?_
    refine s_topv (hv) ?_
    refine s_iconst (v := 0) dX4_inOf_15 (by decide) ?_
    refine s_aload_nr (j := 0) dX4_inOf_16 rfl ?_
    refine s_aload_nr (j := 1) dX4_inOf_17 rfl ?_
    refine s_iload_n (j := 2) dX4_inOf_18 rfl ?_
    refine s_V2r cv_X4_93 rfl dX4_inOf_19 (xg_X4 (w := w) hw) rfl (Nat.le_of_ble_eq_true rfl) (x_letters _ X M D hw hR hs f) (fun y19 h19 q19 => ?_)
    obtain ⟨rfl, g, hL, rfl⟩ := q19
    refine s_V2i cv_X4_97 rfl dX4_inOf_22 (xg_X0 (c := c) hc) rfl (Nat.le_of_ble_eq_true rfl) (x_together _ (xlt X w g) M D hw hc K p f 0 (by rw [xlt_l]; exact hL) cl (hX.lt hw) hC.1) (fun y22 h22 q22 => ?_)
    obtain ⟨rfl, rfl⟩ := q22
    refine s_istore_n dX4_inOf_25 (by decide) rfl ?_
    refine s_bipush (v := 95) dX4_inOf_26 (by decide) ?_
    refine s_bipush (v := 6) dX4_inOf_28 (by decide) ?_
    refine s_iload_n (j := 3) dX4_inOf_30 rfl ?_
    refine s_imul dX4_inOf_31 ?_
    refine s_isub dX4_inOf_32 ?_
    refine s_iload_n (j := 0) dX4_inOf_33 rfl ?_
    refine s_iadd dX4_inOf_34 ?_
    refine s_S1i cs_X4_101 rfl dX4_inOf_35 (Nat.le_of_ble_eq_true rfl) (x_percent _ _ _) (fun y35 h35 q35 => ?_)
    obtain ⟨rfl, rfl⟩ := q35
    exact e_iret dX4_inOf_38 rfl (by exact ⟨by unfold sIn; rw [tog0 K p f (fun r hr => (hC.1.2 r hr).1), add_sub3], _, rfl⟩)

set_option maxRecDepth 100000 in
set_option maxHeartbeats 800000 in
theorem x_winsOf (d : Nat) (X : XZ) (M : MZ) (D : HP) {w : Nat} (hw : w < 3) {K : MZ} (hR : SR X D w K) (hK : KI K) {cl : CLs} (hC : CX X K cl) {n : Nat} {p : Int32} (hs : SV D n (K.2.1 0 (pz p)) p (K.2.1 1 (pz p))) (hp : vp_in p 4) (f : Int32) : Con (d + 3) qX4_winsOf 0 0 [.ref (1 + 11 * w), .ref n, .int f] (xh X M D) (PI fun y h => y = sWn K cl p f ∧ ∃ g, h = xh (xlt X w g) M D) := by
  refine Con.of (by decide +kernel) (Nat.le_of_ble_eq_true rfl) ?_
  show Sem (d + 3) qX4_winsOf 0 0 0 [(0, .ref (1 + 11 * w)), (1, .ref n), (2, .int f)] [] (xh X M D) _
  rcases hC.at hR with ⟨hv, rfl⟩ | ⟨c, hc, hv, hX⟩
  · skip
    refine s_aload_nr (j := 0) dX4_winsOf_0 rfl ?_
    refine gX_X4_80 (w := w) hw dX4_winsOf_1 rfl ?_
    refine s_topv (hv) ?_
    refine s_ifnonnull0 dX4_winsOf_4 ?_
    refine s_iconst (v := 0) dX4_winsOf_7 (by decide) ?_
    refine s_goto dX4_winsOf_8 (tgt := 25) (by decide) ?_
    refine s_istore_n dX4_winsOf_25 (by decide) rfl ?_
    refine s_aload_nr (j := 2) dX4_winsOf_26 rfl ?_
    refine s_bipush (v := 40) dX4_winsOf_27 (by decide) ?_
    refine s_iconst (v := 5) dX4_winsOf_29 (by decide) ?_
    refine s_iload_n (j := 3) dX4_winsOf_30 rfl ?_
    refine s_imul dX4_winsOf_31 ?_
    refine s_iadd dX4_winsOf_32 ?_
    refine s_iload_n (j := 0) dX4_winsOf_33 rfl ?_
    refine s_iadd dX4_winsOf_34 ?_
    refine s_S1i cs_X4_101 rfl dX4_winsOf_35 (Nat.le_of_ble_eq_true rfl) (x_percent _ _ _) (fun y35 h35 q35 => ?_)
    obtain ⟨rfl, rfl⟩ := q35
    refine u1i_X4_105 hs dX4_winsOf_38 rfl (Nat.le_of_ble_eq_true rfl) (x_wins _ _ M D hs _) (fun y38 h38 q38 => ?_)
    obtain ⟨rfl, rfl⟩ := q38
    exact e_iret dX4_winsOf_41 rfl (by exact ⟨wn_eq (f := f) (a := 0) rfl (hK.2.2.2.2 _ (pz_lt hp)).1, _, congrArg (fun z => xh z M D) (xlt_id X w).symm⟩)
  · skip
    refine s_aload_nr (j := 0) dX4_winsOf_0 rfl ?_
    refine gX_X4_80 (w := w) hw dX4_winsOf_1 rfl ?_
    refine s_topv (hv) ?_
    refine s_ifnonnullr dX4_winsOf_4 (tgt := 11) (by decide) ?_
    refine s_aload_nr (j := 0) dX4_winsOf_11 rfl ?_
    refine gX_X4_80 (w := w) hw dX4_winsOf_12 rfl ?_
    refine s_topv (hv) ?_
    refine s_iconst (v := 1) dX4_winsOf_15 (by decide) ?_
    refine s_aload_nr (j := 0) dX4_winsOf_16 rfl ?_
    refine s_aload_nr (j := 1) dX4_winsOf_17 rfl ?_
    refine s_iload_n (j := 2) dX4_winsOf_18 rfl ?_
    refine s_V2r cv_X4_93 rfl dX4_winsOf_19 (xg_X4 (w := w) hw) rfl (Nat.le_of_ble_eq_true rfl) (x_letters _ X M D hw hR hs f) (fun y19 h19 q19 => ?_)
    obtain ⟨rfl, g, hL, rfl⟩ := q19
    refine s_V2i cv_X4_97 rfl dX4_winsOf_22 (xg_X0 (c := c) hc) rfl (Nat.le_of_ble_eq_true rfl) (x_together _ (xlt X w g) M D hw hc K p f 1 (by rw [xlt_l]; exact hL) cl (hX.lt hw) hC.1) (fun y22 h22 q22 => ?_)
    obtain ⟨rfl, rfl⟩ := q22
    refine s_istore_n dX4_winsOf_25 (by decide) rfl ?_
    refine s_aload_nr (j := 2) dX4_winsOf_26 rfl ?_
    refine s_bipush (v := 40) dX4_winsOf_27 (by decide) ?_
    refine s_iconst (v := 5) dX4_winsOf_29 (by decide) ?_
    refine s_iload_n (j := 3) dX4_winsOf_30 rfl ?_
    refine s_imul dX4_winsOf_31 ?_
    refine s_iadd dX4_winsOf_32 ?_
    refine s_iload_n (j := 0) dX4_winsOf_33 rfl ?_
    refine s_iadd dX4_winsOf_34 ?_
    refine s_S1i cs_X4_101 rfl dX4_winsOf_35 (Nat.le_of_ble_eq_true rfl) (x_percent _ _ _) (fun y35 h35 q35 => ?_)
    obtain ⟨rfl, rfl⟩ := q35
    refine u1i_X4_105 hs dX4_winsOf_38 rfl (Nat.le_of_ble_eq_true rfl) (x_wins _ _ M D hs _) (fun y38 h38 q38 => ?_)
    obtain ⟨rfl, rfl⟩ := q38
    exact e_iret dX4_winsOf_41 rfl (by exact ⟨wn_eq (tog1 K p f (fun r hr => (hC.1.2 r hr).1)) (hK.2.2.2.2 _ (pz_lt hp)).1, _, rfl⟩)

set_option maxRecDepth 100000 in
set_option maxHeartbeats 800000 in
theorem x_chanceBy (d : Nat) (X : XZ) (M : MZ) (D : HP) {w : Nat} (hw : w < 3) {K : MZ} (hR : SR X D w K) (hK : KI K) {cl : CLs} (hC : CX X K cl) {n : Nat} {p : Int32} (hs : SV D n (K.2.1 0 (pz p)) p (K.2.1 1 (pz p))) (hp : vp_in p 4) (a b : Int32) : Con (d + 4) qX4_chanceBy 0 0 [.ref (1 + 11 * w), .ref n, .int a, .int b] (xh X M D) (PI fun y h => y = sCh K cl p a b ∧ ∃ g, h = xh (xlt X w g) M D) := by
  refine Con.of (by decide +kernel) (Nat.le_of_ble_eq_true rfl) ?_
  show Sem (d + 4) qX4_chanceBy 0 0 0 [(0, .ref (1 + 11 * w)), (1, .ref n), (2, .int a), (3, .int b)] [] (xh X M D) _
  refine s_aload_nr (j := 0) dX4_chanceBy_0 rfl ?_
  refine s_aload_nr (j := 1) dX4_chanceBy_1 rfl ?_
  refine s_iload_n (j := 2) dX4_chanceBy_2 rfl ?_
  refine s_V2i cv_X4_120 rfl dX4_chanceBy_3 (xg_X4 (w := w) hw) rfl (Nat.le_of_ble_eq_true rfl) (x_inOf _ X M D hw hR hK hC hs hp _) (fun y3 h3 q3 => ?_)
  obtain ⟨rfl, g0, rfl⟩ := q3
  refine s_aload_nr (j := 0) dX4_chanceBy_6 rfl ?_
  refine s_aload_nr (j := 1) dX4_chanceBy_7 rfl ?_
  refine s_iload_n (j := 2) dX4_chanceBy_8 rfl ?_
  refine s_V2i cv_X4_124 rfl dX4_chanceBy_9 (xg_X4 (w := w) hw) rfl (Nat.le_of_ble_eq_true rfl) (x_winsOf _ (xlt X w g0) M D hw hR.lt hK (hC.lt hw) hs hp _) (fun y9 h9 q9 => ?_)
  obtain ⟨rfl, g1, rfl⟩ := q9
  rw [xlt_2]
  refine s_aload_nr (j := 0) dX4_chanceBy_12 rfl ?_
  refine s_aload_nr (j := 1) dX4_chanceBy_13 rfl ?_
  refine s_iload_n (j := 3) dX4_chanceBy_14 rfl ?_
  refine s_V2i cv_X4_120 rfl dX4_chanceBy_15 (xg_X4 (w := w) hw) rfl (Nat.le_of_ble_eq_true rfl) (x_inOf _ (xlt X w g1) M D hw hR.lt hK (hC.lt hw) hs hp _) (fun y15 h15 q15 => ?_)
  obtain ⟨rfl, g2, rfl⟩ := q15
  rw [xlt_2]
  refine s_aload_nr (j := 0) dX4_chanceBy_18 rfl ?_
  refine s_aload_nr (j := 1) dX4_chanceBy_19 rfl ?_
  refine s_iload_n (j := 3) dX4_chanceBy_20 rfl ?_
  refine s_V2i cv_X4_124 rfl dX4_chanceBy_21 (xg_X4 (w := w) hw) rfl (Nat.le_of_ble_eq_true rfl) (x_winsOf _ (xlt X w g2) M D hw hR.lt hK (hC.lt hw) hs hp _) (fun y21 h21 q21 => ?_)
  obtain ⟨rfl, g3, rfl⟩ := q21
  rw [xlt_2]
  refine s_S4i cs_X4_127 rfl dX4_chanceBy_24 (Nat.le_of_ble_eq_true rfl) (x_two _ _ _ _ _ _) (fun y24 h24 q24 => ?_)
  obtain ⟨rfl, rfl⟩ := q24
  exact e_iret dX4_chanceBy_27 rfl (by exact ⟨rfl, _, rfl⟩)

set_option maxRecDepth 100000 in
set_option maxHeartbeats 800000 in
theorem x_chanceOf (d : Nat) (X : XZ) (M : MZ) (D : HP) {w : Nat} (hw : w < 3) {K : MZ} (hR : SR X D w K) (hK : KI K) {cl : CLs} (hC : CX X K cl) {n : Nat} {p : Int32} (hs : SV D n (K.2.1 0 (pz p)) p (K.2.1 1 (pz p))) (hp : vp_in p 4) : Con (d + 5) qX4_chanceOf 0 0 [.ref (1 + 11 * w), .ref n] (xh X M D) (PI fun y h => y = sNow K cl p ∧ ∃ g, h = xh (xlt X w g) M D) := by
  refine Con.of (by decide +kernel) (Nat.le_of_ble_eq_true rfl) ?_
  show Sem (d + 5) qX4_chanceOf 0 0 0 [(0, .ref (1 + 11 * w)), (1, .ref n)] [] (xh X M D) _
  refine s_aload_nr (j := 0) dX4_chanceOf_0 rfl ?_
  refine s_aload_nr (j := 1) dX4_chanceOf_1 rfl ?_
  refine s_aload_nr (j := 1) dX4_chanceOf_2 rfl ?_
  refine s_aload_nr (j := 0) dX4_chanceOf_3 rfl ?_
  refine u1i_X4_131 hs dX4_chanceOf_4 rfl (Nat.le_of_ble_eq_true rfl) (x_first _ X M D hw hR hK hs hp) (fun y4 h4 q4 => ?_)
  obtain ⟨rfl, rfl⟩ := q4
  refine s_aload_nr (j := 1) dX4_chanceOf_7 rfl ?_
  refine s_aload_nr (j := 0) dX4_chanceOf_8 rfl ?_
  refine u1i_X4_135 hs dX4_chanceOf_9 rfl (Nat.le_of_ble_eq_true rfl) (x_second _ X M D hw hR hs hp) (fun y9 h9 q9 => ?_)
  obtain ⟨rfl, rfl⟩ := q9
  refine s_V3i cv_X4_138 rfl dX4_chanceOf_12 (xg_X4 (w := w) hw) rfl (Nat.le_of_ble_eq_true rfl) (x_chanceBy _ X M D hw hR hK hC hs hp _ _) (fun y12 h12 q12 => ?_)
  obtain ⟨rfl, g, rfl⟩ := q12
  exact e_iret dX4_chanceOf_15 rfl (by exact ⟨rfl, _, rfl⟩)

set_option maxRecDepth 100000 in
set_option maxHeartbeats 800000 in
theorem x_faultsBy (d : Nat) (X : XZ) (M : MZ) (D : HP) {w : Nat} (hw : w < 3) {K : MZ} (hR : SR X D w K) (hK : KI K) {cl : CLs} (hC : CX X K cl) {n : Nat} {p : Int32} (hs : SV D n (K.2.1 0 (pz p)) p (K.2.1 1 (pz p))) (hp : vp_in p 4) (a b : Int32) : Con (d + 4) qX4_faultsBy 0 0 [.ref (1 + 11 * w), .ref n, .int a, .int b] (xh X M D) (PI fun y h => y = sFa K cl p a b ∧ ∃ g, h = xh (xlt X w g) M D) := by
  refine Con.of (by decide +kernel) (Nat.le_of_ble_eq_true rfl) ?_
  show Sem (d + 4) qX4_faultsBy 0 0 0 [(0, .ref (1 + 11 * w)), (1, .ref n), (2, .int a), (3, .int b)] [] (xh X M D) _
  refine s_bipush (v := 100) dX4_faultsBy_0 (by decide) ?_
  refine s_aload_nr (j := 0) dX4_faultsBy_2 rfl ?_
  refine s_aload_nr (j := 1) dX4_faultsBy_3 rfl ?_
  refine s_iload_n (j := 2) dX4_faultsBy_4 rfl ?_
  refine s_V2i cv_X4_120 rfl dX4_faultsBy_5 (xg_X4 (w := w) hw) rfl (Nat.le_of_ble_eq_true rfl) (x_inOf _ X M D hw hR hK hC hs hp _) (fun y5 h5 q5 => ?_)
  obtain ⟨rfl, g0, rfl⟩ := q5
  refine s_isub dX4_faultsBy_8 ?_
  refine s_bipush (v := 100) dX4_faultsBy_9 (by decide) ?_
  refine s_aload_nr (j := 0) dX4_faultsBy_11 rfl ?_
  refine s_aload_nr (j := 1) dX4_faultsBy_12 rfl ?_
  refine s_iload_n (j := 3) dX4_faultsBy_13 rfl ?_
  refine s_V2i cv_X4_120 rfl dX4_faultsBy_14 (xg_X4 (w := w) hw) rfl (Nat.le_of_ble_eq_true rfl) (x_inOf _ (xlt X w g0) M D hw hR.lt hK (hC.lt hw) hs hp _) (fun y14 h14 q14 => ?_)
  obtain ⟨rfl, g1, rfl⟩ := q14
  rw [xlt_2]
  refine s_isub dX4_faultsBy_17 ?_
  refine s_imul dX4_faultsBy_18 ?_
  exact e_iret dX4_faultsBy_19 rfl (by exact ⟨rfl, _, rfl⟩)

set_option maxRecDepth 100000 in
set_option maxHeartbeats 800000 in
theorem x_winsP (d : Nat) (X : XZ) (M : MZ) (D : HP) {w : Nat} (hw : w < 3) {K : MZ} (hR : SR X D w K) (hK : KI K) {cl : CLs} (hC : CX X K cl) {n : Nat} {p : Int32} (hs : SV D n (K.2.1 0 (pz p)) p (K.2.1 1 (pz p))) (hp : vp_in p 4) (a b : Int32) : Con (d + 5) qX4_wins 0 0 [.ref (1 + 11 * w), .ref n, .int a, .int b] (xh X M D) (PI fun y h => y = b2i (goW K cl p a b = true) ∧ ∃ g, h = xh (xlt X w g) M D) := by
  refine Con.of (by decide +kernel) (Nat.le_of_ble_eq_true rfl) ?_
  show Sem (d + 5) qX4_wins 0 0 0 [(0, .ref (1 + 11 * w)), (1, .ref n), (2, .int a), (3, .int b)] [] (xh X M D) _
  refine s_aload_nr (j := 1) dX4_wins_0 rfl ?_
  refine s_aload_nr (j := 0) dX4_wins_1 rfl ?_
  refine u1i_X4_131 hs dX4_wins_2 rfl (Nat.le_of_ble_eq_true rfl) (x_first _ X M D hw hR hK hs hp) (fun y2 h2 q2 => ?_)
  obtain ⟨rfl, rfl⟩ := q2
  refine s_istore dX4_wins_5 (by decide) rfl ?_
  refine s_iload_n (j := 3) dX4_wins_7 rfl ?_
  refine s_aload_nr (j := 1) dX4_wins_8 rfl ?_
  refine s_aload_nr (j := 2) dX4_wins_9 rfl ?_
  refine s_iload (j := 0) dX4_wins_10 rfl ?_
  refine s_V2i cv_X4_120 rfl dX4_wins_12 (xg_X4 (w := w) hw) rfl (Nat.le_of_ble_eq_true rfl) (x_inOf _ X M D hw hR hK hC hs hp _) (fun y12 h12 q12 => ?_)
  obtain ⟨rfl, g0, rfl⟩ := q12
  refine s_icmp_ge dX4_wins_15 (tgt := 35) (by decide) (fun c15 => ?_) (fun c15 => ?_)
  · refine s_aload_nr (j := 2) dX4_wins_35 rfl ?_
    refine s_aload_nr (j := 1) dX4_wins_36 rfl ?_
    refine u1i_X4_135 hs dX4_wins_37 rfl (Nat.le_of_ble_eq_true rfl) (x_second _ (xlt X w g0) M D hw hR.lt hs hp) (fun y37 h37 q37 => ?_)
    obtain ⟨rfl, rfl⟩ := q37
    refine s_istore dX4_wins_40 (by decide) rfl ?_
    refine s_iload_n (j := 5) dX4_wins_42 rfl ?_
    refine s_aload_nr (j := 2) dX4_wins_43 rfl ?_
    refine s_aload_nr (j := 3) dX4_wins_44 rfl ?_
    refine s_iload (j := 0) dX4_wins_45 rfl ?_
    refine s_V2i cv_X4_120 rfl dX4_wins_47 (xg_X4 (w := w) hw) rfl (Nat.le_of_ble_eq_true rfl) (x_inOf _ (xlt X w g0) M D hw hR.lt hK (hC.lt hw) hs hp _) (fun y47 h47 q47 => ?_)
    obtain ⟨rfl, g1, rfl⟩ := q47
    rw [xlt_2]
    refine s_icmp_ge dX4_wins_50 (tgt := 73) (by decide) (fun c50 => ?_) (fun c50 => ?_)
    · refine s_iconst (v := 0) dX4_wins_73 (by decide) ?_
      exact e_zret dX4_wins_74 rfl (by first | rfl | exact b2i_z | decide) (by exact ⟨(b2i_f (by unfold goW; rw [if_pos c15]; rw [decide_eq_true c50]; simp)).symm, _, rfl⟩)
    · refine s_iload_n (j := 4) dX4_wins_53 rfl ?_
      refine s_iload_n (j := 5) dX4_wins_54 rfl ?_
      refine s_iadd dX4_wins_55 ?_
      refine s_bipush (v := 100) dX4_wins_56 (by decide) ?_
      refine s_irem dX4_wins_58 (by decide) ?_
      refine s_aload_nr (j := 2) dX4_wins_59 rfl ?_
      refine s_aload_nr (j := 3) dX4_wins_60 rfl ?_
      refine s_iload (j := 0) dX4_wins_61 rfl ?_
      refine s_V2i cv_X4_124 rfl dX4_wins_63 (xg_X4 (w := w) hw) rfl (Nat.le_of_ble_eq_true rfl) (x_winsOf _ (xlt X w g1) M D hw hR.lt hK (hC.lt hw) hs hp _) (fun y63 h63 q63 => ?_)
      obtain ⟨rfl, g2, rfl⟩ := q63
      rw [xlt_2]
      refine s_icmp_ge dX4_wins_66 (tgt := 73) (by decide) (fun c66 => ?_) (fun c66 => ?_)
      · refine s_iconst (v := 0) dX4_wins_73 (by decide) ?_
        exact e_zret dX4_wins_74 rfl (by first | rfl | exact b2i_z | decide) (by exact ⟨(b2i_f (by unfold goW; rw [if_pos c15]; rw [decide_eq_true c66]; simp)).symm, _, rfl⟩)
      · refine s_iconst (v := 1) dX4_wins_69 (by decide) ?_
        refine s_goto dX4_wins_70 (tgt := 74) (by decide) ?_
        exact e_zret dX4_wins_74 rfl (by first | rfl | exact b2i_z | decide) (by exact ⟨(b2i_t (by unfold goW; rw [if_pos c15]; rw [decide_eq_false c50, decide_eq_false c66]; rfl)).symm, _, rfl⟩)
  · refine s_iload_n (j := 4) dX4_wins_18 rfl ?_
    refine s_aload_nr (j := 1) dX4_wins_19 rfl ?_
    refine s_aload_nr (j := 2) dX4_wins_20 rfl ?_
    refine s_iload (j := 0) dX4_wins_21 rfl ?_
    refine s_V2i cv_X4_124 rfl dX4_wins_23 (xg_X4 (w := w) hw) rfl (Nat.le_of_ble_eq_true rfl) (x_winsOf _ (xlt X w g0) M D hw hR.lt hK (hC.lt hw) hs hp _) (fun y23 h23 q23 => ?_)
    obtain ⟨rfl, g1, rfl⟩ := q23
    rw [xlt_2]
    refine s_icmp_ge dX4_wins_26 (tgt := 33) (by decide) (fun c26 => ?_) (fun c26 => ?_)
    · refine s_iconst (v := 0) dX4_wins_33 (by decide) ?_
      exact e_zret dX4_wins_34 rfl (by first | rfl | exact b2i_z | decide) (by exact ⟨(b2i_f (by unfold goW; rw [if_neg (Int32.not_le.mpr (Int32.not_le.mp c15))]; rw [decide_eq_true c26]; decide)).symm, _, rfl⟩)
    · refine s_iconst (v := 1) dX4_wins_29 (by decide) ?_
      refine s_goto dX4_wins_30 (tgt := 34) (by decide) ?_
      exact e_zret dX4_wins_34 rfl (by first | rfl | exact b2i_z | decide) (by exact ⟨(b2i_t (by unfold goW; rw [if_neg (Int32.not_le.mpr (Int32.not_le.mp c15))]; rw [decide_eq_false c26]; rfl)).symm, _, rfl⟩)

set_option maxRecDepth 100000 in
set_option maxHeartbeats 800000 in
theorem x_plays (d : Nat) (X : XZ) (M : MZ) (D : HP) {w : Nat} (hw : w < 3) {K : MZ} (hR : SR X D w K) (hK : KI K) {cl : CLs} (hC : CX X K cl) {n : Nat} {p : Int32} (hs : SV D n (K.2.1 0 (pz p)) p (K.2.1 1 (pz p))) (hp : vp_in p 4) (a b : Int32) : Con (d + 6) qX4_plays 0 0 [.ref (1 + 11 * w), .ref n, .int a, .int b] (xh X M D) (PI fun y h => y = b2i (goW K cl p a b = true) ∧ ∃ X2, h = xh X2 M D ∧ SR X2 D w (goM K p (goW K cl p a b)) ∧ FX X X2 w) := by
  refine Con.of (by decide +kernel) (Nat.le_of_ble_eq_true rfl) ?_
  show Sem (d + 6) qX4_plays 0 0 0 [(0, .ref (1 + 11 * w)), (1, .ref n), (2, .int a), (3, .int b)] [] (xh X M D) _
  refine s_aload_nr (j := 0) dX4_plays_0 rfl ?_
  refine s_aload_nr (j := 1) dX4_plays_1 rfl ?_
  refine s_iload_n (j := 2) dX4_plays_2 rfl ?_
  refine s_iload_n (j := 3) dX4_plays_3 rfl ?_
  refine s_V3i cv_X4_142 rfl dX4_plays_4 (xg_X4 (w := w) hw) rfl (Nat.le_of_ble_eq_true rfl) (x_winsP _ X M D hw hR hK hC hs hp a b) (fun y4 h4 q4 => ?_)
  obtain ⟨rfl, g0, rfl⟩ := q4
  refine s_istore dX4_plays_7 (by decide) rfl ?_
  refine s_iload (j := 0) dX4_plays_9 rfl ?_
  refine s_if_eq dX4_plays_11 (tgt := 27) (by decide) (fun c11 => ?_) (fun c11 => ?_)
  · replace c11 := b2i_0.mp c11
    refine s_aload_nr (j := 1) dX4_plays_27 rfl ?_
    refine s_dup dX4_plays_28 rfl ?_
    refine gX_X4_71 (w := w) hw dX4_plays_29 rfl ?_
    rw [show (xlt X w g0).1 (8 * w + 4) = K.1 2 from hR.1.2.2.1]
    refine s_iconst (v := 1) dX4_plays_32 (by decide) ?_
    refine s_iadd dX4_plays_33 ?_
    refine pX_X4_71 (w := w) hw dX4_plays_34 rfl ?_
    refine s_aload_nr (j := 1) dX4_plays_37 rfl ?_
    refine gX_X4_24 (w := w) hw dX4_plays_38 rfl ?_
    refine s_aload_nr (j := 2) dX4_plays_41 rfl ?_
    refine gS_X4_84 hs dX4_plays_42 rfl ?_
    refine s_sipush (v := 9999) dX4_plays_45 (by decide) ?_
    refine s_aload_nr (j := 1) dX4_plays_48 rfl ?_
    refine gX_X4_24 (w := w) hw dX4_plays_49 rfl ?_
    refine s_aload_nr (j := 2) dX4_plays_52 rfl ?_
    refine gS_X4_84 hs dX4_plays_53 rfl ?_
    refine lX_X4_served (w := w) hw dX4_plays_56 (by exact hp) ?_
    refine s_topi (fun z ez => ?_)
    obtain rfl := ez.trans (show _ = K.2.1 4 (pz p) from (congrFun (xlt_a (by omega)) _).trans (hR.2.1.2.2.1 _ (pz_lt hp)))
    refine s_iconst (v := 1) dX4_plays_57 (by decide) ?_
    refine s_iadd dX4_plays_58 ?_
    refine s_mmin cs_X4_108 rfl dX4_plays_59 (Nat.le_of_ble_eq_true rfl) ?_
    rw [mn_eq (hK.2.1 _ (pz_lt hp))]
    refine sX_X4_served (w := w) hw dX4_plays_62 (by exact hp) ?_
    refine s_iload (j := 0) dX4_plays_63 rfl ?_
    exact e_zret dX4_plays_65 rfl (by first | rfl | exact b2i_z | decide) (by have e9 := (Bool.eq_false_iff.mpr c11); rw [e9]; exact ⟨rfl, _, rfl, SR.pa (SR.p1 hR.lt (Or.inr (Or.inl ⟨rfl, rfl⟩))) (Or.inr (Or.inr (Or.inl ⟨rfl, rfl⟩))), ((FX.lt X w g0).p1 (by omega)).pa (by omega)⟩)
  · replace c11 := b2i_n0.mp c11
    refine s_aload_nr (j := 1) dX4_plays_14 rfl ?_
    refine s_dup dX4_plays_15 rfl ?_
    refine gX_X4_68 (w := w) hw dX4_plays_16 rfl ?_
    rw [show (xlt X w g0).1 (8 * w + 3) = K.1 1 from hR.1.2.1]
    refine s_iconst (v := 1) dX4_plays_19 (by decide) ?_
    refine s_iadd dX4_plays_20 ?_
    refine pX_X4_68 (w := w) hw dX4_plays_21 rfl ?_
    refine s_goto dX4_plays_24 (tgt := 37) (by decide) ?_
    refine s_aload_nr (j := 1) dX4_plays_37 rfl ?_
    refine gX_X4_24 (w := w) hw dX4_plays_38 rfl ?_
    refine s_aload_nr (j := 2) dX4_plays_41 rfl ?_
    refine gS_X4_84 hs dX4_plays_42 rfl ?_
    refine s_sipush (v := 9999) dX4_plays_45 (by decide) ?_
    refine s_aload_nr (j := 1) dX4_plays_48 rfl ?_
    refine gX_X4_24 (w := w) hw dX4_plays_49 rfl ?_
    refine s_aload_nr (j := 2) dX4_plays_52 rfl ?_
    refine gS_X4_84 hs dX4_plays_53 rfl ?_
    refine lX_X4_served (w := w) hw dX4_plays_56 (by exact hp) ?_
    refine s_topi (fun z ez => ?_)
    obtain rfl := ez.trans (show _ = K.2.1 4 (pz p) from (congrFun (xlt_a (by omega)) _).trans (hR.2.1.2.2.1 _ (pz_lt hp)))
    refine s_iconst (v := 1) dX4_plays_57 (by decide) ?_
    refine s_iadd dX4_plays_58 ?_
    refine s_mmin cs_X4_108 rfl dX4_plays_59 (Nat.le_of_ble_eq_true rfl) ?_
    rw [mn_eq (hK.2.1 _ (pz_lt hp))]
    refine sX_X4_served (w := w) hw dX4_plays_62 (by exact hp) ?_
    refine s_iload (j := 0) dX4_plays_63 rfl ?_
    exact e_zret dX4_plays_65 rfl (by first | rfl | exact b2i_z | decide) (by have e9 := c11; rw [e9]; exact ⟨rfl, _, rfl, SR.pa (SR.p1 hR.lt (Or.inl ⟨rfl, rfl⟩)) (Or.inr (Or.inr (Or.inl ⟨rfl, rfl⟩))), ((FX.lt X w g0).p1 (by omega)).pa (by omega)⟩)

set_option maxRecDepth 100000 in
set_option maxHeartbeats 800000 in
theorem x_isOver (d : Nat) (X : XZ) (M : MZ) (D : HP) {w : Nat} (hw : w < 3) {K : MZ} (hR : SR X D w K) (hK : KI K) : Con d qX4_isOver 0 0 [.ref (1 + 11 * w)] (xh X M D) (XI (b2i (ovr K)) (xh X M D)) := by
  refine Con.of (by decide +kernel) (Nat.le_of_ble_eq_true rfl) ?_
  show Sem d qX4_isOver 0 0 0 [(0, .ref (1 + 11 * w))] [] (xh X M D) _
  refine s_aload_nr (j := 0) dX4_isOver_0 rfl ?_
  refine gX_X4_68 (w := w) hw dX4_isOver_1 rfl ?_
  rw [hR.1.2.1]
  refine s_iconst (v := 4) dX4_isOver_4 (by decide) ?_
  refine s_icmp_ge dX4_isOver_5 (tgt := 16) (by decide) (fun c5 => ?_) (fun c5 => ?_)
  · refine s_iconst (v := 1) dX4_isOver_16 (by decide) ?_
    refine s_goto dX4_isOver_17 (tgt := 21) (by decide) ?_
    exact e_zret dX4_isOver_21 rfl (by first | rfl | exact b2i_z | decide) (by exact ⟨(b2i_t (Or.inl (i4_eq hK.1.2.1 c5))).symm, rfl⟩)
  · refine s_aload_nr (j := 0) dX4_isOver_8 rfl ?_
    refine gX_X4_71 (w := w) hw dX4_isOver_9 rfl ?_
    rw [hR.1.2.2.1]
    refine s_iconst (v := 4) dX4_isOver_12 (by decide) ?_
    refine s_icmp_lt dX4_isOver_13 (tgt := 20) (by decide) (fun c13 => ?_) (fun c13 => ?_)
    · refine s_iconst (v := 0) dX4_isOver_20 (by decide) ?_
      exact e_zret dX4_isOver_21 rfl (by first | rfl | exact b2i_z | decide) (by exact ⟨(b2i_f (fun z => z.elim (fun e => c5 (by rw [e]; decide)) (fun e => absurd c13 (by rw [e]; decide)))).symm, rfl⟩)
    · refine s_iconst (v := 1) dX4_isOver_16 (by decide) ?_
      refine s_goto dX4_isOver_17 (tgt := 21) (by decide) ?_
      exact e_zret dX4_isOver_21 rfl (by first | rfl | exact b2i_z | decide) (by exact ⟨(b2i_t (Or.inr (i4_eq hK.1.2.2 (Int32.not_lt.mp c13)))).symm, rfl⟩)
