set_option maxRecDepth 100000 in
set_option maxHeartbeats 800000 in
theorem x_add1 (d : Nat) (X : XZ) (M : MZ) (D : HP) (tr : List Int32) (hB : BO X D tr) (hl2 : tr.length ≤ 14) (b : Int32) (hb : 0 ≤ b ∧ b ≤ 127) : Con (d + 6) qJx4a65c_add_9ea2d 1 15 [.ref 38, .float (bx b)] (xh X M D) (PI fun y h => ∃ X2 D2, h = xh X2 M D2 ∧ FB X D X2 D2 ∧ BO X2 D2 (tr ++ [b])) := by
  refine Con.of (by decide +kernel) (Nat.le_of_ble_eq_true rfl) ?_
  show Sem (d + 6) qJx4a65c_add_9ea2d 1 15 0 [(0, .ref 38), (1, .float (bx b))] [] (xh X M D) _
  have hsz : (x1 X 52 (X.1 52 + 1)).1 53 = nI tr.length := (x1_ne (by decide)).trans hB.1
  have ht := hB.2.2.1
  have hF9 : FB X D (x1 X 52 (X.1 52 + 1)) D := (FB.rf X D).p1 (Or.inl rfl)
  refine s_aload_nr (j := 0) dJx4a65c_add_9ea2d_0 rfl ?_
  refine s_dup dJx4a65c_add_9ea2d_1 rfl ?_
  refine gX_Jx4a65c_63 dJx4a65c_add_9ea2d_2 rfl ?_
  refine s_iconst (v := 1) dJx4a65c_add_9ea2d_5 (by decide) ?_
  refine s_iadd dJx4a65c_add_9ea2d_6 ?_
  refine pX_Jx4a65c_63 dJx4a65c_add_9ea2d_7 rfl ?_
  rcases hB.cases3 hl2 with ⟨rfl, he⟩ | ⟨n, cap, f, hn, he, hc, hcap, hl, hf⟩ | ⟨n, f, hn, he, hc, hl, hf⟩
  · skip
    refine s_aload_nr (j := 0) dJx4a65c_add_9ea2d_10 rfl ?_
    refine s_aload_ne (j := 1) dJx4a65c_add_9ea2d_11 rfl ?_
    refine s_aload_nr (j := 0) dJx4a65c_add_9ea2d_12 rfl ?_
    refine gX_Jx4a65c_9 dJx4a65c_add_9ea2d_13 rfl ?_
    refine s_topv (he) ?_
    refine s_aload_nr (j := 0) dJx4a65c_add_9ea2d_16 rfl ?_
    refine gX_Jx4a65c_48 dJx4a65c_add_9ea2d_17 rfl ?_
    refine s_topi (fun z9 ez9 => ?_)
    obtain rfl : z9 = 0 := ez9.trans hsz
    refine s_V3vm (mc := 0) (ms := 0) cv_Jx4a65c_131 rfl dJx4a65c_add_9ea2d_20 xg_Jx4a65c rfl (Nat.le_of_ble_eq_true rfl) (x_adA _ (x1 X 52 (X.1 52 + 1)) M D b hb hsz he) rfl rfl (fun h20 q20 => ?_)
    obtain ⟨X2, D2, rfl, hf2, hb2⟩ := q20
    refine s_iconst (v := 1) dJx4a65c_add_9ea2d_23 (by decide) ?_
    exact e_zret dJx4a65c_add_9ea2d_24 rfl (by first | rfl | exact b2i_z | decide) (by exact ⟨X2, D2, rfl, hF9.tr hf2, hb2⟩)
  · skip
    refine s_aload_nr (j := 0) dJx4a65c_add_9ea2d_10 rfl ?_
    refine s_aload_ne (j := 1) dJx4a65c_add_9ea2d_11 rfl ?_
    refine s_aload_nr (j := 0) dJx4a65c_add_9ea2d_12 rfl ?_
    refine gX_Jx4a65c_9 dJx4a65c_add_9ea2d_13 rfl ?_
    refine s_topv (he) ?_
    refine s_aload_nr (j := 0) dJx4a65c_add_9ea2d_16 rfl ?_
    refine gX_Jx4a65c_48 dJx4a65c_add_9ea2d_17 rfl ?_
    refine s_topi (fun z9 ez9 => ?_)
    obtain rfl : z9 = nI tr.length := ez9.trans hsz
    refine s_V3vm (mc := 1) (ms := 15) cv_Jx4a65c_131 rfl dJx4a65c_add_9ea2d_20 xg_Jx4a65c rfl (Nat.le_of_ble_eq_true rfl) (x_adB _ (x1 X 52 (X.1 52 + 1)) M D tr hl2 ht b hb hsz n cap hn f he hc hcap hl hf) rfl rfl (fun h20 q20 => ?_)
    obtain ⟨X2, D2, rfl, hf2, hb2⟩ := q20
    refine s_iconst (v := 1) dJx4a65c_add_9ea2d_23 (by decide) ?_
    exact e_zret dJx4a65c_add_9ea2d_24 rfl (by first | rfl | exact b2i_z | decide) (by exact ⟨X2, D2, rfl, hF9.tr hf2, hb2⟩)
  · skip
    refine s_aload_nr (j := 0) dJx4a65c_add_9ea2d_10 rfl ?_
    refine s_aload_ne (j := 1) dJx4a65c_add_9ea2d_11 rfl ?_
    refine s_aload_nr (j := 0) dJx4a65c_add_9ea2d_12 rfl ?_
    refine gX_Jx4a65c_9 dJx4a65c_add_9ea2d_13 rfl ?_
    refine s_topv (he) ?_
    refine s_aload_nr (j := 0) dJx4a65c_add_9ea2d_16 rfl ?_
    refine gX_Jx4a65c_48 dJx4a65c_add_9ea2d_17 rfl ?_
    refine s_topi (fun z9 ez9 => ?_)
    obtain rfl : z9 = nI tr.length := ez9.trans hsz
    refine s_V3vm (mc := 0) (ms := 0) cv_Jx4a65c_131 rfl dJx4a65c_add_9ea2d_20 xg_Jx4a65c rfl (Nat.le_of_ble_eq_true rfl) (x_adC _ (x1 X 52 (X.1 52 + 1)) M D tr hl2 ht b hb hsz n hn f he hc hl hf) rfl rfl (fun h20 q20 => ?_)
    obtain ⟨X2, D2, rfl, hf2, hb2⟩ := q20
    refine s_iconst (v := 1) dJx4a65c_add_9ea2d_23 (by decide) ?_
    exact e_zret dJx4a65c_add_9ea2d_24 rfl (by first | rfl | exact b2i_z | decide) (by exact ⟨X2, D2, rfl, hF9.tr hf2, hb2⟩)

set_option maxRecDepth 100000 in
set_option maxHeartbeats 800000 in
theorem x_clrA (d : Nat) (X : XZ) (M : MZ) (D : HP) (he : X.2.2.2.1 3 = .float 301) (hs : X.1 53 = 0) : Con d qJx4a65c_clear_da8c8 0 0 [.ref 38] (xh X M D) (PV fun h => ∃ X2 D2, h = xh X2 M D2 ∧ FB X D X2 D2 ∧ BO X2 D2 []) := by
  refine Con.of (by decide +kernel) (Nat.le_of_ble_eq_true rfl) ?_
  show Sem d qJx4a65c_clear_da8c8 0 0 0 [(0, .ref 38)] [] (xh X M D) _
  refine s_aload_nr (j := 0) dJx4a65c_clear_da8c8_0 rfl ?_
  refine s_dup dJx4a65c_clear_da8c8_1 rfl ?_
  refine gX_Jx4a65c_63 dJx4a65c_clear_da8c8_2 rfl ?_
  refine s_iconst (v := 1) dJx4a65c_clear_da8c8_5 (by decide) ?_
  refine s_iadd dJx4a65c_clear_da8c8_6 ?_
  refine pX_Jx4a65c_63 dJx4a65c_clear_da8c8_7 rfl ?_
  refine s_aload_nr (j := 0) dJx4a65c_clear_da8c8_10 rfl ?_
  refine gX_Jx4a65c_9 dJx4a65c_clear_da8c8_11 rfl ?_
  refine s_topv (he) ?_
  refine s_astore_ne dJx4a65c_clear_da8c8_14 (by decide) rfl ?_
  refine s_aload_nr (j := 1) dJx4a65c_clear_da8c8_15 rfl ?_
  refine gX_Jx4a65c_48 dJx4a65c_clear_da8c8_16 rfl ?_
  refine s_topi (fun z9 ez9 => ?_)
  obtain rfl : z9 = 0 := ez9.trans ((x1_ne (by decide)).trans hs)
  refine s_istore_n dJx4a65c_clear_da8c8_19 (by decide) rfl ?_
  refine s_aload_nr (j := 2) dJx4a65c_clear_da8c8_20 rfl ?_
  refine s_iconst (v := 0) dJx4a65c_clear_da8c8_21 (by decide) ?_
  refine s_dup_x1 dJx4a65c_clear_da8c8_22 rfl rfl ?_
  refine pX_Jx4a65c_48 dJx4a65c_clear_da8c8_23 rfl ?_
  refine s_istore_n dJx4a65c_clear_da8c8_26 (by decide) rfl ?_
  refine s_iload_n (j := 0) dJx4a65c_clear_da8c8_27 rfl ?_
  refine s_iload_n (j := 1) dJx4a65c_clear_da8c8_28 rfl ?_
  refine s_icmp_ge dJx4a65c_clear_da8c8_29 (tgt := 42) (by decide) (fun c29 => ?_) (fun c29 => ?_)
  · exact e_vret dJx4a65c_clear_da8c8_42 rfl (by exact ⟨_, _, rfl, ((FB.rf X D).p1 (Or.inl rfl)).p1 (Or.inr rfl), BO.nil0 (x1at _ _ _) he⟩)
  · exact absurd (Int32.le_refl _) c29

set_option maxRecDepth 100000 in
set_option maxHeartbeats 800000 in
theorem x_clrB (d : Nat) (X : XZ) (M : MZ) (D : HP) (n cap m : Nat) (f : Nat → Value) (hn : 136 ≤ n) (he : X.2.2.2.1 3 = .ref n) (hc : D[n - 136]? = some (.inl (8, cap, .inr (.inr f)))) (hcap : cap = 10 ∨ cap = 15) (hm : m ≤ cap) (hs : X.1 53 = nI m) : Con d qJx4a65c_clear_da8c8 0 0 [.ref 38] (xh X M D) (PV fun h => ∃ X2 D2, h = xh X2 M D2 ∧ FB X D X2 D2 ∧ BO X2 D2 []) := by
  refine Con.of (by decide +kernel) (Nat.le_of_ble_eq_true rfl) ?_
  show Sem d qJx4a65c_clear_da8c8 0 0 0 [(0, .ref 38)] [] (xh X M D) _
  refine s_aload_nr (j := 0) dJx4a65c_clear_da8c8_0 rfl ?_
  refine s_dup dJx4a65c_clear_da8c8_1 rfl ?_
  refine gX_Jx4a65c_63 dJx4a65c_clear_da8c8_2 rfl ?_
  refine s_iconst (v := 1) dJx4a65c_clear_da8c8_5 (by decide) ?_
  refine s_iadd dJx4a65c_clear_da8c8_6 ?_
  refine pX_Jx4a65c_63 dJx4a65c_clear_da8c8_7 rfl ?_
  refine s_aload_nr (j := 0) dJx4a65c_clear_da8c8_10 rfl ?_
  refine gX_Jx4a65c_9 dJx4a65c_clear_da8c8_11 rfl ?_
  refine s_topv (he) ?_
  refine s_astore_nr dJx4a65c_clear_da8c8_14 (by decide) rfl ?_
  refine s_aload_nr (j := 1) dJx4a65c_clear_da8c8_15 rfl ?_
  refine gX_Jx4a65c_48 dJx4a65c_clear_da8c8_16 rfl ?_
  refine s_topi (fun z9 ez9 => ?_)
  obtain rfl : z9 = nI m := ez9.trans ((x1_ne (by decide)).trans hs)
  refine s_istore_n dJx4a65c_clear_da8c8_19 (by decide) rfl ?_
  refine s_aload_nr (j := 2) dJx4a65c_clear_da8c8_20 rfl ?_
  refine s_iconst (v := 0) dJx4a65c_clear_da8c8_21 (by decide) ?_
  refine s_dup_x1 dJx4a65c_clear_da8c8_22 rfl rfl ?_
  refine pX_Jx4a65c_48 dJx4a65c_clear_da8c8_23 rfl ?_
  refine s_istore_n dJx4a65c_clear_da8c8_26 (by decide) rfl ?_
  have LP : ∀ (fu : Nat) (r k : Nat) (D2 : HP) (g : Nat → Value), r < fu → k + r = m → FD D D2 → D2[n - 136]? = some (.inl (8, cap, .inr (.inr g))) → Sem d qJx4a65c_clear_da8c8 0 0 27 [(0, .ref 38), (1, .ref n), (2, .int (nI m)), (3, .int (nI k))] [] (xh (x1 (x1 X 52 (X.1 52 + 1)) 53 0) M D2) (PV fun h => ∃ X2 D2, h = xh X2 M D2 ∧ FB X D X2 D2 ∧ BO X2 D2 []) := by
    intro fu
    induction fu with
    | zero => intro r k D2 g hm; exact absurd hm (Nat.not_lt_zero _)
    | succ fu ih =>
      intro r k D2 g hm g1 hd hc2
      refine s_iload_n (j := 3) dJx4a65c_clear_da8c8_27 rfl ?_
      refine s_iload_n (j := 2) dJx4a65c_clear_da8c8_28 rfl ?_
      refine s_icmp_ge dJx4a65c_clear_da8c8_29 (tgt := 42) (by decide) (fun c29 => ?_) (fun c29 => ?_)
      · exact e_vret dJx4a65c_clear_da8c8_42 rfl (by exact ⟨_, _, rfl, (((FB.rf X D).p1 (Or.inl rfl)).p1 (Or.inr rfl)).dd hd, BO.nil (x1at _ _ _) hn he hc2 hcap⟩)
      · have hk9 : k < m := Nat.not_le.mp fun z => c29 (nI_le z (by omega))
        refine s_aload_nr (j := 1) dJx4a65c_clear_da8c8_32 rfl ?_
        refine s_iload_n (j := 3) dJx4a65c_clear_da8c8_33 rfl ?_
        refine s_null dJx4a65c_clear_da8c8_34 ?_
        refine s_aast0 dJx4a65c_clear_da8c8_35 ((xh_dyn hn).trans hc2) rfl (vp_in_nI (by omega) (by omega)) ?_
        rw [xh_dset hn]
        refine s_iinc (j := 3) (v := _ + (1)) dJx4a65c_clear_da8c8_36 rfl rfl (by decide) rfl ?_
        refine s_goto dJx4a65c_clear_da8c8_39 (tgt := 27) (by decide) ?_
        refine s_locals [1, 2, 3, 0] rfl ?_
        simp only [nI_1]
        exact ih (r - 1) (k + 1) _ _ (by omega) (by omega) (hd.tr (FD.set hc2)) (d_at hc2)
  refine s_locals [3, 2, 1, 0] rfl ?_
  exact LP (m + 1) m 0 D f (by omega) (by omega) (fun _ _ h => h) hc

theorem x_clr (d : Nat) (X : XZ) (M : MZ) (D : HP) (tr : List Int32) (hB : BO X D tr) : Con d qJx4a65c_clear_da8c8 0 0 [.ref 38] (xh X M D) (PV fun h => ∃ X2 D2, h = xh X2 M D2 ∧ FB X D X2 D2 ∧ BO X2 D2 []) := by
  rcases hB.cases with ⟨rfl, he⟩ | ⟨n, cap, f, hn, he, hc, hcap, hl, hf⟩
  · exact x_clrA d X M D he hB.1
  · exact x_clrB d X M D n cap tr.length f hn he hc hcap hl hB.1

set_option maxRecDepth 100000 in
set_option maxHeartbeats 800000 in
theorem x_size (d : Nat) (X : XZ) (M : MZ) (D : HP) : Con d qJx4a65c_size_8abf5 0 0 [.ref 38] (xh X M D) (XI (X.1 53) (xh X M D)) := by
  refine Con.of (by decide +kernel) (Nat.le_of_ble_eq_true rfl) ?_
  show Sem d qJx4a65c_size_8abf5 0 0 0 [(0, .ref 38)] [] (xh X M D) _
  refine s_aload_nr (j := 0) dJx4a65c_size_8abf5_0 rfl ?_
  refine gX_Jx4a65c_48 dJx4a65c_size_8abf5_1 rfl ?_
  exact e_iret dJx4a65c_size_8abf5_4 rfl (by exact ⟨rfl, rfl⟩)

set_option maxRecDepth 100000 in
set_option maxHeartbeats 800000 in
theorem x_eld (d : Nat) (X : XZ) (M : MZ) (D : HP) (n cap k m : Nat) (f : Nat → Value) (j : UInt32) (hn : 136 ≤ n) (he : X.2.2.2.1 3 = .ref n) (hc : D[n - 136]? = some (.inl (8, cap, .inr (.inr f)))) (hcap : cap = 10 ∨ cap = 15) (hm : m ≤ cap) (hk : k < m) (hf : f k = .float j) : Con d qJx4a65c_elementData_915e3 0 0 [.ref 38, .int (nI k)] (xh X M D) (PR fun v h => v = .float j ∧ h = xh X M D) := by
  refine Con.of (by decide +kernel) (Nat.le_of_ble_eq_true rfl) ?_
  show Sem d qJx4a65c_elementData_915e3 0 0 0 [(0, .ref 38), (1, .int (nI k))] [] (xh X M D) _
  refine s_aload_nr (j := 0) dJx4a65c_elementData_915e3_0 rfl ?_
  refine gX_Jx4a65c_9 dJx4a65c_elementData_915e3_1 rfl ?_
  refine s_topv (he) ?_
  refine s_iload_n (j := 1) dJx4a65c_elementData_915e3_4 rfl ?_
  refine s_aald (t := 8) (v := .float j) dJx4a65c_elementData_915e3_5 ((xh_dyn hn).trans hc) rfl rfl (vp_in_nI (by omega) (by omega)) (by rw [nI_clamp (by omega)]; exact hf) ?_
  exact e_aret dJx4a65c_elementData_915e3_6 rfl (Or.inl ⟨_, rfl⟩) (Or.inr (Or.inr ⟨_, rfl⟩)) (by exact ⟨rfl, rfl⟩)

set_option maxRecDepth 100000 in
set_option maxHeartbeats 800000 in
theorem x_getB (d : Nat) (X : XZ) (M : MZ) (D : HP) (n cap k m : Nat) (f : Nat → Value) (j : UInt32) (hn : 136 ≤ n) (he : X.2.2.2.1 3 = .ref n) (hc : D[n - 136]? = some (.inl (8, cap, .inr (.inr f)))) (hcap : cap = 10 ∨ cap = 15) (hm : m ≤ cap) (hk : k < m) (hf : f k = .float j) (hs : X.1 53 = nI m) : Con (d + 2) qJx4a65c_get_915e3 0 0 [.ref 38, .int (nI k)] (xh X M D) (PR fun v h => v = .float j ∧ h = xh X M D) := by
  refine Con.of (by decide +kernel) (Nat.le_of_ble_eq_true rfl) ?_
  show Sem (d + 2) qJx4a65c_get_915e3 0 0 0 [(0, .ref 38), (1, .int (nI k))] [] (xh X M D) _
  refine s_iload_n (j := 1) dJx4a65c_get_915e3_0 rfl ?_
  refine s_aload_nr (j := 0) dJx4a65c_get_915e3_1 rfl ?_
  refine gX_Jx4a65c_48 dJx4a65c_get_915e3_2 rfl ?_
  refine s_topi (fun z9 ez9 => ?_)
  obtain rfl : z9 = nI m := ez9.trans (hs)
  refine s_S2i cs_Jx4a65c_118 rfl dJx4a65c_get_915e3_5 (Nat.le_of_ble_eq_true rfl) (j_ochk _ _ k m hk (by omega)) (fun y5 h5 q5 => ?_)
  obtain ⟨rfl, rfl⟩ := q5
  refine s_pop dJx4a65c_get_915e3_8 rfl ?_
  refine s_aload_nr (j := 0) dJx4a65c_get_915e3_9 rfl ?_
  refine s_iload_n (j := 1) dJx4a65c_get_915e3_10 rfl ?_
  refine s_V1r cv_Jx4a65c_123 rfl dJx4a65c_get_915e3_11 xg_Jx4a65c rfl (Nat.le_of_ble_eq_true rfl) (x_eld _ X M D n cap k m f j hn he hc hcap hm hk hf) (fun y11 h11 q11 => ?_)
  obtain ⟨rfl, rfl⟩ := q11
  exact e_aret dJx4a65c_get_915e3_14 rfl (Or.inl ⟨_, rfl⟩) (Or.inr (Or.inr ⟨_, rfl⟩)) (by exact ⟨rfl, rfl⟩)
