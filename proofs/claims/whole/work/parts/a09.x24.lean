set_option maxRecDepth 100000 in
set_option maxHeartbeats 800000 in
theorem j_valueOf (d : Nat) (hp : HP) (b : Int32) (hb : 0 ≤ b ∧ b ≤ 127) : Con d qJ6_valueOf_2dffe 0 0 [.int b] (hp) (PR fun v h => v = .float (bx b) ∧ h = hp) := by
  refine Con.of (by decide +kernel) (Nat.le_of_ble_eq_true rfl) ?_
  show Sem d qJ6_valueOf_2dffe 0 0 0 [(0, .int b)] [] (hp) _
  refine s_iload_n (j := 0) dJ6_valueOf_2dffe_0 rfl ?_
  refine s_bipush (v := -128) dJ6_valueOf_2dffe_1 (by decide) ?_
  refine s_icmp_lt dJ6_valueOf_2dffe_3 (tgt := 23) (by decide) (fun c3 => ?_) (fun c3 => ?_)
  · exact absurd c3 (Int32.not_lt.mpr (Int32.le_trans (by decide) hb.1))
  · refine s_iload_n (j := 0) dJ6_valueOf_2dffe_6 rfl ?_
    refine e_high dJ6_valueOf_2dffe_7 rfl ?_
    refine s_icmp_gt dJ6_valueOf_2dffe_10 (tgt := 23) (by decide) (fun c10 => ?_) (fun c10 => ?_)
    · exact absurd c10 (Int32.not_lt.mpr hb.2)
    · refine e_cache dJ6_valueOf_2dffe_13 rfl ?_
      refine s_iload_n (j := 0) dJ6_valueOf_2dffe_16 rfl ?_
      refine s_sipush (v := 128) dJ6_valueOf_2dffe_17 (by decide) ?_
      refine s_iadd dJ6_valueOf_2dffe_20 ?_
      refine e_cald (by exact bx_in hb) dJ6_valueOf_2dffe_21 ?_
      exact e_aret dJ6_valueOf_2dffe_22 rfl (Or.inl ⟨_, rfl⟩) (Or.inr (Or.inr ⟨_, rfl⟩)) (by exact ⟨rfl, rfl⟩)

set_option maxRecDepth 100000 in
set_option maxHeartbeats 800000 in
theorem j_intValue (d : Nat) (hp : HP) (b : Int32) (hb : 0 ≤ b ∧ b ≤ 127) : Con d qJ6_intValue_8abf5 0 0 [.float (bx b)] (hp) (XI b hp) := by
  refine Con.of (by decide +kernel) (Nat.le_of_ble_eq_true rfl) ?_
  show Sem d qJ6_intValue_8abf5 0 0 0 [(0, .float (bx b))] [] (hp) _
  refine s_aload_ne (j := 0) dJ6_intValue_8abf5_0 rfl ?_
  refine e_bval (bx_lt hb) dJ6_intValue_8abf5_1 rfl ?_
  exact e_iret dJ6_intValue_8abf5_4 rfl (by exact ⟨bx_val hb, rfl⟩)

set_option maxRecDepth 100000 in
set_option maxHeartbeats 800000 in
theorem j_chk3n (d : Nat) (hp : HP) (k m : Nat) (hk : k < m) (hm : m < 2 ^ 31) : Con d qJ3_checkIndex_8e157 0 0 [.int (nI k), .int (nI m), .null] (hp) (XI (nI k) hp) := by
  refine Con.of (by decide +kernel) (Nat.le_of_ble_eq_true rfl) ?_
  show Sem d qJ3_checkIndex_8e157 0 0 0 [(0, .int (nI k)), (1, .int (nI m)), (2, .null)] [] (hp) _
  refine s_iload_n (j := 0) dJ3_checkIndex_8e157_0 rfl ?_
  refine s_if_lt dJ3_checkIndex_8e157_1 (tgt := 9) (by decide) (fun c1 => ?_) (fun c1 => ?_)
  · exact absurd c1 (nI_pos (by omega))
  · refine s_iload_n (j := 0) dJ3_checkIndex_8e157_4 rfl ?_
    refine s_iload_n (j := 1) dJ3_checkIndex_8e157_5 rfl ?_
    refine s_icmp_lt dJ3_checkIndex_8e157_6 (tgt := 16) (by decide) (fun c6 => ?_) (fun c6 => ?_)
    · refine s_iload_n (j := 0) dJ3_checkIndex_8e157_16 rfl ?_
      exact e_iret dJ3_checkIndex_8e157_17 rfl (by exact ⟨rfl, rfl⟩)
    · exact absurd (nI_lt hk hm) c6

set_option maxRecDepth 100000 in
set_option maxHeartbeats 800000 in
theorem j_ochk (d : Nat) (hp : HP) (k m : Nat) (hk : k < m) (hm : m < 2 ^ 31) : Con (d + 1) qJ15_checkIndex_7cf53 0 0 [.int (nI k), .int (nI m)] (hp) (XI (nI k) hp) := by
  refine Con.of (by decide +kernel) (Nat.le_of_ble_eq_true rfl) ?_
  show Sem (d + 1) qJ15_checkIndex_7cf53 0 0 0 [(0, .int (nI k)), (1, .int (nI m))] [] (hp) _
  refine s_iload_n (j := 0) dJ15_checkIndex_7cf53_0 rfl ?_
  refine s_iload_n (j := 1) dJ15_checkIndex_7cf53_1 rfl ?_
  refine s_null dJ15_checkIndex_7cf53_2 ?_
  refine s_S3i cs_J15_105 rfl dJ15_checkIndex_7cf53_3 (Nat.le_of_ble_eq_true rfl) (j_chk3n _ _ k m hk hm) (fun y3 h3 q3 => ?_)
  obtain ⟨rfl, rfl⟩ := q3
  exact e_iret dJ15_checkIndex_7cf53_6 rfl (by exact ⟨rfl, rfl⟩)

set_option maxRecDepth 100000 in
set_option maxHeartbeats 800000 in
theorem j_newLen (d : Nat) (hp : HP) : Con (d + 1) qJ8_newLength_cabcc 0 0 [.int 10, .int 1, .int 5] (hp) (XI 15 hp) := by
  refine Con.of (by decide +kernel) (Nat.le_of_ble_eq_true rfl) ?_
  show Sem (d + 1) qJ8_newLength_cabcc 0 0 0 [(0, .int 10), (1, .int 1), (2, .int 5)] [] (hp) _
  refine s_iload_n (j := 0) dJ8_newLength_cabcc_0 rfl ?_
  refine s_iload_n (j := 1) dJ8_newLength_cabcc_1 rfl ?_
  refine s_iload_n (j := 2) dJ8_newLength_cabcc_2 rfl ?_
  refine s_mmax cs_J8_194 rfl dJ8_newLength_cabcc_3 (Nat.le_of_ble_eq_true rfl) ?_
  refine s_topi (fun z9 ez9 => ?_)
  obtain rfl : z9 = 5 := ez9.trans (by decide)
  refine s_iadd dJ8_newLength_cabcc_6 ?_
  refine s_topi (fun z9 ez9 => ?_)
  obtain rfl : z9 = 15 := ez9.trans (by decide)
  refine s_istore_n dJ8_newLength_cabcc_7 (by decide) rfl ?_
  refine s_iconst (v := 0) dJ8_newLength_cabcc_8 (by decide) ?_
  refine s_iload_n (j := 0) dJ8_newLength_cabcc_9 rfl ?_
  refine s_icmp_ge dJ8_newLength_cabcc_10 (tgt := 21) (by decide) (fun c10 => ?_) (fun c10 => ?_)
  · exact absurd c10 (by decide)
  · refine s_iload_n (j := 0) dJ8_newLength_cabcc_13 rfl ?_
    refine s_ldc dJ8_newLength_cabcc_14 rfl m963 ?_
    refine s_icmp_gt dJ8_newLength_cabcc_16 (tgt := 21) (by decide) (fun c16 => ?_) (fun c16 => ?_)
    · exact absurd c16 (by decide)
    · refine s_iload_n (j := 0) dJ8_newLength_cabcc_19 rfl ?_
      exact e_iret dJ8_newLength_cabcc_20 rfl (by exact ⟨rfl, rfl⟩)

set_option maxRecDepth 100000 in
set_option maxHeartbeats 800000 in
theorem j_copy3 (d : Nat) (hp : HP) (n : Nat) (f : Nat → Value) (hc : hp[n]? = some (.inl (8, 10, .inr (.inr f)))) (hB : ∀ k, k < 10 → ∃ b : UInt32, b.toNat < 256 ∧ f k = .float b) : Con (d + 1) qJ7_copyOf_6403c 1 15 [.ref n, .int 15, .float 302] (hp) (PR fun v h => v = .ref hp.length ∧ h = hp ++ [.inl (8, 15, .inr (.inr (va_cpy f (fun _ => Value.null) 0 0 10)))]) := by
  refine Con.of (by decide +kernel) (Nat.le_of_ble_eq_true rfl) ?_
  show Sem (d + 1) qJ7_copyOf_6403c 1 15 0 [(0, .ref n), (1, .int 15), (2, .float 302)] [] (hp) _
  refine s_aload_ne (j := 2) dJ7_copyOf_6403c_0 rfl ?_
  refine e_ldcM dJ7_copyOf_6403c_1 rfl ?_
  refine e_acmpne_f dJ7_copyOf_6403c_3 (tgt := 13) (by decide) ?_
  refine s_iload_n (j := 1) dJ7_copyOf_6403c_6 rfl ?_
  refine s_newref (t := 8) (N := 15) dJ7_copyOf_6403c_7 rfl m994 (fun _ _ z => z.2.2.2.2.2.2.2.2.2.1) rfl (by decide) (by rfl) (by decide) ?_
  have hc2 : (hp ++ [.inl (8, 15, .inr (.inr fun _ => Value.null))])[n]? = some (.inl (8, 10, .inr (.inr f))) := by
    rw [List.getElem?_append_left (List.getElem?_eq_some_iff.mp hc).1]; exact hc
  have hn2 : (hp ++ [.inl (8, 15, .inr (.inr fun _ => Value.null))])[hp.length]? = some (.inl (8, 15, .inr (.inr fun _ => Value.null))) := List.getElem?_concat_length
  refine s_goto dJ7_copyOf_6403c_10 (tgt := 24) (by decide) ?_
  refine s_astore_nr dJ7_copyOf_6403c_24 (by decide) rfl ?_
  refine s_aload_nr (j := 1) dJ7_copyOf_6403c_25 rfl ?_
  refine s_iconst (v := 0) dJ7_copyOf_6403c_26 (by decide) ?_
  refine s_aload_nr (j := 0) dJ7_copyOf_6403c_27 rfl ?_
  refine s_iconst (v := 0) dJ7_copyOf_6403c_28 (by decide) ?_
  refine s_aload_nr (j := 1) dJ7_copyOf_6403c_29 rfl ?_
  refine s_alen dJ7_copyOf_6403c_30 (hc2) rfl (v := nI 10) rfl ?_
  refine s_iload_n (j := 2) dJ7_copyOf_6403c_31 rfl ?_
  refine s_mmin cs_J7_304 rfl dJ7_copyOf_6403c_32 (Nat.le_of_ble_eq_true rfl) ?_
  refine s_topi (fun z9 ez9 => ?_)
  obtain rfl : z9 = 10 := ez9.trans (by decide)
  refine s_copyB (own := RJ7) rfl dJ7_copyOf_6403c_35 mAC_J7 mACn mACs mSys hc2 hn2 (by decide) (by decide) (by decide) (by decide) (by decide) (fun k hk => ?_) (Nat.le_of_ble_eq_true rfl) ?_
  · rw [show (0 : Int32).toNatClampNeg + k = k from Nat.zero_add k]
    exact hB k hk
  refine s_aload_nr (j := 0) dJ7_copyOf_6403c_38 rfl ?_
  exact e_aret dJ7_copyOf_6403c_39 rfl (Or.inr ⟨_, rfl⟩) (by first | exact Or.inl rfl | exact Or.inr (Or.inl ⟨_, rfl⟩)) (by exact ⟨rfl, set_last _ _ _⟩)

set_option maxRecDepth 100000 in
set_option maxHeartbeats 800000 in
theorem j_copy2 (d : Nat) (hp : HP) (n : Nat) (f : Nat → Value) (hc : hp[n]? = some (.inl (8, 10, .inr (.inr f)))) (hB : ∀ k, k < 10 → ∃ b : UInt32, b.toNat < 256 ∧ f k = .float b) : Con (d + 2) qJ7_copyOf_1904c 1 15 [.ref n, .int 15] (hp) (PR fun v h => v = .ref hp.length ∧ h = hp ++ [.inl (8, 15, .inr (.inr (va_cpy f (fun _ => Value.null) 0 0 10)))]) := by
  refine Con.of (by decide +kernel) (Nat.le_of_ble_eq_true rfl) ?_
  show Sem (d + 2) qJ7_copyOf_1904c 1 15 0 [(0, .ref n), (1, .int 15)] [] (hp) _
  refine s_aload_nr (j := 0) dJ7_copyOf_1904c_0 rfl ?_
  refine s_iload_n (j := 1) dJ7_copyOf_1904c_1 rfl ?_
  refine s_aload_nr (j := 0) dJ7_copyOf_1904c_2 rfl ?_
  refine e_getC dJ7_copyOf_1904c_3 rfl hc (Nat.le_of_ble_eq_true rfl) ?_
  refine s_S3rm (mc := 0) (ms := 0) cs_J7_300 rfl dJ7_copyOf_1904c_6 (Nat.le_of_ble_eq_true rfl) (j_copy3 _ _ n f hc hB) rfl rfl (fun y6 h6 q6 => ?_)
  obtain ⟨rfl, rfl⟩ := q6
  exact e_aret dJ7_copyOf_1904c_9 rfl (Or.inr ⟨_, rfl⟩) (by first | exact Or.inl rfl | exact Or.inr (Or.inl ⟨_, rfl⟩)) (by exact ⟨rfl, rfl⟩)

set_option maxRecDepth 100000 in
set_option maxHeartbeats 800000 in
theorem x_gr1A (d : Nat) (X : XZ) (M : MZ) (D : HP) (he : X.2.2.2.1 3 = .float 301) : Con (d + 1) qJx4a65c_grow_92f84 1 10 [.ref 38, .int 1] (xh X M D) (PR fun v h => v = .ref (136 + D.length) ∧ h = xh (xv X 3 (.ref (136 + D.length))) M (D ++ [.inl (8, 10, .inr (.inr (fun _ => Value.null)))])) := by
  refine Con.of (by decide +kernel) (Nat.le_of_ble_eq_true rfl) ?_
  show Sem (d + 1) qJx4a65c_grow_92f84 1 10 0 [(0, .ref 38), (1, .int 1)] [] (xh X M D) _
  refine s_aload_nr (j := 0) dJx4a65c_grow_92f84_0 rfl ?_
  refine gX_Jx4a65c_9 dJx4a65c_grow_92f84_1 rfl ?_
  refine s_topv (he) ?_
  refine e_alen0 dJx4a65c_grow_92f84_4 ?_
  refine s_istore_n dJx4a65c_grow_92f84_5 (by decide) rfl ?_
  refine s_iload_n (j := 0) dJx4a65c_grow_92f84_6 rfl ?_
  refine s_if_gt dJx4a65c_grow_92f84_7 (tgt := 20) (by decide) (fun c7 => ?_) (fun c7 => ?_)
  · exact absurd c7 (by decide)
  · refine s_aload_nr (j := 1) dJx4a65c_grow_92f84_10 rfl ?_
    refine gX_Jx4a65c_9 dJx4a65c_grow_92f84_11 rfl ?_
    refine s_topv (he) ?_
    refine e_empty dJx4a65c_grow_92f84_14 rfl ?_
    refine e_acmpeq_t dJx4a65c_grow_92f84_17 (tgt := 45) (by decide) ?_
    refine s_aload_nr (j := 1) dJx4a65c_grow_92f84_45 rfl ?_
    refine s_bipush (v := 10) dJx4a65c_grow_92f84_46 (by decide) ?_
    refine s_iload_n (j := 2) dJx4a65c_grow_92f84_48 rfl ?_
    refine s_mmax cs_Jx4a65c_79 rfl dJx4a65c_grow_92f84_49 (Nat.le_of_ble_eq_true rfl) ?_
    refine s_topi (fun z9 ez9 => ?_)
    obtain rfl : z9 = 10 := ez9.trans (by decide)
    refine s_newref (t := 8) (N := 10) dJx4a65c_grow_92f84_52 rfl m998 (fun _ _ z => z.2.2.2.2.2.2.2.2.2.1) rfl (by decide) (by rfl) (by decide) ?_
    rw [xh_push, xh_len]
    refine s_dup_x1 dJx4a65c_grow_92f84_55 rfl rfl ?_
    refine pX_Jx4a65c_9 dJx4a65c_grow_92f84_56 rfl (by first | exact Or.inl rfl | exact Or.inr (Or.inl ⟨_, rfl⟩) | exact Or.inr (Or.inr ⟨_, rfl⟩)) ?_
    exact e_aret dJx4a65c_grow_92f84_59 rfl (Or.inr ⟨_, rfl⟩) (by first | exact Or.inl rfl | exact Or.inr (Or.inl ⟨_, rfl⟩)) (by exact ⟨rfl, rfl⟩)

set_option maxRecDepth 100000 in
set_option maxHeartbeats 800000 in
theorem x_gr1C (d : Nat) (X : XZ) (M : MZ) (D : HP) (n : Nat) (hn : 136 ≤ n) (f : Nat → Value) (he : X.2.2.2.1 3 = .ref n) (hc : D[n - 136]? = some (.inl (8, 10, .inr (.inr f)))) (hB : ∀ k, k < 10 → ∃ b : UInt32, b.toNat < 256 ∧ f k = .float b) : Con (d + 3) qJx4a65c_grow_92f84 1 15 [.ref 38, .int 11] (xh X M D) (PR fun v h => v = .ref (136 + D.length) ∧ h = xh (xv X 3 (.ref (136 + D.length))) M (D ++ [.inl (8, 15, .inr (.inr (va_cpy f (fun _ => Value.null) 0 0 10)))])) := by
  refine Con.of (by decide +kernel) (Nat.le_of_ble_eq_true rfl) ?_
  show Sem (d + 3) qJx4a65c_grow_92f84 1 15 0 [(0, .ref 38), (1, .int 11)] [] (xh X M D) _
  refine s_aload_nr (j := 0) dJx4a65c_grow_92f84_0 rfl ?_
  refine gX_Jx4a65c_9 dJx4a65c_grow_92f84_1 rfl ?_
  refine s_topv (he) ?_
  refine s_alen dJx4a65c_grow_92f84_4 (((xh_dyn hn).trans hc)) rfl (v := nI 10) rfl ?_
  refine s_topi (fun z9 ez9 => ?_)
  obtain rfl : z9 = 10 := ez9.trans (by decide)
  refine s_istore_n dJx4a65c_grow_92f84_5 (by decide) rfl ?_
  refine s_iload_n (j := 0) dJx4a65c_grow_92f84_6 rfl ?_
  refine s_if_gt dJx4a65c_grow_92f84_7 (tgt := 20) (by decide) (fun c7 => ?_) (fun c7 => ?_)
  · refine s_iload_n (j := 0) dJx4a65c_grow_92f84_20 rfl ?_
    refine s_iload_n (j := 2) dJx4a65c_grow_92f84_21 rfl ?_
    refine s_iload_n (j := 0) dJx4a65c_grow_92f84_22 rfl ?_
    refine s_isub dJx4a65c_grow_92f84_23 ?_
    refine s_topi (fun z9 ez9 => ?_)
    obtain rfl : z9 = 1 := ez9.trans (by decide)
    refine s_iload_n (j := 0) dJx4a65c_grow_92f84_24 rfl ?_
    refine s_iconst (v := 1) dJx4a65c_grow_92f84_25 (by decide) ?_
    refine s_ishr dJx4a65c_grow_92f84_26 ?_
    refine s_topi (fun z9 ez9 => ?_)
    obtain rfl : z9 = 5 := ez9.trans (by decide)
    refine s_S3i cs_Jx4a65c_73 rfl dJx4a65c_grow_92f84_27 (Nat.le_of_ble_eq_true rfl) (j_newLen _ _) (fun y27 h27 q27 => ?_)
    obtain ⟨rfl, rfl⟩ := q27
    refine s_istore_n dJx4a65c_grow_92f84_30 (by decide) rfl ?_
    refine s_aload_nr (j := 2) dJx4a65c_grow_92f84_31 rfl ?_
    refine s_aload_nr (j := 2) dJx4a65c_grow_92f84_32 rfl ?_
    refine gX_Jx4a65c_9 dJx4a65c_grow_92f84_33 rfl ?_
    refine s_topv (he) ?_
    refine s_iload_n (j := 0) dJx4a65c_grow_92f84_36 rfl ?_
    refine s_S2rm (mc := 0) (ms := 0) cs_Jx4a65c_66 rfl dJx4a65c_grow_92f84_37 (Nat.le_of_ble_eq_true rfl) (j_copy2 _ _ n f ((xh_dyn hn).trans hc) hB) rfl rfl (fun y37 h37 q37 => ?_)
    obtain ⟨rfl, rfl⟩ := q37
    rw [xh_push, xh_len]
    refine s_dup_x1 dJx4a65c_grow_92f84_40 rfl rfl ?_
    refine pX_Jx4a65c_9 dJx4a65c_grow_92f84_41 rfl (by first | exact Or.inl rfl | exact Or.inr (Or.inl ⟨_, rfl⟩) | exact Or.inr (Or.inr ⟨_, rfl⟩)) ?_
    exact e_aret dJx4a65c_grow_92f84_44 rfl (Or.inr ⟨_, rfl⟩) (by first | exact Or.inl rfl | exact Or.inr (Or.inl ⟨_, rfl⟩)) (by exact ⟨rfl, rfl⟩)
  · exact absurd c7 (by decide)

set_option maxRecDepth 100000 in
set_option maxHeartbeats 800000 in
theorem x_gr0A (d : Nat) (X : XZ) (M : MZ) (D : HP) (he : X.2.2.2.1 3 = .float 301) (hs : X.1 53 = 0) : Con (d + 2) qJx4a65c_grow_d5877 1 10 [.ref 38] (xh X M D) (PR fun v h => v = .ref (136 + D.length) ∧ h = xh (xv X 3 (.ref (136 + D.length))) M (D ++ [.inl (8, 10, .inr (.inr (fun _ => Value.null)))])) := by
  refine Con.of (by decide +kernel) (Nat.le_of_ble_eq_true rfl) ?_
  show Sem (d + 2) qJx4a65c_grow_d5877 1 10 0 [(0, .ref 38)] [] (xh X M D) _
  refine s_aload_nr (j := 0) dJx4a65c_grow_d5877_0 rfl ?_
  refine s_aload_nr (j := 0) dJx4a65c_grow_d5877_1 rfl ?_
  refine gX_Jx4a65c_48 dJx4a65c_grow_d5877_2 rfl ?_
  refine s_iconst (v := 1) dJx4a65c_grow_d5877_5 (by decide) ?_
  refine s_iadd dJx4a65c_grow_d5877_6 ?_
  refine s_topi (fun z9 ez9 => ?_)
  obtain rfl : z9 = 1 := ez9.trans (by rw [hs]; rfl)
  refine s_V1rm (mc := 0) (ms := 0) cv_Jx4a65c_69 rfl dJx4a65c_grow_d5877_7 xg_Jx4a65c rfl (Nat.le_of_ble_eq_true rfl) (x_gr1A _ X M D he) rfl rfl (fun y7 h7 q7 => ?_)
  obtain ⟨rfl, rfl⟩ := q7
  exact e_aret dJx4a65c_grow_d5877_10 rfl (Or.inr ⟨_, rfl⟩) (by first | exact Or.inl rfl | exact Or.inr (Or.inl ⟨_, rfl⟩)) (by exact ⟨rfl, rfl⟩)

set_option maxRecDepth 100000 in
set_option maxHeartbeats 800000 in
theorem x_gr0C (d : Nat) (X : XZ) (M : MZ) (D : HP) (n : Nat) (hn : 136 ≤ n) (f : Nat → Value) (he : X.2.2.2.1 3 = .ref n) (hc : D[n - 136]? = some (.inl (8, 10, .inr (.inr f)))) (hB : ∀ k, k < 10 → ∃ b : UInt32, b.toNat < 256 ∧ f k = .float b) (hs : X.1 53 = 10) : Con (d + 4) qJx4a65c_grow_d5877 1 15 [.ref 38] (xh X M D) (PR fun v h => v = .ref (136 + D.length) ∧ h = xh (xv X 3 (.ref (136 + D.length))) M (D ++ [.inl (8, 15, .inr (.inr (va_cpy f (fun _ => Value.null) 0 0 10)))])) := by
  refine Con.of (by decide +kernel) (Nat.le_of_ble_eq_true rfl) ?_
  show Sem (d + 4) qJx4a65c_grow_d5877 1 15 0 [(0, .ref 38)] [] (xh X M D) _
  refine s_aload_nr (j := 0) dJx4a65c_grow_d5877_0 rfl ?_
  refine s_aload_nr (j := 0) dJx4a65c_grow_d5877_1 rfl ?_
  refine gX_Jx4a65c_48 dJx4a65c_grow_d5877_2 rfl ?_
  refine s_iconst (v := 1) dJx4a65c_grow_d5877_5 (by decide) ?_
  refine s_iadd dJx4a65c_grow_d5877_6 ?_
  refine s_topi (fun z9 ez9 => ?_)
  obtain rfl : z9 = 11 := ez9.trans (by rw [hs]; rfl)
  refine s_V1rm (mc := 0) (ms := 0) cv_Jx4a65c_69 rfl dJx4a65c_grow_d5877_7 xg_Jx4a65c rfl (Nat.le_of_ble_eq_true rfl) (x_gr1C _ X M D n hn f he hc hB) rfl rfl (fun y7 h7 q7 => ?_)
  obtain ⟨rfl, rfl⟩ := q7
  exact e_aret dJx4a65c_grow_d5877_10 rfl (Or.inr ⟨_, rfl⟩) (by first | exact Or.inl rfl | exact Or.inr (Or.inl ⟨_, rfl⟩)) (by exact ⟨rfl, rfl⟩)
