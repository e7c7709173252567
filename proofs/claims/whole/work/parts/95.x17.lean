section VSR
variable {d mc ms pc : Nat} {q : QM} {L : List (Nat × Value)} {st : List Value} {h : HP} {Qp : PO}
theorem s_VS0 {own : String} {idx i : Nat} {q' : QM} {P : Int32 → HP → Prop} (hi : i < 5) (cw : CWV own idx q' 0) (hown : q.1.cls = own) (hcl : q'.1.cls = RJ0) (hd : decode q.2.1 pc = .ok (.invokevirtual idx, 3)) (hs : (st.map fun v => v.category).sum ≤ 8) (hC : Con d q' 0 0 [.float (310 + UInt32.ofNat i)] h (PI P)) (kk : ∀ (x : Int32) (h1 : HP), P x h1 → Sem (d + 1) q mc ms (pc + 3) L (.int x :: st) h1 Qp) : Sem (d + 1) q mc ms pc L (.float (310 + UInt32.ofNat i) :: st) h Qp := by
  have e := s_callVS (mc := mc) (ms := ms) (L := L) (Qp := Qp) hi cw hown hcl hd (As := []) rfl hs rfl hC (fun r1 h1 hq => by obtain ⟨x, rfl, hp⟩ := hq; exact kk x h1 hp)
  rw [Nat.zero_add, Nat.zero_add] at e
  exact e
theorem s_VS1 {own : String} {idx i : Nat} {q' : QM} {v1 : Value} {P : Int32 → HP → Prop} (hi : i < 5) (cw : CWV own idx q' 1) (hown : q.1.cls = own) (hcl : q'.1.cls = RJ0) (hd : decode q.2.1 pc = .ok (.invokevirtual idx, 3)) (hs : (st.map fun v => v.category).sum ≤ 8) (hC : Con d q' 0 0 [.float (310 + UInt32.ofNat i), v1] h (PI P)) (kk : ∀ (x : Int32) (h1 : HP), P x h1 → Sem (d + 1) q mc ms (pc + 3) L (.int x :: st) h1 Qp) : Sem (d + 1) q mc ms pc L (v1 :: .float (310 + UInt32.ofNat i) :: st) h Qp := by
  have e := s_callVS (mc := mc) (ms := ms) (L := L) (Qp := Qp) hi cw hown hcl hd (As := [v1]) rfl hs rfl hC (fun r1 h1 hq => by obtain ⟨x, rfl, hp⟩ := hq; exact kk x h1 hp)
  rw [Nat.zero_add, Nat.zero_add] at e
  exact e
theorem s_VS2 {own : String} {idx i : Nat} {q' : QM} {v1 v2 : Value} {P : Int32 → HP → Prop} (hi : i < 5) (cw : CWV own idx q' 2) (hown : q.1.cls = own) (hcl : q'.1.cls = RJ0) (hd : decode q.2.1 pc = .ok (.invokevirtual idx, 3)) (hs : (st.map fun v => v.category).sum ≤ 8) (hC : Con d q' 0 0 [.float (310 + UInt32.ofNat i), v1, v2] h (PI P)) (kk : ∀ (x : Int32) (h1 : HP), P x h1 → Sem (d + 1) q mc ms (pc + 3) L (.int x :: st) h1 Qp) : Sem (d + 1) q mc ms pc L (v2 :: v1 :: .float (310 + UInt32.ofNat i) :: st) h Qp := by
  have e := s_callVS (mc := mc) (ms := ms) (L := L) (Qp := Qp) hi cw hown hcl hd (As := [v1, v2]) rfl hs rfl hC (fun r1 h1 hq => by obtain ⟨x, rfl, hp⟩ := hq; exact kk x h1 hp)
  rw [Nat.zero_add, Nat.zero_add] at e
  exact e
end VSR
/-- the place of a sign in a literal -/
def ixF (c : Int32) (bs : List Int32) : Nat → Nat → Int32
  | 0, _ => -1
  | r + 1, k => if bs.getD k 0 = c.toInt8.toInt32 then nI k else ixF c bs r (k + 1)
theorem sl_6 {i : Nat} (hi : i < 5) : 3 ≤ strLen.getD i 0 ∧ strLen.getD i 0 ≤ 6 := by
  match i, hi with
  | 0, _ | 1, _ | 2, _ | 3, _ | 4, _ => decide
theorem sb_pos {i k : Nat} (hi : i < 5) (hk : k < 6) : 0 ≤ (strByt.getD i []).getD k 0 ∧ (strByt.getD i []).getD k 0 ≤ 127 := by
  have : ∀ i : Fin 5, ∀ k : Fin 6, 0 ≤ (strByt.getD i.val []).getD k.val 0 ∧ (strByt.getD i.val []).getD k.val 0 ≤ 127 := by decide
  exact this ⟨i, hi⟩ ⟨k, hk⟩
theorem max00 : (if (0 : Int32) < 0 then (0 : Int32) else 0) = 0 := by decide
theorem minLL (x : Int32) : (if x < x then x else x) = x := by split <;> rfl

theorem sr0 (x : Int32) : x >>> (0 : Int32) = x := by
  apply Int32.toBitVec_inj.1
  rw [Int32.toBitVec_shiftRight]
  show x.toBitVec.sshiftRight 0 = x.toBitVec
  simp
theorem ch_aux : ∀ n : Fin 128, ((nI n.val &&& 255).toUInt32 % 65536).toInt32 = nI n.val := by decide +kernel
theorem ch_id {b : Int32} (h : 0 ≤ b ∧ b ≤ 127) : ((b &&& 255).toUInt32 % 65536).toInt32 = b := by
  obtain ⟨j, hj, rfl⟩ := bw_of (m := 127) (n := 127) (by decide) h
  exact ch_aux ⟨j, by omega⟩
theorem ch_aux2 : ∀ n : Fin 128, (nI n.val).toUInt32.toUInt16.toUInt32.toInt32 = nI n.val := by decide +kernel
theorem ch_nar2 {b : Int32} (h : 0 ≤ b ∧ b ≤ 127) : narrow .char (.int b) = .int b := by
  obtain ⟨j, hj, rfl⟩ := bw_of (m := 127) (n := 127) (by decide) h
  exact congrArg Value.int (ch_aux2 ⟨j, by omega⟩)
theorem ch_nar {b : Int32} (h : 0 ≤ b ∧ b ≤ 127) : narrow .char (.int ((b &&& 255).toUInt32 % 65536).toInt32) = .int ((b &&& 255).toUInt32 % 65536).toInt32 := by
  rw [ch_id h]
  exact ch_nar2 h

set_option maxRecDepth 100000 in
set_option maxHeartbeats 800000 in
theorem j_isL (d : Nat) (hp : HP) (i : Nat) (hi : i < 5) : Con d qJ0_isLatin1_aae02 0 0 [.float (310 + UInt32.ofNat i)] (hp) (XI 1 hp) := by
  refine Con.of (by decide +kernel) (Nat.le_of_ble_eq_true rfl) ?_
  show Sem d qJ0_isLatin1_aae02 0 0 0 [(0, .float (310 + UInt32.ofNat i))] [] (hp) _
  refine e_compact dJ0_isLatin1_aae02_0 rfl ?_
  refine s_if_eq dJ0_isLatin1_aae02_3 (tgt := 17) (by decide) (fun c3 => ?_) (fun c3 => ?_)
  · exact absurd c3 (by decide)
  · refine s_aload_ne (j := 0) dJ0_isLatin1_aae02_6 rfl ?_
    refine e_scod hi dJ0_isLatin1_aae02_7 rfl ?_
    refine s_if_ne dJ0_isLatin1_aae02_10 (tgt := 17) (by decide) (fun c10 => ?_) (fun c10 => ?_)
    · exact absurd rfl c10
    · refine s_iconst (v := 1) dJ0_isLatin1_aae02_13 (by decide) ?_
      refine s_goto dJ0_isLatin1_aae02_14 (tgt := 18) (by decide) ?_
      exact e_zret dJ0_isLatin1_aae02_18 rfl (by first | rfl | exact b2i_z | decide) (by exact ⟨rfl, rfl⟩)

set_option maxRecDepth 100000 in
set_option maxHeartbeats 800000 in
theorem j_coder (d : Nat) (hp : HP) (i : Nat) (hi : i < 5) : Con d qJ0_coder_7d493 0 0 [.float (310 + UInt32.ofNat i)] (hp) (XI 0 hp) := by
  refine Con.of (by decide +kernel) (Nat.le_of_ble_eq_true rfl) ?_
  show Sem d qJ0_coder_7d493 0 0 0 [(0, .float (310 + UInt32.ofNat i))] [] (hp) _
  refine e_compact dJ0_coder_7d493_0 rfl ?_
  refine s_if_eq dJ0_coder_7d493_3 (tgt := 13) (by decide) (fun c3 => ?_) (fun c3 => ?_)
  · exact absurd c3 (by decide)
  · refine s_aload_ne (j := 0) dJ0_coder_7d493_6 rfl ?_
    refine e_scod hi dJ0_coder_7d493_7 rfl ?_
    refine s_goto dJ0_coder_7d493_10 (tgt := 14) (by decide) ?_
    exact e_zret dJ0_coder_7d493_14 rfl (by first | rfl | exact b2i_z | decide) (by exact ⟨rfl, rfl⟩)

set_option maxRecDepth 100000 in
set_option maxHeartbeats 800000 in
theorem j_len (d : Nat) (hp : HP) (i : Nat) (hi : i < 5) : Con (d + 1) qJ0_length_8abf5 0 0 [.float (310 + UInt32.ofNat i)] (hp) (XI (nI (strLen.getD i 0)) hp) := by
  refine Con.of (by decide +kernel) (Nat.le_of_ble_eq_true rfl) ?_
  show Sem (d + 1) qJ0_length_8abf5 0 0 0 [(0, .float (310 + UInt32.ofNat i))] [] (hp) _
  refine s_aload_ne (j := 0) dJ0_length_8abf5_0 rfl ?_
  refine e_sval hi dJ0_length_8abf5_1 rfl ?_
  refine e_slen hi dJ0_length_8abf5_4 ?_
  refine s_aload_ne (j := 0) dJ0_length_8abf5_5 rfl ?_
  refine s_VS0 hi cv_J0_335 rfl rfl dJ0_length_8abf5_6 (Nat.le_of_ble_eq_true rfl) (j_coder _ _ i hi) (fun y6 h6 q6 => ?_)
  obtain ⟨rfl, eh⟩ := q6
  rw [eh]
  refine s_ishr dJ0_length_8abf5_9 ?_
  exact e_iret dJ0_length_8abf5_10 rfl (by exact ⟨by rw [show (0 : Int32) &&& 31 = 0 from by decide]; exact sr0 _, rfl⟩)

set_option maxRecDepth 100000 in
set_option maxHeartbeats 800000 in
theorem j_can (d : Nat) (hp : HP) (c : Int32) : Con d qJ1_canEncode_9a6ad 0 0 [.int c] (hp) (XI (b2i (0 ≤ c ∧ c ≤ 255)) hp) := by
  refine Con.of (by decide +kernel) (Nat.le_of_ble_eq_true rfl) ?_
  show Sem d qJ1_canEncode_9a6ad 0 0 0 [(0, .int c)] [] (hp) _
  refine s_iload_n (j := 0) dJ1_canEncode_9a6ad_0 rfl ?_
  refine s_if_lt dJ1_canEncode_9a6ad_1 (tgt := 15) (by decide) (fun c1 => ?_) (fun c1 => ?_)
  · refine s_iconst (v := 0) dJ1_canEncode_9a6ad_15 (by decide) ?_
    exact e_zret dJ1_canEncode_9a6ad_16 rfl (by first | rfl | exact b2i_z | decide) (by first | exact ⟨(b2i_f (fun z => absurd c1 (Int32.not_lt.mpr z.1))).symm, rfl⟩ | exact ⟨(b2i_f (fun z => absurd c8 (Int32.not_lt.mpr z.2))).symm, rfl⟩ | exact ⟨(b2i_f (fun z => absurd z.2 (Int32.not_le.mpr c8))).symm, rfl⟩ | exact ⟨(b2i_t ⟨Int32.not_lt.mp c1, Int32.not_lt.mp c8⟩).symm, rfl⟩)
  · refine s_iload_n (j := 0) dJ1_canEncode_9a6ad_4 rfl ?_
    refine s_sipush (v := 255) dJ1_canEncode_9a6ad_5 (by decide) ?_
    refine s_icmp_gt dJ1_canEncode_9a6ad_8 (tgt := 15) (by decide) (fun c8 => ?_) (fun c8 => ?_)
    · refine s_iconst (v := 0) dJ1_canEncode_9a6ad_15 (by decide) ?_
      exact e_zret dJ1_canEncode_9a6ad_16 rfl (by first | rfl | exact b2i_z | decide) (by first | exact ⟨(b2i_f (fun z => absurd c1 (Int32.not_lt.mpr z.1))).symm, rfl⟩ | exact ⟨(b2i_f (fun z => absurd c8 (Int32.not_lt.mpr z.2))).symm, rfl⟩ | exact ⟨(b2i_f (fun z => absurd z.2 (Int32.not_le.mpr c8))).symm, rfl⟩ | exact ⟨(b2i_t ⟨Int32.not_lt.mp c1, Int32.not_lt.mp c8⟩).symm, rfl⟩)
    · refine s_iconst (v := 1) dJ1_canEncode_9a6ad_11 (by decide) ?_
      refine s_goto dJ1_canEncode_9a6ad_12 (tgt := 16) (by decide) ?_
      exact e_zret dJ1_canEncode_9a6ad_16 rfl (by first | rfl | exact b2i_z | decide) (by first | exact ⟨(b2i_f (fun z => absurd c1 (Int32.not_lt.mpr z.1))).symm, rfl⟩ | exact ⟨(b2i_f (fun z => absurd c8 (Int32.not_lt.mpr z.2))).symm, rfl⟩ | exact ⟨(b2i_f (fun z => absurd z.2 (Int32.not_le.mpr c8))).symm, rfl⟩ | exact ⟨(b2i_t ⟨Int32.not_lt.mp c1, Int32.not_lt.mp c8⟩).symm, rfl⟩)

set_option maxRecDepth 100000 in
set_option maxHeartbeats 800000 in
theorem j_ixc (d : Nat) (hp : HP) (i : Nat) (hi : i < 5) (c : Int32) : Con d qJ1_indexOfChar_4cfef 0 0 [.float (320 + UInt32.ofNat i), .int c, .int 0, .int (nI (strLen.getD i 0))] (hp) (XI (ixF c (strByt.getD i []) (strLen.getD i 0) 0) hp) := by
  refine Con.of (by decide +kernel) (Nat.le_of_ble_eq_true rfl) ?_
  show Sem d qJ1_indexOfChar_4cfef 0 0 0 [(0, .float (320 + UInt32.ofNat i)), (1, .int c), (2, .int 0), (3, .int (nI (strLen.getD i 0)))] [] (hp) _
  have sl := sl_6 hi
  refine s_iload_n (j := 1) dJ1_indexOfChar_4cfef_0 rfl ?_
  refine s_i2b dJ1_indexOfChar_4cfef_1 ?_
  refine s_istore dJ1_indexOfChar_4cfef_2 (by decide) rfl ?_
  refine s_iload_n (j := 3) dJ1_indexOfChar_4cfef_4 rfl ?_
  refine s_istore dJ1_indexOfChar_4cfef_5 (by decide) rfl ?_
  have LP : ∀ (fu : Nat) (r k : Nat), r < fu → k + r = strLen.getD i 0 → ixF c (strByt.getD i []) r k = ixF c (strByt.getD i []) (strLen.getD i 0) 0 → Sem d qJ1_indexOfChar_4cfef 0 0 7 [(0, .float (320 + UInt32.ofNat i)), (1, .int c), (2, .int 0), (3, .int (nI (strLen.getD i 0))), (4, .int c.toInt8.toInt32), (5, .int (nI k))] [] (hp) (XI (ixF c (strByt.getD i []) (strLen.getD i 0) 0) hp) := by
    intro fu
    induction fu with
    | zero => intro r k hm; exact absurd hm (Nat.not_lt_zero _)
    | succ fu ih =>
      intro r k hm g1 g2
      refine s_iload (j := 5) dJ1_indexOfChar_4cfef_7 rfl ?_
      refine s_iload_n (j := 3) dJ1_indexOfChar_4cfef_9 rfl ?_
      refine s_icmp_ge dJ1_indexOfChar_4cfef_10 (tgt := 31) (by decide) (fun c10 => ?_) (fun c10 => ?_)
      · obtain rfl : r = 0 := by have h9 : ¬ k < strLen.getD i 0 := fun z => absurd (nI_lt z (by omega)) (Int32.not_lt.mpr c10); omega
        refine s_iconst (v := -1) dJ1_indexOfChar_4cfef_31 (by decide) ?_
        exact e_iret dJ1_indexOfChar_4cfef_32 rfl (by exact ⟨by rw [← g2]; rfl, rfl⟩)
      · have hk9 : k < strLen.getD i 0 := Nat.not_le.mp fun z => c10 (nI_le z (by omega))
        obtain ⟨r, rfl⟩ : ∃ x, r = x + 1 := ⟨r - 1, by omega⟩
        refine s_aload_ne (j := 0) dJ1_indexOfChar_4cfef_13 rfl ?_
        refine s_iload (j := 5) dJ1_indexOfChar_4cfef_14 rfl ?_
        refine e_sbyt hi (by exact vp_in_nI (by omega) (by omega)) dJ1_indexOfChar_4cfef_16 ?_
        rw [pz5 k (by omega)]
        refine s_iload (j := 4) dJ1_indexOfChar_4cfef_17 rfl ?_
        refine s_icmp_ne dJ1_indexOfChar_4cfef_19 (tgt := 25) (by decide) (fun c19 => ?_) (fun c19 => ?_)
        · refine s_iinc (j := 5) (v := _ + (1)) dJ1_indexOfChar_4cfef_25 rfl rfl (by decide) rfl ?_
          refine s_goto dJ1_indexOfChar_4cfef_28 (tgt := 7) (by decide) ?_
          refine s_locals [1, 2, 3, 4, 5, 0] rfl ?_
          simp only [nI_1]
          exact ih r (k + 1) (by omega) (by omega) (by rw [← g2, ixF, if_neg c19])
        · refine s_iload (j := 5) dJ1_indexOfChar_4cfef_22 rfl ?_
          exact e_iret dJ1_indexOfChar_4cfef_24 rfl (by exact ⟨by rw [← g2, ixF, if_pos c19], rfl⟩)
  refine s_locals [2, 3, 4, 5, 1, 0] rfl ?_
  exact LP (strLen.getD i 0 + 1) (strLen.getD i 0) 0 (Nat.lt_succ_self _) (Nat.zero_add _) rfl

set_option maxRecDepth 100000 in
set_option maxHeartbeats 800000 in
theorem j_ix1 (d : Nat) (hp : HP) (i : Nat) (hi : i < 5) (c : Int32) : Con (d + 1) qJ1_indexOf_4cfef 0 0 [.float (320 + UInt32.ofNat i), .int c, .int 0, .int (nI (strLen.getD i 0))] (hp) (XI (if 0 ≤ c ∧ c ≤ 255 then ixF c (strByt.getD i []) (strLen.getD i 0) 0 else -1) hp) := by
  refine Con.of (by decide +kernel) (Nat.le_of_ble_eq_true rfl) ?_
  show Sem (d + 1) qJ1_indexOf_4cfef 0 0 0 [(0, .float (320 + UInt32.ofNat i)), (1, .int c), (2, .int 0), (3, .int (nI (strLen.getD i 0)))] [] (hp) _
  have sl := sl_6 hi
  refine s_iload_n (j := 1) dJ1_indexOf_4cfef_0 rfl ?_
  refine s_S1i cs_J1_88 rfl dJ1_indexOf_4cfef_1 (Nat.le_of_ble_eq_true rfl) (j_can _ _ c) (fun y1 h1 q1 => ?_)
  obtain ⟨rfl, eh⟩ := q1
  rw [eh]
  refine s_if_ne dJ1_indexOf_4cfef_4 (tgt := 9) (by decide) (fun c4 => ?_) (fun c4 => ?_)
  · replace c4 := b2i_n0.mp c4
    refine s_iload_n (j := 2) dJ1_indexOf_4cfef_9 rfl ?_
    refine s_iconst (v := 0) dJ1_indexOf_4cfef_10 (by decide) ?_
    refine s_mmax cs_J1_92 rfl dJ1_indexOf_4cfef_11 (Nat.le_of_ble_eq_true rfl) ?_
    rw [max00]
    refine s_istore_n dJ1_indexOf_4cfef_14 (by decide) rfl ?_
    refine s_iload_n (j := 3) dJ1_indexOf_4cfef_15 rfl ?_
    refine s_aload_ne (j := 1) dJ1_indexOf_4cfef_16 rfl ?_
    refine e_slen hi dJ1_indexOf_4cfef_17 ?_
    refine s_mmin cs_J1_38 rfl dJ1_indexOf_4cfef_18 (Nat.le_of_ble_eq_true rfl) ?_
    rw [minLL]
    refine s_istore_n dJ1_indexOf_4cfef_21 (by decide) rfl ?_
    refine s_iload_n (j := 1) dJ1_indexOf_4cfef_22 rfl ?_
    refine s_iload_n (j := 0) dJ1_indexOf_4cfef_23 rfl ?_
    refine s_icmp_lt dJ1_indexOf_4cfef_24 (tgt := 29) (by decide) (fun c24 => ?_) (fun c24 => ?_)
    · refine s_aload_ne (j := 2) dJ1_indexOf_4cfef_29 rfl ?_
      refine s_iload_n (j := 3) dJ1_indexOf_4cfef_30 rfl ?_
      refine s_iload_n (j := 1) dJ1_indexOf_4cfef_31 rfl ?_
      refine s_iload_n (j := 0) dJ1_indexOf_4cfef_32 rfl ?_
      refine s_S4i cs_J1_95 rfl dJ1_indexOf_4cfef_33 (Nat.le_of_ble_eq_true rfl) (j_ixc _ _ i hi c) (fun y33 h33 q33 => ?_)
      obtain ⟨rfl, eh2⟩ := q33
      exact e_iret dJ1_indexOf_4cfef_36 rfl (by exact ⟨by rw [if_pos c4], eh2⟩)
    · exact absurd (show (0 : Int32) < nI (strLen.getD i 0) from nI_lt (a := 0) (by omega) (by omega)) c24
  · replace c4 := b2i_0.mp c4
    refine s_iconst (v := -1) dJ1_indexOf_4cfef_7 (by decide) ?_
    exact e_iret dJ1_indexOf_4cfef_8 rfl (by exact ⟨by rw [if_neg c4], rfl⟩)

set_option maxRecDepth 100000 in
set_option maxHeartbeats 800000 in
theorem j_ix2 (d : Nat) (hp : HP) (i : Nat) (hi : i < 5) (c : Int32) : Con (d + 2) qJ0_indexOf_7cf53 0 0 [.float (310 + UInt32.ofNat i), .int c, .int 0] (hp) (XI (if 0 ≤ c ∧ c ≤ 255 then ixF c (strByt.getD i []) (strLen.getD i 0) 0 else -1) hp) := by
  refine Con.of (by decide +kernel) (Nat.le_of_ble_eq_true rfl) ?_
  show Sem (d + 2) qJ0_indexOf_7cf53 0 0 0 [(0, .float (310 + UInt32.ofNat i)), (1, .int c), (2, .int 0)] [] (hp) _
  refine s_aload_ne (j := 0) dJ0_indexOf_7cf53_0 rfl ?_
  refine s_VS0 hi cv_J0_492 rfl rfl dJ0_indexOf_7cf53_1 (Nat.le_of_ble_eq_true rfl) (j_isL _ _ i hi) (fun y1 h1 q1 => ?_)
  obtain ⟨rfl, eh⟩ := q1
  rw [eh]
  refine s_if_eq dJ0_indexOf_7cf53_4 (tgt := 23) (by decide) (fun c4 => ?_) (fun c4 => ?_)
  · exact absurd c4 (by decide)
  · refine s_aload_ne (j := 0) dJ0_indexOf_7cf53_7 rfl ?_
    refine e_sval hi dJ0_indexOf_7cf53_8 rfl ?_
    refine s_iload_n (j := 1) dJ0_indexOf_7cf53_11 rfl ?_
    refine s_iload_n (j := 2) dJ0_indexOf_7cf53_12 rfl ?_
    refine s_aload_ne (j := 0) dJ0_indexOf_7cf53_13 rfl ?_
    refine s_VS0 hi cv_J0_505 rfl rfl dJ0_indexOf_7cf53_14 (Nat.le_of_ble_eq_true rfl) (j_len _ _ i hi) (fun y14 h14 q14 => ?_)
    obtain ⟨rfl, eh2⟩ := q14
    rw [eh2]
    refine s_S4i cs_J0_637 rfl dJ0_indexOf_7cf53_17 (Nat.le_of_ble_eq_true rfl) (j_ix1 _ _ i hi c) (fun y17 h17 q17 => ?_)
    obtain ⟨rfl, eh3⟩ := q17
    refine s_goto dJ0_indexOf_7cf53_20 (tgt := 36) (by decide) ?_
    exact e_iret dJ0_indexOf_7cf53_36 rfl (by exact ⟨rfl, eh3⟩)

set_option maxRecDepth 100000 in
set_option maxHeartbeats 800000 in
theorem j_indexOf (d : Nat) (hp : HP) (i : Nat) (hi : i < 5) (c : Int32) : Con (d + 3) qJ0_indexOf_0f7a4 0 0 [.float (310 + UInt32.ofNat i), .int c] (hp) (XI (if 0 ≤ c ∧ c ≤ 255 then ixF c (strByt.getD i []) (strLen.getD i 0) 0 else -1) hp) := by
  refine Con.of (by decide +kernel) (Nat.le_of_ble_eq_true rfl) ?_
  show Sem (d + 3) qJ0_indexOf_0f7a4 0 0 0 [(0, .float (310 + UInt32.ofNat i)), (1, .int c)] [] (hp) _
  refine s_aload_ne (j := 0) dJ0_indexOf_0f7a4_0 rfl ?_
  refine s_iload_n (j := 1) dJ0_indexOf_0f7a4_1 rfl ?_
  refine s_iconst (v := 0) dJ0_indexOf_0f7a4_2 (by decide) ?_
  refine s_VS2 hi cv_J0_633 rfl rfl dJ0_indexOf_0f7a4_3 (Nat.le_of_ble_eq_true rfl) (j_ix2 _ _ i hi c) (fun y3 h3 q3 => ?_)
  obtain ⟨rfl, eh3⟩ := q3
  exact e_iret dJ0_indexOf_0f7a4_6 rfl (by exact ⟨rfl, eh3⟩)

set_option maxRecDepth 100000 in
set_option maxHeartbeats 800000 in
theorem j_chk3 (d : Nat) (hp : HP) (k m : Nat) (hk : k < m) (hm : m < 2 ^ 31) : Con d qJ3_checkIndex_8e157 0 0 [.int (nI k), .int (nI m), .retAddr 0] (hp) (XI (nI k) hp) := by
  refine Con.of (by decide +kernel) (Nat.le_of_ble_eq_true rfl) ?_
  show Sem d qJ3_checkIndex_8e157 0 0 0 [(0, .int (nI k)), (1, .int (nI m)), (2, .retAddr 0)] [] (hp) _
  refine s_iload_n (j := 0) dJ3_checkIndex_8e157_0 rfl ?_
  refine s_if_lt dJ3_checkIndex_8e157_1 (tgt := 9) (by decide) (fun c1 => ?_) (fun c1 => ?_)
  · exact absurd c1 (nI_pos (by omega))
  · refine s_iload_n (j := 0) dJ3_checkIndex_8e157_4 rfl ?_
    refine s_iload_n (j := 1) dJ3_checkIndex_8e157_5 rfl ?_
    refine s_icmp_lt dJ3_checkIndex_8e157_6 (tgt := 16) (by decide) (fun c6 => ?_) (fun c6 => ?_)
    · refine s_iload_n (j := 0) dJ3_checkIndex_8e157_16 rfl ?_
      exact e_iret dJ3_checkIndex_8e157_17 rfl (by exact ⟨rfl, rfl⟩)
    · exact absurd (nI_lt hk hm) c6

set_option maxRecDepth 100000 in
set_option maxHeartbeats 800000 in
theorem j_chk (d : Nat) (hp : HP) (k m : Nat) (hk : k < m) (hm : m < 2 ^ 31) : Con (d + 1) qJ0_checkIndex_df160 0 0 [.int (nI k), .int (nI m)] (hp) (XV hp) := by
  refine Con.of (by decide +kernel) (Nat.le_of_ble_eq_true rfl) ?_
  show Sem (d + 1) qJ0_checkIndex_df160 0 0 0 [(0, .int (nI k)), (1, .int (nI m))] [] (hp) _
  refine s_iload_n (j := 0) dJ0_checkIndex_df160_0 rfl ?_
  refine s_iload_n (j := 1) dJ0_checkIndex_df160_1 rfl ?_
  refine e_siobe dJ0_checkIndex_df160_2 rfl ?_
  refine s_S3i cs_J0_1059 rfl dJ0_checkIndex_df160_5 (Nat.le_of_ble_eq_true rfl) (j_chk3 _ _ k m hk hm) (fun y5 h5 q5 => ?_)
  obtain ⟨rfl, eh⟩ := q5
  rw [eh]
  refine s_pop dJ0_checkIndex_df160_8 rfl ?_
  exact e_vret dJ0_checkIndex_df160_9 rfl (by rfl)

set_option maxRecDepth 100000 in
set_option maxHeartbeats 800000 in
theorem j_ch1 (d : Nat) (hp : HP) (i : Nat) (hi : i < 5) (k : Nat) (hk : k < strLen.getD i 0) : Con (d + 2) qJ1_charAt_3b067 0 0 [.float (320 + UInt32.ofNat i), .int (nI k)] (hp) (XI ((strByt.getD i []).getD k 0) hp) := by
  refine Con.of (by decide +kernel) (Nat.le_of_ble_eq_true rfl) ?_
  show Sem (d + 2) qJ1_charAt_3b067 0 0 0 [(0, .float (320 + UInt32.ofNat i)), (1, .int (nI k))] [] (hp) _
  have sl := sl_6 hi
  refine s_iload_n (j := 1) dJ1_charAt_3b067_0 rfl ?_
  refine s_aload_ne (j := 0) dJ1_charAt_3b067_1 rfl ?_
  refine e_slen hi dJ1_charAt_3b067_2 ?_
  refine s_S2v cs_J1_9 rfl dJ1_charAt_3b067_3 (Nat.le_of_ble_eq_true rfl) (j_chk _ _ k _ hk (by omega)) (fun h3 q3 => ?_)
  rw [show h3 = hp from q3]
  refine s_aload_ne (j := 0) dJ1_charAt_3b067_6 rfl ?_
  refine s_iload_n (j := 1) dJ1_charAt_3b067_7 rfl ?_
  refine e_sbyt hi (by exact vp_in_nI (by omega) (by omega)) dJ1_charAt_3b067_8 ?_
  rw [pz5 k (by omega)]
  refine s_sipush (v := 255) dJ1_charAt_3b067_9 (by decide) ?_
  refine s_iand dJ1_charAt_3b067_12 ?_
  refine s_i2c dJ1_charAt_3b067_13 ?_
  exact e_zret dJ1_charAt_3b067_14 rfl (by exact ch_nar (sb_pos hi (by omega))) (by exact ⟨ch_id (sb_pos hi (by omega)), rfl⟩)

set_option maxRecDepth 100000 in
set_option maxHeartbeats 800000 in
theorem j_charAt (d : Nat) (hp : HP) (i : Nat) (hi : i < 5) (k : Nat) (hk : k < strLen.getD i 0) : Con (d + 3) qJ0_charAt_5068e 0 0 [.float (310 + UInt32.ofNat i), .int (nI k)] (hp) (XI ((strByt.getD i []).getD k 0) hp) := by
  refine Con.of (by decide +kernel) (Nat.le_of_ble_eq_true rfl) ?_
  show Sem (d + 3) qJ0_charAt_5068e 0 0 0 [(0, .float (310 + UInt32.ofNat i)), (1, .int (nI k))] [] (hp) _
  have sl := sl_6 hi
  refine s_aload_ne (j := 0) dJ0_charAt_5068e_0 rfl ?_
  refine s_VS0 hi cv_J0_492 rfl rfl dJ0_charAt_5068e_1 (Nat.le_of_ble_eq_true rfl) (j_isL _ _ i hi) (fun y1 h1 q1 => ?_)
  obtain ⟨rfl, eh⟩ := q1
  rw [eh]
  refine s_if_eq dJ0_charAt_5068e_4 (tgt := 16) (by decide) (fun c4 => ?_) (fun c4 => ?_)
  · exact absurd c4 (by decide)
  · refine s_aload_ne (j := 0) dJ0_charAt_5068e_7 rfl ?_
    refine e_sval hi dJ0_charAt_5068e_8 rfl ?_
    refine s_iload_n (j := 1) dJ0_charAt_5068e_11 rfl ?_
    refine s_S2i cs_J0_495 rfl dJ0_charAt_5068e_12 (Nat.le_of_ble_eq_true rfl) (j_ch1 _ _ i hi k hk) (fun y12 h12 q12 => ?_)
    obtain ⟨rfl, eh3⟩ := q12
    exact e_zret dJ0_charAt_5068e_15 rfl (by exact ch_nar2 (sb_pos hi (by omega))) (by exact ⟨rfl, eh3⟩)
