/-- the number read so far -/
def nvN (T : Nat → Int32) (N a k : Nat) : Int32 := if k = 0 then -1 else nbS T N a k
theorem nbS_in {T : Nat → Int32} {N a : Nat} : ∀ {k : Nat}, k ≤ 2 → (∀ i, i < k → dgt (sg T N (a + i))) → ∃ j : Nat, j < 10 ^ k ∧ nbS T N a k = nI j
  | 0, _, _ => ⟨0, by decide, rfl⟩
  | k + 1, hk, h => by
    obtain ⟨j, hj, e⟩ := nbS_in (k := k) (by omega) (fun i hi => h i (by omega))
    have h9 := h k (by omega)
    obtain ⟨m, m1, m2, e2⟩ := rg_nI (a := 48) (b := 57) (m := 48) (n := 57) (by decide) (by decide) h9
    have hp : 10 ^ k ≤ 10 := by
      have : k = 0 ∨ k = 1 := by omega
      rcases this with rfl | rfl <;> decide
    refine ⟨10 * j + (m - 48), ?_, ?_⟩
    · rw [Nat.pow_succ]; omega
    · show 10 * nbS T N a k + sg T N (a + k) - 48 = _
      rw [e, e2, show (10 : Int32) = nI 10 from rfl, show (48 : Int32) = nI 48 from rfl, nI_mul, nI_add, nI_subI (by omega) (by omega)]
      congr 1
      omega
theorem nvN_s {T : Nat → Int32} {N a k : Nat} (h : ∀ i, i < k → dgt (sg T N (a + i))) (hk : k < 2) : nvN T N a (k + 1) = (if nvN T N a k < 0 then 0 else nvN T N a k) * 10 + sg T N (a + k) - 48 := by
  have e : (if nvN T N a k < 0 then 0 else nvN T N a k) = nbS T N a k := by
    unfold nvN
    by_cases h0 : k = 0
    · subst h0; rfl
    · rw [if_neg h0]
      obtain ⟨j, hj, e⟩ := nbS_in (T := T) (N := N) (a := a) (k := k) (by omega) h
      have hp : 10 ^ k ≤ 10 := by
        have : k = 0 ∨ k = 1 := by omega
        rcases this with rfl | rfl <;> decide
      rw [e, if_neg (nI_pos (by omega))]
  rw [e, Int32.mul_comm]
  rfl
theorem nbK_fin {T : Nat → Int32} {N a k : Nat} (h1 : ∀ i, i < k → dgt (sg T N (a + i))) (h2 : k = 2 ∨ ¬ dgt (sg T N (a + k))) (h3 : k ≤ 2) : k = nbK T N a := by
  by_cases h0 : dgt (sg T N a)
  · exact nb_fin h0 h1 h2 h3
  · rw [nbK_0 h0]
    cases k with
    | zero => rfl
    | succ k => exact absurd (h1 0 (by omega)) h0
theorem nvN_fin {T : Nat → Int32} {N a k : Nat} (h1 : ∀ i, i < k → dgt (sg T N (a + i))) (h2 : k = 2 ∨ ¬ dgt (sg T N (a + k))) (h3 : k ≤ 2) : nvN T N a k = if dgt (sg T N a) then nbS T N a (nbK T N a) else -1 := by
  have e := nbK_fin h1 h2 h3
  rw [← e]
  unfold nvN
  by_cases h0 : dgt (sg T N a)
  · rw [if_pos h0, if_neg]
    intro hz
    subst hz
    exact h2.elim (fun z => absurd z (by decide)) (fun z => z h0)
  · rw [if_neg h0]
    have : k = 0 := by rw [e, nbK_0 h0]
    rw [if_pos this]

set_option maxRecDepth 100000 in
set_option maxHeartbeats 800000 in
theorem x_sign (d : Nat) (X : XZ) (M : MZ) (D : HP) (c : Nat) (hc : c < 6) (T : Nat → Int32) (N : Nat) (hT : TX X T N) (a z : Nat) (g : Nat → Int32) (ha : a ≤ N) : Con d qX7_sign 0 0 [.ref 34] (xh (rdx X c a z g) M D) (XI (scx T N a) (xh (rdx X c a z g) M D)) := by
  refine Con.of (by decide +kernel) (Nat.le_of_ble_eq_true rfl) ?_
  show Sem d qX7_sign 0 0 0 [(0, .ref 34)] [] (xh (rdx X c a z g) M D) _
  refine s_aload_nr (j := 0) dX7_sign_0 rfl ?_
  refine gX_X7_28 dX7_sign_1 rfl ?_
  refine s_topi (fun z9 ez9 => ?_)
  obtain rfl : z9 = nI a := ez9.trans (rdx_27 _ _ _ _ _)
  refine s_aload_nr (j := 0) dX7_sign_4 rfl ?_
  refine gX_X7_15 dX7_sign_5 rfl ?_
  refine s_topi (fun z9 ez9 => ?_)
  obtain rfl : z9 = nI N := ez9.trans ((rdx_26 _ _ _ _ _).trans hT.1)
  refine s_icmp_ge dX7_sign_8 (tgt := 23) (by decide) (fun c8 => ?_) (fun c8 => ?_)
  · have hlt : ¬ a < N := fun z => absurd (nI_lt z (by have := hT.2.1; omega)) (Int32.not_lt.mpr c8)
    refine s_sipush (v := 255) dX7_sign_23 (by decide) ?_
    exact e_zret dX7_sign_26 rfl (by first | (have e9 := scx_nar hT a; unfold scx at e9; rw [if_pos hlt] at e9; exact e9) | decide) (by exact ⟨(if_neg hlt).symm, rfl⟩)
  · have hlt : a < N := Nat.not_le.mp fun z => c8 (nI_le z (by have := hT.2.1; omega))
    refine s_aload_nr (j := 0) dX7_sign_11 rfl ?_
    refine gX_X7_9 dX7_sign_12 rfl ?_
    refine s_aload_nr (j := 0) dX7_sign_15 rfl ?_
    refine gX_X7_28 dX7_sign_16 rfl ?_
    refine s_topi (fun z9 ez9 => ?_)
    obtain rfl : z9 = nI a := ez9.trans (rdx_27 _ _ _ _ _)
    refine lX_X7_signs dX7_sign_19 (by have := hT.2.1; exact vp_in_nI (by omega) (by decide)) ?_
    rw [rdx_s, pz5 a (by have := hT.2.1; omega), (hT.2.2 a hlt).1]
    refine s_goto dX7_sign_20 (tgt := 26) (by decide) ?_
    exact e_zret dX7_sign_26 rfl (by first | (have e9 := scx_nar hT a; unfold scx at e9; rw [if_pos hlt] at e9; exact e9) | decide) (by exact ⟨(if_pos hlt).symm, rfl⟩)

set_option maxRecDepth 100000 in
set_option maxHeartbeats 800000 in
theorem x_took (d : Nat) (X : XZ) (M : MZ) (D : HP) (c : Nat) (hc : c < 6) (T : Nat → Int32) (N : Nat) (hT : TX X T N) (a z : Nat) (g : Nat → Int32) (ha : a ≤ N) (ch : Int32) (hch : 0 ≤ ch ∧ ch ≤ 127) : Con (d + 1) qX7_took 0 0 [.ref 34, .int ch] (xh (rdx X c a z g) M D) (PI fun y h => y = b2i (sg T N a = ch) ∧ h = xh (rdx X c (tkA T N a ch) z g) M D) := by
  refine Con.of (by decide +kernel) (Nat.le_of_ble_eq_true rfl) ?_
  show Sem (d + 1) qX7_took 0 0 0 [(0, .ref 34), (1, .int ch)] [] (xh (rdx X c a z g) M D) _
  refine s_aload_nr (j := 0) dX7_took_0 rfl ?_
  refine s_V0i cv_X7_39 rfl dX7_took_1 xg_X7 rfl (Nat.le_of_ble_eq_true rfl) (x_sign _ X M D c hc T N hT a z g ha) (fun y1 h1 q1 => ?_)
  obtain ⟨rfl, rfl⟩ := q1
  refine s_iload_n (j := 1) dX7_took_4 rfl ?_
  refine s_icmp_eq dX7_took_5 (tgt := 10) (by decide) (fun c5 => ?_) (fun c5 => ?_)
  · refine s_aload_nr (j := 0) dX7_took_10 rfl ?_
    refine s_dup dX7_took_11 rfl ?_
    refine gX_X7_28 dX7_took_12 rfl ?_
    refine s_topi (fun z9 ez9 => ?_)
    obtain rfl : z9 = nI a := ez9.trans (rdx_27 _ _ _ _ _)
    refine s_iconst (v := 1) dX7_took_15 (by decide) ?_
    refine s_iadd dX7_took_16 ?_
    rw [nI_1]
    refine pX_X7_28 dX7_took_17 rfl ?_
    rw [rdx_p]
    refine s_iconst (v := 1) dX7_took_20 (by decide) ?_
    exact e_zret dX7_took_21 rfl (by first | rfl | exact b2i_z | decide) (by rw [tkA, if_pos ((scx_sg hch).mp c5)]; exact ⟨(b2i_t ((scx_sg hch).mp c5)).symm, rfl⟩)
  · refine s_iconst (v := 0) dX7_took_8 (by decide) ?_
    exact e_zret dX7_took_9 rfl (by first | rfl | exact b2i_z | decide) (by rw [tkA, if_neg (fun w => c5 ((scx_sg hch).mpr w))]; exact ⟨(b2i_f (fun w => c5 ((scx_sg hch).mpr w))).symm, rfl⟩)

set_option maxRecDepth 100000 in
set_option maxHeartbeats 800000 in
theorem x_number (d : Nat) (X : XZ) (M : MZ) (D : HP) (c : Nat) (hc : c < 6) (T : Nat → Int32) (N : Nat) (hT : TX X T N) (a z : Nat) (g : Nat → Int32) (ha : a ≤ N) : Con (d + 1) qX7_number 0 0 [.ref 34] (xh (rdx X c a z g) M D) (PI fun y h => y = (if dgt (sg T N a) then nbS T N a (nbK T N a) else -1) ∧ h = xh (rdx X c (a + nbK T N a) z g) M D) := by
  refine Con.of (by decide +kernel) (Nat.le_of_ble_eq_true rfl) ?_
  show Sem (d + 1) qX7_number 0 0 0 [(0, .ref 34)] [] (xh (rdx X c a z g) M D) _
  have hN1 := hT.2.1
  refine s_iconst (v := -1) dX7_number_0 (by decide) ?_
  refine s_istore_n dX7_number_1 (by decide) rfl ?_
  refine s_iconst (v := 0) dX7_number_2 (by decide) ?_
  refine s_istore_n dX7_number_3 (by decide) rfl ?_
  have LP : ∀ (fu : Nat) (r k : Nat), r < fu → k + r = 2 → (∀ i, i < k → dgt (sg T N (a + i))) → Sem (d + 1) qX7_number 0 0 4 [(0, .ref 34), (1, .int (nvN T N a k)), (2, .int (nI k))] [] (xh (rdx X c (a + k) z g) M D) (PI fun y h => y = (if dgt (sg T N a) then nbS T N a (nbK T N a) else -1) ∧ h = xh (rdx X c (a + nbK T N a) z g) M D) := by
    intro fu
    induction fu with
    | zero => intro r k hm; exact absurd hm (Nat.not_lt_zero _)
    | succ fu ih =>
      intro r k hm g1 g2
      refine s_iload_n (j := 2) dX7_number_4 rfl ?_
      refine s_iconst (v := 2) dX7_number_5 (by decide) ?_
      refine s_icmp_ge dX7_number_6 (tgt := 88) (by decide) (fun c6 => ?_) (fun c6 => ?_)
      · obtain rfl : k = 2 := by have h9 : ¬ k < 2 := fun w => absurd (nI_lt (b := 2) w (by decide)) (Int32.not_lt.mpr c6); omega
        refine s_iload_n (j := 1) dX7_number_88 rfl ?_
        exact e_iret dX7_number_89 rfl (by have hk := (Or.inl rfl : 2 = 2 ∨ ¬ dgt (sg T N (a + 2))); exact ⟨nvN_fin g2 hk (by omega), by rw [← nbK_fin g2 hk (by omega)]⟩)
      · have hk9 : k < 2 := Nat.not_le.mp fun w => c6 (nI_le (a := 2) w (by omega))
        obtain ⟨r, rfl⟩ : ∃ x, r = x + 1 := ⟨r - 1, by omega⟩
        have han : a + k ≤ N := by by_cases e : k = 0; (omega); (have := dg_lt (g2 (k - 1) (by omega)); omega)
        refine s_aload_nr (j := 0) dX7_number_9 rfl ?_
        refine gX_X7_28 dX7_number_10 rfl ?_
        refine s_topi (fun z9 ez9 => ?_)
        obtain rfl : z9 = nI (a + k) := ez9.trans (rdx_27 _ _ _ _ _)
        refine s_aload_nr (j := 0) dX7_number_13 rfl ?_
        refine gX_X7_15 dX7_number_14 rfl ?_
        refine s_topi (fun z9 ez9 => ?_)
        obtain rfl : z9 = nI N := ez9.trans ((rdx_26 _ _ _ _ _).trans hT.1)
        refine s_icmp_ge dX7_number_17 (tgt := 48) (by decide) (fun c17 => ?_) (fun c17 => ?_)
        · have hlt : ¬ a + k < N := fun w => absurd (nI_lt w (by omega)) (Int32.not_lt.mpr c17)
          refine s_iload_n (j := 1) dX7_number_48 rfl ?_
          exact e_iret dX7_number_49 rfl (by have hk := (Or.inr (fun w => hlt (dg_lt w)) : k = 2 ∨ ¬ dgt (sg T N (a + k))); exact ⟨nvN_fin g2 hk (by omega), by rw [← nbK_fin g2 hk (by omega)]⟩)
        · have hlt : a + k < N := Nat.not_le.mp fun w => c17 (nI_le w (by omega))
          refine s_aload_nr (j := 0) dX7_number_20 rfl ?_
          refine gX_X7_9 dX7_number_21 rfl ?_
          refine s_aload_nr (j := 0) dX7_number_24 rfl ?_
          refine gX_X7_28 dX7_number_25 rfl ?_
          refine s_topi (fun z9 ez9 => ?_)
          obtain rfl : z9 = nI (a + k) := ez9.trans (rdx_27 _ _ _ _ _)
          refine lX_X7_signs dX7_number_28 (by exact vp_in_nI (by omega) (by decide)) ?_
          rw [rdx_s, pz5 (a + k) (by omega), show X.2.1 27 (a + k) = sg T N (a + k) from by unfold sg; rw [if_pos hlt]; exact (hT.2.2 _ hlt).1]
          refine s_bipush (v := 48) dX7_number_29 (by decide) ?_
          refine s_icmp_lt dX7_number_31 (tgt := 48) (by decide) (fun c31 => ?_) (fun c31 => ?_)
          · refine s_iload_n (j := 1) dX7_number_48 rfl ?_
            exact e_iret dX7_number_49 rfl (by have hk := (Or.inr (fun w => absurd c31 (Int32.not_lt.mpr w.1)) : k = 2 ∨ ¬ dgt (sg T N (a + k))); exact ⟨nvN_fin g2 hk (by omega), by rw [← nbK_fin g2 hk (by omega)]⟩)
          · refine s_aload_nr (j := 0) dX7_number_34 rfl ?_
            refine gX_X7_9 dX7_number_35 rfl ?_
            refine s_aload_nr (j := 0) dX7_number_38 rfl ?_
            refine gX_X7_28 dX7_number_39 rfl ?_
            refine s_topi (fun z9 ez9 => ?_)
            obtain rfl : z9 = nI (a + k) := ez9.trans (rdx_27 _ _ _ _ _)
            refine lX_X7_signs dX7_number_42 (by exact vp_in_nI (by omega) (by decide)) ?_
            rw [rdx_s, pz5 (a + k) (by omega), show X.2.1 27 (a + k) = sg T N (a + k) from by unfold sg; rw [if_pos hlt]; exact (hT.2.2 _ hlt).1]
            refine s_bipush (v := 57) dX7_number_43 (by decide) ?_
            refine s_icmp_le dX7_number_45 (tgt := 50) (by decide) (fun c45 => ?_) (fun c45 => ?_)
            · have hdg : dgt (sg T N (a + k)) := ⟨Int32.not_lt.mp c31, c45⟩
              refine s_iload_n (j := 1) dX7_number_50 rfl ?_
              refine s_iconst (v := 0) dX7_number_51 (by decide) ?_
              refine s_mmax cs_X7_94 rfl dX7_number_52 (Nat.le_of_ble_eq_true rfl) ?_
              refine s_bipush (v := 10) dX7_number_55 (by decide) ?_
              refine s_imul dX7_number_57 ?_
              refine s_aload_nr (j := 0) dX7_number_58 rfl ?_
              refine gX_X7_9 dX7_number_59 rfl ?_
              refine s_aload_nr (j := 0) dX7_number_62 rfl ?_
              refine gX_X7_28 dX7_number_63 rfl ?_
              refine s_topi (fun z9 ez9 => ?_)
              obtain rfl : z9 = nI (a + k) := ez9.trans (rdx_27 _ _ _ _ _)
              refine lX_X7_signs dX7_number_66 (by exact vp_in_nI (by omega) (by decide)) ?_
              rw [rdx_s, pz5 (a + k) (by omega), show X.2.1 27 (a + k) = sg T N (a + k) from by unfold sg; rw [if_pos hlt]; exact (hT.2.2 _ hlt).1]
              refine s_iadd dX7_number_67 ?_
              refine s_bipush (v := 48) dX7_number_68 (by decide) ?_
              refine s_isub dX7_number_70 ?_
              refine s_istore_n dX7_number_71 (by decide) rfl ?_
              refine s_aload_nr (j := 1) dX7_number_72 rfl ?_
              refine s_dup dX7_number_73 rfl ?_
              refine gX_X7_28 dX7_number_74 rfl ?_
              refine s_topi (fun z9 ez9 => ?_)
              obtain rfl : z9 = nI (a + k) := ez9.trans (rdx_27 _ _ _ _ _)
              refine s_iconst (v := 1) dX7_number_77 (by decide) ?_
              refine s_iadd dX7_number_78 ?_
              refine pX_X7_28 dX7_number_79 rfl ?_
              refine s_iinc (j := 2) (v := _ + (1)) dX7_number_82 rfl rfl (by decide) rfl ?_
              refine s_goto dX7_number_85 (tgt := 4) (by decide) ?_
              refine s_locals [2, 1, 0] rfl ?_
              rw [show nI (a + k) + 1 = nI (a + k + 1) from nI_1 _, rdx_p]
              simp only [nI_1]
              have e8 := ih r (k + 1) (by omega) (by omega) (fun i hi => by by_cases e : i = k; (rw [e]; exact hdg); (exact g2 i (by omega)))
              rw [nvN_s g2 (by omega), ← Nat.add_assoc] at e8
              exact e8
            · refine s_iload_n (j := 1) dX7_number_48 rfl ?_
              exact e_iret dX7_number_49 rfl (by have hk := (Or.inr (fun w => c45 w.2) : k = 2 ∨ ¬ dgt (sg T N (a + k))); exact ⟨nvN_fin g2 hk (by omega), by rw [← nbK_fin g2 hk (by omega)]⟩)
  refine s_locals [2, 1, 0] rfl ?_
  exact LP 3 2 0 (by decide) (by rfl) (fun i hi => absurd hi (Nat.not_lt_zero _))

set_option maxRecDepth 100000 in
set_option maxHeartbeats 800000 in
theorem x_add (d : Nat) (X : XZ) (M : MZ) (D : HP) (c : Nat) (hc : c < 6) (T : Nat → Int32) (N : Nat) (hT : TX X T N) (a z : Nat) (g : Nat → Int32) (v : Int32) (hz : z < 100) : Con d qX0_add 0 0 [.ref (53 + 5 * c), .int v] (xh (rdx X c a z g) M D) (PV fun h => h = xh (rdx X c a (z + 1) (upd g z v)) M D) := by
  refine Con.of (by decide +kernel) (Nat.le_of_ble_eq_true rfl) ?_
  show Sem d qX0_add 0 0 0 [(0, .ref (53 + 5 * c)), (1, .int v)] [] (xh (rdx X c a z g) M D) _
  refine s_aload_nr (j := 0) dX0_add_0 rfl ?_
  refine gX_X0_24 (c := c) hc dX0_add_1 rfl ?_
  refine s_topi (fun z9 ez9 => ?_)
  obtain rfl : z9 = nI z := ez9.trans (rdx_z _ _ _ _ _)
  refine s_bipush (v := 100) dX0_add_4 (by decide) ?_
  refine s_icmp_ge dX0_add_6 (tgt := 29) (by decide) (fun c6 => ?_) (fun c6 => ?_)
  · exact absurd (nI_lt (b := 100) hz (by decide)) (Int32.not_lt.mpr c6)
  · refine s_aload_nr (j := 0) dX0_add_9 rfl ?_
    refine gX_X0_9 (c := c) hc dX0_add_10 rfl ?_
    refine s_aload_nr (j := 0) dX0_add_13 rfl ?_
    refine gX_X0_24 (c := c) hc dX0_add_14 rfl ?_
    refine s_topi (fun z9 ez9 => ?_)
    obtain rfl : z9 = nI z := ez9.trans (rdx_z _ _ _ _ _)
    refine s_iload_n (j := 1) dX0_add_17 rfl ?_
    refine sX_X0_code (c := c) hc dX0_add_18 (by exact vp_in_nI (by omega) (by decide)) ?_
    rw [pz5 z (by omega), rdx_g]
    refine s_aload_nr (j := 0) dX0_add_19 rfl ?_
    refine s_dup dX0_add_20 rfl ?_
    refine gX_X0_24 (c := c) hc dX0_add_21 rfl ?_
    refine s_topi (fun z9 ez9 => ?_)
    obtain rfl : z9 = nI z := ez9.trans (rdx_z _ _ _ _ _)
    refine s_iconst (v := 1) dX0_add_24 (by decide) ?_
    refine s_iadd dX0_add_25 ?_
    rw [nI_1]
    refine pX_X0_24 (c := c) hc dX0_add_26 rfl ?_
    rw [rdx_w]
    exact e_vret dX0_add_29 rfl (by rfl)

set_option maxRecDepth 100000 in
set_option maxHeartbeats 800000 in
theorem x_testOf (d : Nat) (hp : HP) (p q r : Int32) : Con d qX0_testOf 0 0 [.int p, .int q, .int r] (hp) (XI ((p * 3 + q) * 100 + r) hp) := by
  refine Con.of (by decide +kernel) (Nat.le_of_ble_eq_true rfl) ?_
  show Sem d qX0_testOf 0 0 0 [(0, .int p), (1, .int q), (2, .int r)] [] (hp) _
  refine s_iload_n (j := 0) dX0_testOf_0 rfl ?_
  refine s_iconst (v := 3) dX0_testOf_1 (by decide) ?_
  refine s_imul dX0_testOf_2 ?_
  refine s_iload_n (j := 1) dX0_testOf_3 rfl ?_
  refine s_iadd dX0_testOf_4 ?_
  refine s_bipush (v := 100) dX0_testOf_5 (by decide) ?_
  refine s_imul dX0_testOf_7 ?_
  refine s_iload_n (j := 2) dX0_testOf_8 rfl ?_
  refine s_iadd dX0_testOf_9 ?_
  exact e_iret dX0_testOf_10 rfl (by exact ⟨rfl, rfl⟩)

theorem cmp_in {c : Int32} : 0 ≤ cmpN c ↔ (60 ≤ c ∧ c ≤ 62) := by
  unfold cmpN
  by_cases h : 60 ≤ c ∧ c ≤ 62
  · rw [if_pos h]
    refine ⟨fun _ => h, fun _ => ?_⟩
    obtain ⟨m, m1, m2, e⟩ := rg_nI (a := 60) (b := 62) (m := 60) (n := 62) (by decide) (by decide) h
    rw [e, show (60 : Int32) = nI 60 from rfl, nI_subI m1 (by omega)]
    exact nI_pos' (by omega)
  · rw [if_neg h]
    exact ⟨fun z => absurd z (by decide), fun z => absurd z h⟩
theorem tkv_eq {T : Nat → Int32} {N a : Nat} (h1 : 0 ≤ plc (sg T N a)) (h2 : 60 ≤ sg T N (a + 1) ∧ sg T N (a + 1) ≤ 62) (h3 : dgt (sg T N (a + 2))) : (plc (sg T N a) * 3 + cmpN (sg T N (a + 1))) * 100 + (if dgt (sg T N (a + 2)) then nbS T N (a + 2) (nbK T N (a + 2)) else -1) = tkX (ttV T N a) := by
  obtain ⟨f, hf, e1⟩ := plc_n h1
  obtain ⟨m, m1, m2, e2⟩ := rg_nI (a := 60) (b := 62) (m := 60) (n := 62) (by decide) (by decide) h2
  obtain ⟨k, hk, e3⟩ := nb_n h3
  rw [if_pos h3, cmpN, if_pos h2]
  unfold ttV
  rw [e1, e2, e3, show (60 : Int32) = nI 60 from rfl, nI_subI m1 (by omega), show (1000 : Int32) = nI 1000 from rfl, show (100 : Int32) = nI 100 from rfl, show (3 : Int32) = nI 3 from rfl, nI_mul, nI_mul, nI_mul, nI_add, nI_add, nI_add, nI_mul, nI_add, tkX_n hf (by omega) hk]
  congr 1
  omega

set_option maxRecDepth 100000 in
set_option maxHeartbeats 800000 in
theorem x_test (d : Nat) (X : XZ) (M : MZ) (D : HP) (c : Nat) (hc : c < 6) (T : Nat → Int32) (N : Nat) (hT : TX X T N) (a z : Nat) (g : Nat → Int32) (ha : a ≤ N) (hz : z ≤ a) : Con (d + 4) qX7_test 0 0 [.ref 34, .ref (53 + 5 * c)] (xh (rdx X c a z g) M D) (PI fun y h => y = b2i ((teR T N a).1 = true) ∧ ∃ g2, h = xh (rdx X c (teR T N a).2.1 (z + (teR T N a).2.2.length) g2) M D ∧ (∀ i, i < z → g2 i = g i) ∧ GDL g2 z (teR T N a).2.2) := by
  refine Con.of (by decide +kernel) (Nat.le_of_ble_eq_true rfl) ?_
  show Sem (d + 4) qX7_test 0 0 0 [(0, .ref 34), (1, .ref (53 + 5 * c))] [] (xh (rdx X c a z g) M D) _
  have hN1 := hT.2.1
  refine s_ldcS (tx := "pkfswl") (j := 3) dX7_test_0 rfl (by decide) ?_
  refine s_aload_nr (j := 0) dX7_test_2 rfl ?_
  refine s_V0i cv_X7_39 rfl dX7_test_3 xg_X7 rfl (Nat.le_of_ble_eq_true rfl) (x_sign _ X M D c hc T N hT a z g ha) (fun y3 h3 q3 => ?_)
  obtain ⟨rfl, rfl⟩ := q3
  refine s_VS1 (i := 3) (by decide) cv_X7_84 rfl rfl dX7_test_6 (Nat.le_of_ble_eq_true rfl) (j_indexOf _ _ 3 (by decide) _) (fun y6 h6 q6 => ?_)
  obtain ⟨rfl, rfl⟩ := q6
  rw [ixl hT]
  refine s_istore_n dX7_test_9 (by decide) rfl ?_
  refine s_iload_n (j := 0) dX7_test_10 rfl ?_
  refine s_if_ge dX7_test_11 (tgt := 16) (by decide) (fun c11 => ?_) (fun c11 => ?_)
  · have hlt : a < N := sg_lt (fun w => by rw [w] at c11; exact absurd c11 (by decide))
    refine s_aload_nr (j := 1) dX7_test_16 rfl ?_
    refine s_dup dX7_test_17 rfl ?_
    refine gX_X7_28 dX7_test_18 rfl ?_
    refine s_topi (fun z9 ez9 => ?_)
    obtain rfl : z9 = nI a := ez9.trans (rdx_27 _ _ _ _ _)
    refine s_iconst (v := 1) dX7_test_21 (by decide) ?_
    refine s_iadd dX7_test_22 ?_
    rw [nI_1]
    refine pX_X7_28 dX7_test_23 rfl ?_
    rw [rdx_p]
    refine s_ldcS (tx := "<=>") (j := 4) dX7_test_26 rfl (by decide) ?_
    refine s_aload_nr (j := 1) dX7_test_28 rfl ?_
    refine s_V0i cv_X7_39 rfl dX7_test_29 xg_X7 rfl (Nat.le_of_ble_eq_true rfl) (x_sign _ X M D c hc T N hT (a + 1) z g (by omega)) (fun y29 h29 q29 => ?_)
    obtain ⟨rfl, rfl⟩ := q29
    refine s_VS1 (i := 4) (by decide) cv_X7_84 rfl rfl dX7_test_32 (Nat.le_of_ble_eq_true rfl) (j_indexOf _ _ 4 (by decide) _) (fun y32 h32 q32 => ?_)
    obtain ⟨rfl, rfl⟩ := q32
    rw [ixm hT]
    refine s_istore_n dX7_test_35 (by decide) rfl ?_
    refine s_iload_n (j := 0) dX7_test_36 rfl ?_
    refine s_if_ge dX7_test_37 (tgt := 42) (by decide) (fun c37 => ?_) (fun c37 => ?_)
    · have hlt2 : a + 1 < N := sg_lt (fun w => by rw [w] at c37; exact absurd c37 (by decide))
      refine s_aload_nr (j := 2) dX7_test_42 rfl ?_
      refine s_dup dX7_test_43 rfl ?_
      refine gX_X7_28 dX7_test_44 rfl ?_
      refine s_topi (fun z9 ez9 => ?_)
      obtain rfl : z9 = nI (a + 1) := ez9.trans (rdx_27 _ _ _ _ _)
      refine s_iconst (v := 1) dX7_test_47 (by decide) ?_
      refine s_iadd dX7_test_48 ?_
      rw [nI_1]
      refine pX_X7_28 dX7_test_49 rfl ?_
      rw [rdx_p]
      refine s_aload_nr (j := 2) dX7_test_52 rfl ?_
      refine s_V0i cv_X7_58 rfl dX7_test_53 xg_X7 rfl (Nat.le_of_ble_eq_true rfl) (x_number _ X M D c hc T N hT (a + 2) z g (by omega)) (fun y53 h53 q53 => ?_)
      obtain ⟨rfl, rfl⟩ := q53
      refine s_istore dX7_test_56 (by decide) rfl ?_
      refine s_iload (j := 0) dX7_test_58 rfl ?_
      refine s_iconst (v := -1) dX7_test_60 (by decide) ?_
      refine s_icmp_ne dX7_test_61 (tgt := 66) (by decide) (fun c61 => ?_) (fun c61 => ?_)
      · have hdg : dgt (sg T N (a + 2)) := by
          by_cases e : dgt (sg T N (a + 2))
          · exact e
          · exact absurd (by rw [if_neg e]) c61
        refine s_aload_nr (j := 4) dX7_test_66 rfl ?_
        refine s_iload_n (j := 2) dX7_test_67 rfl ?_
        refine s_iload_n (j := 1) dX7_test_68 rfl ?_
        refine s_iload (j := 0) dX7_test_69 rfl ?_
        refine s_S3i cs_X7_90 rfl dX7_test_71 (Nat.le_of_ble_eq_true rfl) (x_testOf _ _ _ _ _) (fun y71 h71 q71 => ?_)
        obtain ⟨rfl, rfl⟩ := q71
        refine s_V1v cv_X7_72 rfl dX7_test_74 (xg_X0 (c := c) hc) rfl (Nat.le_of_ble_eq_true rfl) (x_add _ X M D c hc T N hT (a + 2 + nbK T N (a + 2)) z g _ (by have := nbK_le hdg; omega)) (fun h74 q74 => ?_)
        obtain rfl := q74
        refine s_iconst (v := 1) dX7_test_77 (by decide) ?_
        exact e_zret dX7_test_78 rfl (by first | rfl | exact b2i_z | decide) (by unfold teR; rw [if_pos ⟨c11, cmp_in.mp c37, hdg⟩]; refine ⟨(b2i_t rfl).symm, _, by rw [ttA, if_neg (Int32.not_lt.mpr c11), if_pos (cmp_in.mp c37)]; rfl, fun i hi => if_neg (by omega), ?_, trivial⟩; show upd g z _ z = _; rw [show upd g z _ z = _ from if_pos rfl, tkv_eq c11 (cmp_in.mp c37) hdg])
      · have hnd : ¬ dgt (sg T N (a + 2)) := by
          intro e
          rw [if_pos e] at c61
          obtain ⟨j, hj, e2⟩ := nb_n e
          rw [e2] at c61
          exact absurd c61 (fun w => absurd (w ▸ nI_pos (n := j) (by omega)) (by decide))
        refine s_iconst (v := 0) dX7_test_64 (by decide) ?_
        exact e_zret dX7_test_65 rfl (by first | rfl | exact b2i_z | decide) (by unfold teR; rw [if_neg (fun w => hnd w.2.2), ttA, if_neg (Int32.not_lt.mpr c11), if_pos (cmp_in.mp c37)]; exact ⟨(b2i_f (by simp)).symm, g, by rw [nbK_0 hnd]; rfl, fun _ _ => rfl, trivial⟩)
    · refine s_iconst (v := 0) dX7_test_40 (by decide) ?_
      exact e_zret dX7_test_41 rfl (by first | rfl | exact b2i_z | decide) (by unfold teR; rw [if_neg (fun w => c37 (cmp_in.mpr w.2.1)), ttA, if_neg (Int32.not_lt.mpr c11), if_neg (fun w => c37 (cmp_in.mpr w))]; exact ⟨(b2i_f (by simp)).symm, g, rfl, fun _ _ => rfl, trivial⟩)
  · refine s_iconst (v := 0) dX7_test_14 (by decide) ?_
    exact e_zret dX7_test_15 rfl (by first | rfl | exact b2i_z | decide) (by unfold teR; rw [if_neg (fun w => absurd w.1 (Int32.not_le.mpr (Int32.not_le.mp c11))), ttA, if_pos (Int32.not_le.mp c11)]; exact ⟨(b2i_f (by simp)).symm, g, rfl, fun _ _ => rfl, trivial⟩)

theorem ch_m_aux : ∀ n : Fin 128, ((nI n.val).toUInt32 % 65536).toInt32 = nI n.val := by decide +kernel
theorem ch_m {s : Int32} (h : 0 ≤ s ∧ s ≤ 127) : (s.toUInt32 % 65536).toInt32 = s := by
  obtain ⟨j, hj, rfl⟩ := bw_of (m := 127) (n := 127) (by decide) h
  exact ch_m_aux ⟨j, by omega⟩

set_option maxRecDepth 100000 in
set_option maxHeartbeats 800000 in
theorem x_feedT (d : Nat) (X : XZ) (M : MZ) (D : HP) (N : Nat) (hN : N ≤ 100) (hX : X.1 26 = nI N) (s : Int32) (hs : 0 ≤ s ∧ s ≤ 127) : Con (d + 1) qX7_takes 0 0 [.ref 34, .int s] (xh X M D) (PI fun y h => (N = 100 ∧ y = 0 ∧ h = xh X M D) ∨ (N < 100 ∧ y = 1 ∧ h = xh (x1 (xa X 27 N s) 26 (nI (N + 1))) M D)) := by
  refine Con.of (by decide +kernel) (Nat.le_of_ble_eq_true rfl) ?_
  show Sem (d + 1) qX7_takes 0 0 0 [(0, .ref 34), (1, .int s)] [] (xh X M D) _
  refine s_aload_nr (j := 0) dX7_takes_0 rfl ?_
  refine gX_X7_15 dX7_takes_1 rfl ?_
  refine s_topi (fun z9 ez9 => ?_)
  obtain rfl : z9 = nI N := ez9.trans (hX)
  refine s_bipush (v := 100) dX7_takes_4 (by decide) ?_
  refine s_S2i cs_X7_19 rfl dX7_takes_6 (Nat.le_of_ble_eq_true rfl) (x_wC _ _ _ _ (99) (by decide)) (fun y6 h6 q6 => ?_)
  obtain ⟨rfl, rfl⟩ := q6
  refine s_if_ne dX7_takes_9 (tgt := 14) (by decide) (fun c9 => ?_) (fun c9 => ?_)
  · have h9 : N < 100 := by have := (b2i_n0.mp c9).2; exact Nat.not_le.mp fun w => absurd (nI_le (a := 100) w (by omega)) (Int32.not_le.mpr (Int32.lt_of_le_of_lt this (by decide)))
    refine s_aload_nr (j := 0) dX7_takes_14 rfl ?_
    refine gX_X7_9 dX7_takes_15 rfl ?_
    refine s_aload_nr (j := 0) dX7_takes_18 rfl ?_
    refine gX_X7_15 dX7_takes_19 rfl ?_
    refine s_topi (fun z9 ez9 => ?_)
    obtain rfl : z9 = nI N := ez9.trans (hX)
    refine s_iload_n (j := 1) dX7_takes_22 rfl ?_
    refine s_i2c dX7_takes_23 ?_
    rw [show (s.toUInt32 % 65536).toInt32 = s from ch_m hs]
    refine sX_X7_signs dX7_takes_24 (by exact vp_in_nI (by omega) (by decide)) (ch_nar2 hs) ?_
    rw [pz5 N (by omega)]
    refine s_aload_nr (j := 0) dX7_takes_25 rfl ?_
    refine s_dup dX7_takes_26 rfl ?_
    refine gX_X7_15 dX7_takes_27 rfl ?_
    refine s_topi (fun z9 ez9 => ?_)
    obtain rfl : z9 = nI N := ez9.trans (hX)
    refine s_iconst (v := 1) dX7_takes_30 (by decide) ?_
    refine s_iadd dX7_takes_31 ?_
    rw [nI_1]
    refine pX_X7_15 dX7_takes_32 rfl ?_
    refine s_iconst (v := 1) dX7_takes_35 (by decide) ?_
    exact e_zret dX7_takes_36 rfl (by first | rfl | exact b2i_z | decide) (by exact Or.inr ⟨h9, rfl, rfl⟩)
  · have h9 : N = 100 := by have : ¬ N ≤ 99 := fun w => b2i_0.mp c9 ⟨nI_pos' (by omega), nI_le (b := 99) w (by decide)⟩; omega
    refine s_iconst (v := 0) dX7_takes_12 (by decide) ?_
    exact e_zret dX7_takes_13 rfl (by first | rfl | exact b2i_z | decide) (by exact Or.inl ⟨h9, rfl, rfl⟩)
