set_option maxRecDepth 100000 in
set_option maxHeartbeats 800000 in
theorem x_close (d : Nat) (X : XZ) (M : MZ) (D : HP) (c : Nat) (hc : c < 6) (T : Nat → Int32) (N : Nat) (hT : TX X T N) (a z : Nat) (g : Nat → Int32) (ha : a ≤ N) (hz : z ≤ a) (s am : Int32) (k : Nat) (hk : X.1 (29 + 2 * c) = nI k) (hk10 : k < 10) : Con d qX0_closeClause 0 0 [.ref (53 + 5 * c), .int s, .int am] (xh (rdx X c a z g) M D) (PV fun h => h = xh (rdx (cloX X c k s am z) c a z g) M D) := by
  refine Con.of (by decide +kernel) (Nat.le_of_ble_eq_true rfl) ?_
  show Sem d qX0_closeClause 0 0 0 [(0, .ref (53 + 5 * c)), (1, .int s), (2, .int am)] [] (xh (rdx X c a z g) M D) _
  refine s_aload_nr (j := 0) dX0_closeClause_0 rfl ?_
  refine gX_X0_28 (c := c) hc dX0_closeClause_1 rfl ?_
  refine s_topi (fun z9 ez9 => ?_)
  obtain rfl : z9 = nI k := ez9.trans ((rdx_c _ _ _ _ _).trans hk)
  refine s_bipush (v := 10) dX0_closeClause_4 (by decide) ?_
  refine s_icmp_ge dX0_closeClause_6 (tgt := 52) (by decide) (fun c6 => ?_) (fun c6 => ?_)
  · exact absurd (nI_lt (b := 10) hk10 (by decide)) (Int32.not_lt.mpr c6)
  · refine s_aload_nr (j := 0) dX0_closeClause_9 rfl ?_
    refine gX_X0_15 (c := c) hc dX0_closeClause_10 rfl ?_
    refine s_aload_nr (j := 0) dX0_closeClause_13 rfl ?_
    refine gX_X0_28 (c := c) hc dX0_closeClause_14 rfl ?_
    refine s_topi (fun z9 ez9 => ?_)
    obtain rfl : z9 = nI k := ez9.trans ((rdx_c _ _ _ _ _).trans hk)
    refine s_iload_n (j := 1) dX0_closeClause_17 rfl ?_
    refine sX_X0_sums (c := c) hc dX0_closeClause_18 (by exact vp_in_nI (by omega) (by decide)) ?_
    rw [pz5 k (by omega), rdx_xa (by omega)]
    refine s_aload_nr (j := 0) dX0_closeClause_19 rfl ?_
    refine gX_X0_18 (c := c) hc dX0_closeClause_20 rfl ?_
    refine s_aload_nr (j := 0) dX0_closeClause_23 rfl ?_
    refine gX_X0_28 (c := c) hc dX0_closeClause_24 rfl ?_
    refine s_topi (fun z9 ez9 => ?_)
    obtain rfl : z9 = nI k := ez9.trans ((rdx_c _ _ _ _ _).trans hk)
    refine s_iload_n (j := 2) dX0_closeClause_27 rfl ?_
    refine sX_X0_amounts (c := c) hc dX0_closeClause_28 (by exact vp_in_nI (by omega) (by decide)) ?_
    rw [pz5 k (by omega), rdx_xa (by omega)]
    refine s_aload_nr (j := 0) dX0_closeClause_29 rfl ?_
    refine gX_X0_21 (c := c) hc dX0_closeClause_30 rfl ?_
    refine s_aload_nr (j := 0) dX0_closeClause_33 rfl ?_
    refine gX_X0_28 (c := c) hc dX0_closeClause_34 rfl ?_
    refine s_topi (fun z9 ez9 => ?_)
    obtain rfl : z9 = nI k := ez9.trans ((rdx_c _ _ _ _ _).trans hk)
    refine s_aload_nr (j := 0) dX0_closeClause_37 rfl ?_
    refine gX_X0_24 (c := c) hc dX0_closeClause_38 rfl ?_
    refine s_topi (fun z9 ez9 => ?_)
    obtain rfl : z9 = nI z := ez9.trans (rdx_z _ _ _ _ _)
    refine sX_X0_ends (c := c) hc dX0_closeClause_41 (by exact vp_in_nI (by omega) (by decide)) ?_
    rw [pz5 k (by omega), rdx_xa (by omega)]
    refine s_aload_nr (j := 0) dX0_closeClause_42 rfl ?_
    refine s_dup dX0_closeClause_43 rfl ?_
    refine gX_X0_28 (c := c) hc dX0_closeClause_44 rfl ?_
    refine s_topi (fun z9 ez9 => ?_)
    obtain rfl : z9 = nI k := ez9.trans ((rdx_c _ _ _ _ _).trans hk)
    refine s_iconst (v := 1) dX0_closeClause_47 (by decide) ?_
    refine s_iadd dX0_closeClause_48 ?_
    rw [nI_1]
    refine pX_X0_28 (c := c) hc dX0_closeClause_49 rfl ?_
    rw [rdx_x1 (by omega) (by omega)]
    exact e_vret dX0_closeClause_52 rfl (by rfl)

set_option maxRecDepth 100000 in
set_option maxHeartbeats 800000 in
theorem x_clause (d : Nat) (X : XZ) (M : MZ) (D : HP) (c : Nat) (hc : c < 6) (T : Nat → Int32) (N : Nat) (hT : TX X T N) (a z : Nat) (g : Nat → Int32) (ha : a ≤ N) (hz : z ≤ a) (LT : Nat → Int32) (hLT : LTV LT) (k0 : Nat) (hk : X.1 (29 + 2 * c) = nI k0) (hk10 : k0 < 10) : Con (d + 20) qX7_clause 0 0 [.ref 34, .ref (53 + 5 * c)] (xh (rdx X c a z g) M D) (PI fun y h => y = b2i ((ckR T N LT a).1 = true) ∧ ∃ X2 g2, h = xh (rdx X2 c (ckR T N LT a).2.1 (z + (ckR T N LT a).2.2.length) g2) M D ∧ (∀ i, i < z → g2 i = g i) ∧ GDL g2 z (ckR T N LT a).2.2 ∧ X2 = if (ckR T N LT a).1 = true then cloX X c k0 (if hdW T N a = 1 then 1 else 0) (if hdW T N a = 2 then -clN T N LT a else clN T N LT a) (z + (ckR T N LT a).2.2.length) else X) := by
  refine Con.of (by decide +kernel) (Nat.le_of_ble_eq_true rfl) ?_
  show Sem (d + 20) qX7_clause 0 0 0 [(0, .ref 34), (1, .ref (53 + 5 * c))] [] (xh (rdx X c a z g) M D) _
  have hN1 := hT.2.1
  refine s_aload_nr (j := 0) dX7_clause_0 rfl ?_
  refine s_V0i cv_X7_39 rfl dX7_clause_1 xg_X7 rfl (Nat.le_of_ble_eq_true rfl) (x_sign _ X M D c hc T N hT a z g ha) (fun y1 h1 q1 => ?_)
  obtain ⟨rfl, rfl⟩ := q1
  refine s_istore_n dX7_clause_4 (by decide) rfl ?_
  refine s_iload_n (j := 0) dX7_clause_5 rfl ?_
  refine s_bipush (v := 105) dX7_clause_6 (by decide) ?_
  refine s_icmp_ne dX7_clause_8 (tgt := 16) (by decide) (fun c8 => ?_) (fun c8 => ?_)
  · have n105 : ¬ sg T N a = 105 := fun w => c8 ((scx_sg (by decide)).mpr w)
    refine s_iload_n (j := 0) dX7_clause_16 rfl ?_
    refine s_bipush (v := 119) dX7_clause_17 (by decide) ?_
    refine s_icmp_ne dX7_clause_19 (tgt := 27) (by decide) (fun c19 => ?_) (fun c19 => ?_)
    · have n119 : ¬ sg T N a = 119 := fun w => c19 ((scx_sg (by decide)).mpr w)
      refine s_ldcS (tx := "out ") (j := 2) dX7_clause_27 rfl (by decide) ?_
      refine s_astore_ne dX7_clause_29 (by decide) rfl ?_
      refine s_iconst (v := 0) dX7_clause_30 (by decide) ?_
      refine s_istore dX7_clause_31 (by decide) rfl ?_
      have LP : ∀ (fu : Nat) (r k : Nat), r < fu → k + r = 4 → a + k ≤ N → (0 < k → sg T N a = (strByt.getD 2 []).getD 0 0) → spI T N (strByt.getD 2 []) r k (a + k) = hdR T N LT a → Sem (d + 20) qX7_clause 0 0 33 [(0, .ref 34), (1, .ref (53 + 5 * c)), (2, .int (scx T N a)), (3, .float (310 + UInt32.ofNat 2)), (4, .int (nI k))] [] (xh (rdx X c (a + k) z g) M D) (PI fun y h => y = b2i ((ckR T N LT a).1 = true) ∧ ∃ X2 g2, h = xh (rdx X2 c (ckR T N LT a).2.1 (z + (ckR T N LT a).2.2.length) g2) M D ∧ (∀ i, i < z → g2 i = g i) ∧ GDL g2 z (ckR T N LT a).2.2 ∧ X2 = if (ckR T N LT a).1 = true then cloX X c k0 (if hdW T N a = 1 then 1 else 0) (if hdW T N a = 2 then -clN T N LT a else clN T N LT a) (z + (ckR T N LT a).2.2.length) else X) := by
        intro fu
        induction fu with
        | zero => intro r k hm; exact absurd hm (Nat.not_lt_zero _)
        | succ fu ih =>
          intro r k hm g1 g2 g4 g3
          refine s_iload (j := 4) dX7_clause_33 rfl ?_
          refine s_aload_ne (j := 3) dX7_clause_35 rfl ?_
          refine s_VS0 (i := 2) (by decide) cv_X7_49 rfl rfl dX7_clause_36 (Nat.le_of_ble_eq_true rfl) (j_len _ _ 2 (by decide)) (fun y36 h36 q36 => ?_)
          obtain ⟨rfl, rfl⟩ := q36
          refine s_icmp_ge dX7_clause_39 (tgt := 63) (by decide) (fun c39 => ?_) (fun c39 => ?_)
          · obtain rfl : r = 0 := by have h9 : ¬ k < 4 := fun w => absurd (nI_lt (b := 4) w (by decide)) (Int32.not_lt.mpr c39); omega
            obtain rfl : k = 4 := by omega
            have hok : (hdR T N LT a).1 = true := by rw [← g3]; rfl
            have hb : (hdR T N LT a).2 = a + 4 := by rw [← g3]; rfl
            have hbN : (hdR T N LT a).2 ≤ N := by rw [hb]; exact g2
            rw [← hb]
            have g4x := g4 (by decide)
            refine s_aload_nr (j := 0) dX7_clause_63 rfl ?_
            refine s_V0i cv_X7_58 rfl dX7_clause_64 xg_X7 rfl (Nat.le_of_ble_eq_true rfl) (x_number _ X M D c hc T N hT (hdR T N LT a).2 z g hbN) (fun y64 h64 q64 => ?_)
            obtain ⟨rfl, rfl⟩ := q64
            refine s_istore dX7_clause_67 (by decide) rfl ?_
            refine s_iload (j := 0) dX7_clause_69 rfl ?_
            refine s_iconst (v := -1) dX7_clause_71 (by decide) ?_
            refine s_icmp_eq dX7_clause_72 (tgt := 93) (by decide) (fun c72 => ?_) (fun c72 => ?_)
            · have hnd : ¬ dgt (sg T N (hdR T N LT a).2) := by
                intro e
                rw [if_pos e] at c72
                obtain ⟨j, hj, e2⟩ := nb_n e
                rw [e2] at c72
                exact absurd c72 (fun w => absurd (w ▸ nI_pos (n := j) (by omega)) (by decide))
              refine s_iconst (v := 0) dX7_clause_93 (by decide) ?_
              exact e_zret dX7_clause_94 rfl (by first | rfl | exact b2i_z | decide) (by rw [ckR, if_pos hok, if_neg hnd]; exact ⟨(b2i_f (by simp)).symm, X, g, by rw [nbK_0 hnd]; rfl, fun _ _ => rfl, trivial, rfl⟩)
            · have hdg : dgt (sg T N (hdR T N LT a).2) := by
                by_cases e : dgt (sg T N (hdR T N LT a).2)
                · exact e
                · exact absurd (by rw [if_neg e]) c72
              rw [if_pos hdg]
              refine s_aload_nr (j := 1) dX7_clause_75 rfl ?_
              refine s_bipush (v := 32) dX7_clause_76 (by decide) ?_
              refine s_V1i cv_X7_35 rfl dX7_clause_78 xg_X7 rfl (Nat.le_of_ble_eq_true rfl) (x_took _ X M D c hc T N hT ((hdR T N LT a).2 + nbK T N (hdR T N LT a).2) z g (nbK_le hdg) 32 (by decide)) (fun y78 h78 q78 => ?_)
              obtain ⟨rfl, rfl⟩ := q78
              refine s_if_eq dX7_clause_81 (tgt := 93) (by decide) (fun c81 => ?_) (fun c81 => ?_)
              · replace c81 := b2i_0.mp c81
                refine s_iconst (v := 0) dX7_clause_93 (by decide) ?_
                exact e_zret dX7_clause_94 rfl (by first | rfl | exact b2i_z | decide) (by rw [ckR, if_pos hok, if_pos hdg, if_neg c81]; exact ⟨(b2i_f (by simp)).symm, X, g, by rw [tkA, if_neg c81]; rfl, fun _ _ => rfl, trivial, rfl⟩)
              · have c81x := b2i_n0.mp c81
                have hlt2 : (hdR T N LT a).2 + nbK T N (hdR T N LT a).2 + 1 ≤ N := sg_lt (fun w => by rw [w] at c81x; exact absurd c81x (by decide))
                replace c81 := b2i_n0.mp c81
                rw [tkA, if_pos c81]
                refine s_aload_nr (j := 1) dX7_clause_84 rfl ?_
                refine s_aload_nr (j := 2) dX7_clause_85 rfl ?_
                refine s_iconst (v := 0) dX7_clause_86 (by decide) ?_
                refine s_V2i cv_X7_61 rfl dX7_clause_87 xg_X7 rfl (Nat.le_of_ble_eq_true rfl) (x_E _ X M D c hc T N hT ((hdR T N LT a).2 + nbK T N (hdR T N LT a).2 + 1) z g hlt2 (by omega)) (fun y87 h87 q87 => ?_)
                obtain ⟨rfl, g2, rfl, hlo, hg⟩ := q87
                refine s_if_ne dX7_clause_90 (tgt := 95) (by decide) (fun c90 => ?_) (fun c90 => ?_)
                · replace c90 := b2i_n0.mp c90
                  refine s_aload_nr (j := 2) dX7_clause_95 rfl ?_
                  refine s_iload_n (j := 3) dX7_clause_96 rfl ?_
                  refine s_bipush (v := 119) dX7_clause_97 (by decide) ?_
                  refine s_icmp_ne dX7_clause_99 (tgt := 106) (by decide) (fun c99 => ?_) (fun c99 => ?_)
                  · refine s_iconst (v := 0) dX7_clause_106 (by decide) ?_
                    refine s_iload_n (j := 3) dX7_clause_107 rfl ?_
                    refine s_bipush (v := 111) dX7_clause_108 (by decide) ?_
                    refine s_icmp_ne dX7_clause_110 (tgt := 119) (by decide) (fun c110 => ?_) (fun c110 => ?_)
                    · exact absurd ((scx_sg (by decide)).mpr g4x) c110
                    · refine s_iload (j := 0) dX7_clause_113 rfl ?_
                      refine s_ineg dX7_clause_115 ?_
                      refine s_goto dX7_clause_116 (tgt := 121) (by decide) ?_
                      refine s_V2v cv_X7_65 rfl dX7_clause_121 (xg_X0 (c := c) hc) rfl (Nat.le_of_ble_eq_true rfl) (x_close _ X M D c hc T N hT _ _ g2 (fE_bd hlt2).2 (by have := (fE_bd (T := T) (N := N) (n := 4) hlt2).1; omega) _ _ k0 hk hk10) (fun h121 q121 => ?_)
                      obtain rfl := q121
                      refine s_iconst (v := 1) dX7_clause_124 (by decide) ?_
                      exact e_zret dX7_clause_125 rfl (by first | rfl | exact b2i_z | decide) (by rw [ckR, if_pos hok, if_pos hdg, if_pos c81]; exact ⟨(b2i_t c90).symm, _, g2, rfl, hlo, hg, by rw [if_pos c90, show hdW T N a = 2 from by rw [hdW, if_neg n105, if_neg n119], clN]; rfl⟩)
                  · exact absurd c99 c19
                · replace c90 := b2i_0.mp c90
                  refine s_iconst (v := 0) dX7_clause_93 (by decide) ?_
                  exact e_zret dX7_clause_94 rfl (by first | rfl | exact b2i_z | decide) (by rw [ckR, if_pos hok, if_pos hdg, if_pos c81]; exact ⟨(b2i_f c90).symm, X, g2, rfl, hlo, hg, (if_neg c90).symm⟩)
          · have hk9 : k < 4 := Nat.not_le.mp fun w => c39 (nI_le (a := 4) w (by omega))
            obtain ⟨r, rfl⟩ : ∃ x, r = x + 1 := ⟨r - 1, by omega⟩
            refine s_aload_nr (j := 0) dX7_clause_42 rfl ?_
            refine s_aload_ne (j := 3) dX7_clause_43 rfl ?_
            refine s_iload (j := 4) dX7_clause_44 rfl ?_
            refine s_VS1 (i := 2) (by decide) cv_X7_54 rfl rfl dX7_clause_46 (Nat.le_of_ble_eq_true rfl) (j_charAt _ _ 2 (by decide) k hk9) (fun y46 h46 q46 => ?_)
            obtain ⟨rfl, rfl⟩ := q46
            refine s_V1i cv_X7_35 rfl dX7_clause_49 xg_X7 rfl (Nat.le_of_ble_eq_true rfl) (x_took _ X M D c hc T N hT (a + k) z g g2 _ (sb_pos (i := 2) (k := k) (by decide) (by omega))) (fun y49 h49 q49 => ?_)
            obtain ⟨rfl, rfl⟩ := q49
            refine s_if_ne dX7_clause_52 (tgt := 57) (by decide) (fun c52 => ?_) (fun c52 => ?_)
            · replace c52 := b2i_n0.mp c52
              refine s_iinc (j := 4) (v := _ + (1)) dX7_clause_57 rfl rfl (by decide) rfl ?_
              refine s_goto dX7_clause_60 (tgt := 33) (by decide) ?_
              refine s_locals [1, 2, 3, 4, 0] rfl ?_
              rw [tkA, if_pos c52]
              simp only [nI_1]
              exact ih r (k + 1) (by omega) (by omega) (by have := sg_lt (T := T) (N := N) (a := a + k) (fun w => by rw [w] at c52; have := (sb_pos (i := 2) (k := k) (by decide) (by omega)).1; rw [← c52] at this; exact absurd this (by decide)); omega) (fun _ => by by_cases e : k = 0; (subst e; exact c52); (exact g4 (by omega))) (by rw [← g3, spI, if_pos c52]; rfl)
            · replace c52 := b2i_0.mp c52
              refine s_iconst (v := 0) dX7_clause_55 (by decide) ?_
              exact e_zret dX7_clause_56 rfl (by first | rfl | exact b2i_z | decide) (by have hne : ¬ sg T N (a + k) = (strByt.getD 2 []).getD k 0 := c52; rw [spI, if_neg hne] at g3; rw [ckR, if_neg (by rw [← g3]; simp)]; exact ⟨(b2i_f (by simp)).symm, X, g, by rw [tkA, if_neg hne, ← g3]; rfl, fun _ _ => rfl, trivial, rfl⟩)
      refine s_locals [3, 4, 2, 1, 0] rfl ?_
      exact LP 5 4 0 (by decide) (by rfl) ha (fun h => absurd h (Nat.lt_irrefl 0)) ((hd_out hLT n105 n119).symm)
    · have e119 : sg T N a = 119 := (scx_sg (by decide)).mp c19
      refine s_ldcS (tx := "win ") (j := 1) dX7_clause_22 rfl (by decide) ?_
      refine s_goto dX7_clause_24 (tgt := 29) (by decide) ?_
      refine s_astore_ne dX7_clause_29 (by decide) rfl ?_
      refine s_iconst (v := 0) dX7_clause_30 (by decide) ?_
      refine s_istore dX7_clause_31 (by decide) rfl ?_
      have LP : ∀ (fu : Nat) (r k : Nat), r < fu → k + r = 4 → a + k ≤ N → (0 < k → sg T N a = (strByt.getD 1 []).getD 0 0) → spI T N (strByt.getD 1 []) r k (a + k) = hdR T N LT a → Sem (d + 20) qX7_clause 0 0 33 [(0, .ref 34), (1, .ref (53 + 5 * c)), (2, .int (scx T N a)), (3, .float (310 + UInt32.ofNat 1)), (4, .int (nI k))] [] (xh (rdx X c (a + k) z g) M D) (PI fun y h => y = b2i ((ckR T N LT a).1 = true) ∧ ∃ X2 g2, h = xh (rdx X2 c (ckR T N LT a).2.1 (z + (ckR T N LT a).2.2.length) g2) M D ∧ (∀ i, i < z → g2 i = g i) ∧ GDL g2 z (ckR T N LT a).2.2 ∧ X2 = if (ckR T N LT a).1 = true then cloX X c k0 (if hdW T N a = 1 then 1 else 0) (if hdW T N a = 2 then -clN T N LT a else clN T N LT a) (z + (ckR T N LT a).2.2.length) else X) := by
        intro fu
        induction fu with
        | zero => intro r k hm; exact absurd hm (Nat.not_lt_zero _)
        | succ fu ih =>
          intro r k hm g1 g2 g4 g3
          refine s_iload (j := 4) dX7_clause_33 rfl ?_
          refine s_aload_ne (j := 3) dX7_clause_35 rfl ?_
          refine s_VS0 (i := 1) (by decide) cv_X7_49 rfl rfl dX7_clause_36 (Nat.le_of_ble_eq_true rfl) (j_len _ _ 1 (by decide)) (fun y36 h36 q36 => ?_)
          obtain ⟨rfl, rfl⟩ := q36
          refine s_icmp_ge dX7_clause_39 (tgt := 63) (by decide) (fun c39 => ?_) (fun c39 => ?_)
          · obtain rfl : r = 0 := by have h9 : ¬ k < 4 := fun w => absurd (nI_lt (b := 4) w (by decide)) (Int32.not_lt.mpr c39); omega
            obtain rfl : k = 4 := by omega
            have hok : (hdR T N LT a).1 = true := by rw [← g3]; rfl
            have hb : (hdR T N LT a).2 = a + 4 := by rw [← g3]; rfl
            have hbN : (hdR T N LT a).2 ≤ N := by rw [hb]; exact g2
            rw [← hb]
            have g4x := g4 (by decide)
            refine s_aload_nr (j := 0) dX7_clause_63 rfl ?_
            refine s_V0i cv_X7_58 rfl dX7_clause_64 xg_X7 rfl (Nat.le_of_ble_eq_true rfl) (x_number _ X M D c hc T N hT (hdR T N LT a).2 z g hbN) (fun y64 h64 q64 => ?_)
            obtain ⟨rfl, rfl⟩ := q64
            refine s_istore dX7_clause_67 (by decide) rfl ?_
            refine s_iload (j := 0) dX7_clause_69 rfl ?_
            refine s_iconst (v := -1) dX7_clause_71 (by decide) ?_
            refine s_icmp_eq dX7_clause_72 (tgt := 93) (by decide) (fun c72 => ?_) (fun c72 => ?_)
            · have hnd : ¬ dgt (sg T N (hdR T N LT a).2) := by
                intro e
                rw [if_pos e] at c72
                obtain ⟨j, hj, e2⟩ := nb_n e
                rw [e2] at c72
                exact absurd c72 (fun w => absurd (w ▸ nI_pos (n := j) (by omega)) (by decide))
              refine s_iconst (v := 0) dX7_clause_93 (by decide) ?_
              exact e_zret dX7_clause_94 rfl (by first | rfl | exact b2i_z | decide) (by rw [ckR, if_pos hok, if_neg hnd]; exact ⟨(b2i_f (by simp)).symm, X, g, by rw [nbK_0 hnd]; rfl, fun _ _ => rfl, trivial, rfl⟩)
            · have hdg : dgt (sg T N (hdR T N LT a).2) := by
                by_cases e : dgt (sg T N (hdR T N LT a).2)
                · exact e
                · exact absurd (by rw [if_neg e]) c72
              rw [if_pos hdg]
              refine s_aload_nr (j := 1) dX7_clause_75 rfl ?_
              refine s_bipush (v := 32) dX7_clause_76 (by decide) ?_
              refine s_V1i cv_X7_35 rfl dX7_clause_78 xg_X7 rfl (Nat.le_of_ble_eq_true rfl) (x_took _ X M D c hc T N hT ((hdR T N LT a).2 + nbK T N (hdR T N LT a).2) z g (nbK_le hdg) 32 (by decide)) (fun y78 h78 q78 => ?_)
              obtain ⟨rfl, rfl⟩ := q78
              refine s_if_eq dX7_clause_81 (tgt := 93) (by decide) (fun c81 => ?_) (fun c81 => ?_)
              · replace c81 := b2i_0.mp c81
                refine s_iconst (v := 0) dX7_clause_93 (by decide) ?_
                exact e_zret dX7_clause_94 rfl (by first | rfl | exact b2i_z | decide) (by rw [ckR, if_pos hok, if_pos hdg, if_neg c81]; exact ⟨(b2i_f (by simp)).symm, X, g, by rw [tkA, if_neg c81]; rfl, fun _ _ => rfl, trivial, rfl⟩)
              · have c81x := b2i_n0.mp c81
                have hlt2 : (hdR T N LT a).2 + nbK T N (hdR T N LT a).2 + 1 ≤ N := sg_lt (fun w => by rw [w] at c81x; exact absurd c81x (by decide))
                replace c81 := b2i_n0.mp c81
                rw [tkA, if_pos c81]
                refine s_aload_nr (j := 1) dX7_clause_84 rfl ?_
                refine s_aload_nr (j := 2) dX7_clause_85 rfl ?_
                refine s_iconst (v := 0) dX7_clause_86 (by decide) ?_
                refine s_V2i cv_X7_61 rfl dX7_clause_87 xg_X7 rfl (Nat.le_of_ble_eq_true rfl) (x_E _ X M D c hc T N hT ((hdR T N LT a).2 + nbK T N (hdR T N LT a).2 + 1) z g hlt2 (by omega)) (fun y87 h87 q87 => ?_)
                obtain ⟨rfl, g2, rfl, hlo, hg⟩ := q87
                refine s_if_ne dX7_clause_90 (tgt := 95) (by decide) (fun c90 => ?_) (fun c90 => ?_)
                · replace c90 := b2i_n0.mp c90
                  refine s_aload_nr (j := 2) dX7_clause_95 rfl ?_
                  refine s_iload_n (j := 3) dX7_clause_96 rfl ?_
                  refine s_bipush (v := 119) dX7_clause_97 (by decide) ?_
                  refine s_icmp_ne dX7_clause_99 (tgt := 106) (by decide) (fun c99 => ?_) (fun c99 => ?_)
                  · exact absurd c19 c99
                  · refine s_iconst (v := 1) dX7_clause_102 (by decide) ?_
                    refine s_goto dX7_clause_103 (tgt := 107) (by decide) ?_
                    refine s_iload_n (j := 3) dX7_clause_107 rfl ?_
                    refine s_bipush (v := 111) dX7_clause_108 (by decide) ?_
                    refine s_icmp_ne dX7_clause_110 (tgt := 119) (by decide) (fun c110 => ?_) (fun c110 => ?_)
                    · refine s_iload (j := 0) dX7_clause_119 rfl ?_
                      refine s_V2v cv_X7_65 rfl dX7_clause_121 (xg_X0 (c := c) hc) rfl (Nat.le_of_ble_eq_true rfl) (x_close _ X M D c hc T N hT _ _ g2 (fE_bd hlt2).2 (by have := (fE_bd (T := T) (N := N) (n := 4) hlt2).1; omega) _ _ k0 hk hk10) (fun h121 q121 => ?_)
                      obtain rfl := q121
                      refine s_iconst (v := 1) dX7_clause_124 (by decide) ?_
                      exact e_zret dX7_clause_125 rfl (by first | rfl | exact b2i_z | decide) (by rw [ckR, if_pos hok, if_pos hdg, if_pos c81]; exact ⟨(b2i_t c90).symm, _, g2, rfl, hlo, hg, by rw [if_pos c90, show hdW T N a = 1 from by rw [hdW, if_neg n105, if_pos e119], clN]; rfl⟩)
                    · exact absurd (c19.symm.trans c110) (by decide)
                · replace c90 := b2i_0.mp c90
                  refine s_iconst (v := 0) dX7_clause_93 (by decide) ?_
                  exact e_zret dX7_clause_94 rfl (by first | rfl | exact b2i_z | decide) (by rw [ckR, if_pos hok, if_pos hdg, if_pos c81]; exact ⟨(b2i_f c90).symm, X, g2, rfl, hlo, hg, (if_neg c90).symm⟩)
          · have hk9 : k < 4 := Nat.not_le.mp fun w => c39 (nI_le (a := 4) w (by omega))
            obtain ⟨r, rfl⟩ : ∃ x, r = x + 1 := ⟨r - 1, by omega⟩
            refine s_aload_nr (j := 0) dX7_clause_42 rfl ?_
            refine s_aload_ne (j := 3) dX7_clause_43 rfl ?_
            refine s_iload (j := 4) dX7_clause_44 rfl ?_
            refine s_VS1 (i := 1) (by decide) cv_X7_54 rfl rfl dX7_clause_46 (Nat.le_of_ble_eq_true rfl) (j_charAt _ _ 1 (by decide) k hk9) (fun y46 h46 q46 => ?_)
            obtain ⟨rfl, rfl⟩ := q46
            refine s_V1i cv_X7_35 rfl dX7_clause_49 xg_X7 rfl (Nat.le_of_ble_eq_true rfl) (x_took _ X M D c hc T N hT (a + k) z g g2 _ (sb_pos (i := 1) (k := k) (by decide) (by omega))) (fun y49 h49 q49 => ?_)
            obtain ⟨rfl, rfl⟩ := q49
            refine s_if_ne dX7_clause_52 (tgt := 57) (by decide) (fun c52 => ?_) (fun c52 => ?_)
            · replace c52 := b2i_n0.mp c52
              refine s_iinc (j := 4) (v := _ + (1)) dX7_clause_57 rfl rfl (by decide) rfl ?_
              refine s_goto dX7_clause_60 (tgt := 33) (by decide) ?_
              refine s_locals [1, 2, 3, 4, 0] rfl ?_
              rw [tkA, if_pos c52]
              simp only [nI_1]
              exact ih r (k + 1) (by omega) (by omega) (by have := sg_lt (T := T) (N := N) (a := a + k) (fun w => by rw [w] at c52; have := (sb_pos (i := 1) (k := k) (by decide) (by omega)).1; rw [← c52] at this; exact absurd this (by decide)); omega) (fun _ => by by_cases e : k = 0; (subst e; exact c52); (exact g4 (by omega))) (by rw [← g3, spI, if_pos c52]; rfl)
            · replace c52 := b2i_0.mp c52
              refine s_iconst (v := 0) dX7_clause_55 (by decide) ?_
              exact e_zret dX7_clause_56 rfl (by first | rfl | exact b2i_z | decide) (by have hne : ¬ sg T N (a + k) = (strByt.getD 1 []).getD k 0 := c52; rw [spI, if_neg hne] at g3; rw [ckR, if_neg (by rw [← g3]; simp)]; exact ⟨(b2i_f (by simp)).symm, X, g, by rw [tkA, if_neg hne, ← g3]; rfl, fun _ _ => rfl, trivial, rfl⟩)
      refine s_locals [3, 4, 2, 1, 0] rfl ?_
      exact LP 5 4 0 (by decide) (by rfl) ha (fun h => absurd h (Nat.lt_irrefl 0)) ((hd_win hLT n105 e119).symm)
  · have e105 : sg T N a = 105 := (scx_sg (by decide)).mp c8
    refine s_ldcS (tx := "in ") (j := 0) dX7_clause_11 rfl (by decide) ?_
    refine s_goto dX7_clause_13 (tgt := 29) (by decide) ?_
    refine s_astore_ne dX7_clause_29 (by decide) rfl ?_
    refine s_iconst (v := 0) dX7_clause_30 (by decide) ?_
    refine s_istore dX7_clause_31 (by decide) rfl ?_
    have LP : ∀ (fu : Nat) (r k : Nat), r < fu → k + r = 3 → a + k ≤ N → (0 < k → sg T N a = (strByt.getD 0 []).getD 0 0) → spI T N (strByt.getD 0 []) r k (a + k) = hdR T N LT a → Sem (d + 20) qX7_clause 0 0 33 [(0, .ref 34), (1, .ref (53 + 5 * c)), (2, .int (scx T N a)), (3, .float (310 + UInt32.ofNat 0)), (4, .int (nI k))] [] (xh (rdx X c (a + k) z g) M D) (PI fun y h => y = b2i ((ckR T N LT a).1 = true) ∧ ∃ X2 g2, h = xh (rdx X2 c (ckR T N LT a).2.1 (z + (ckR T N LT a).2.2.length) g2) M D ∧ (∀ i, i < z → g2 i = g i) ∧ GDL g2 z (ckR T N LT a).2.2 ∧ X2 = if (ckR T N LT a).1 = true then cloX X c k0 (if hdW T N a = 1 then 1 else 0) (if hdW T N a = 2 then -clN T N LT a else clN T N LT a) (z + (ckR T N LT a).2.2.length) else X) := by
      intro fu
      induction fu with
      | zero => intro r k hm; exact absurd hm (Nat.not_lt_zero _)
      | succ fu ih =>
        intro r k hm g1 g2 g4 g3
        refine s_iload (j := 4) dX7_clause_33 rfl ?_
        refine s_aload_ne (j := 3) dX7_clause_35 rfl ?_
        refine s_VS0 (i := 0) (by decide) cv_X7_49 rfl rfl dX7_clause_36 (Nat.le_of_ble_eq_true rfl) (j_len _ _ 0 (by decide)) (fun y36 h36 q36 => ?_)
        obtain ⟨rfl, rfl⟩ := q36
        refine s_icmp_ge dX7_clause_39 (tgt := 63) (by decide) (fun c39 => ?_) (fun c39 => ?_)
        · obtain rfl : r = 0 := by have h9 : ¬ k < 3 := fun w => absurd (nI_lt (b := 3) w (by decide)) (Int32.not_lt.mpr c39); omega
          obtain rfl : k = 3 := by omega
          have hok : (hdR T N LT a).1 = true := by rw [← g3]; rfl
          have hb : (hdR T N LT a).2 = a + 3 := by rw [← g3]; rfl
          have hbN : (hdR T N LT a).2 ≤ N := by rw [hb]; exact g2
          rw [← hb]
          have g4x := g4 (by decide)
          refine s_aload_nr (j := 0) dX7_clause_63 rfl ?_
          refine s_V0i cv_X7_58 rfl dX7_clause_64 xg_X7 rfl (Nat.le_of_ble_eq_true rfl) (x_number _ X M D c hc T N hT (hdR T N LT a).2 z g hbN) (fun y64 h64 q64 => ?_)
          obtain ⟨rfl, rfl⟩ := q64
          refine s_istore dX7_clause_67 (by decide) rfl ?_
          refine s_iload (j := 0) dX7_clause_69 rfl ?_
          refine s_iconst (v := -1) dX7_clause_71 (by decide) ?_
          refine s_icmp_eq dX7_clause_72 (tgt := 93) (by decide) (fun c72 => ?_) (fun c72 => ?_)
          · have hnd : ¬ dgt (sg T N (hdR T N LT a).2) := by
              intro e
              rw [if_pos e] at c72
              obtain ⟨j, hj, e2⟩ := nb_n e
              rw [e2] at c72
              exact absurd c72 (fun w => absurd (w ▸ nI_pos (n := j) (by omega)) (by decide))
            refine s_iconst (v := 0) dX7_clause_93 (by decide) ?_
            exact e_zret dX7_clause_94 rfl (by first | rfl | exact b2i_z | decide) (by rw [ckR, if_pos hok, if_neg hnd]; exact ⟨(b2i_f (by simp)).symm, X, g, by rw [nbK_0 hnd]; rfl, fun _ _ => rfl, trivial, rfl⟩)
          · have hdg : dgt (sg T N (hdR T N LT a).2) := by
              by_cases e : dgt (sg T N (hdR T N LT a).2)
              · exact e
              · exact absurd (by rw [if_neg e]) c72
            rw [if_pos hdg]
            refine s_aload_nr (j := 1) dX7_clause_75 rfl ?_
            refine s_bipush (v := 32) dX7_clause_76 (by decide) ?_
            refine s_V1i cv_X7_35 rfl dX7_clause_78 xg_X7 rfl (Nat.le_of_ble_eq_true rfl) (x_took _ X M D c hc T N hT ((hdR T N LT a).2 + nbK T N (hdR T N LT a).2) z g (nbK_le hdg) 32 (by decide)) (fun y78 h78 q78 => ?_)
            obtain ⟨rfl, rfl⟩ := q78
            refine s_if_eq dX7_clause_81 (tgt := 93) (by decide) (fun c81 => ?_) (fun c81 => ?_)
            · replace c81 := b2i_0.mp c81
              refine s_iconst (v := 0) dX7_clause_93 (by decide) ?_
              exact e_zret dX7_clause_94 rfl (by first | rfl | exact b2i_z | decide) (by rw [ckR, if_pos hok, if_pos hdg, if_neg c81]; exact ⟨(b2i_f (by simp)).symm, X, g, by rw [tkA, if_neg c81]; rfl, fun _ _ => rfl, trivial, rfl⟩)
            · have c81x := b2i_n0.mp c81
              have hlt2 : (hdR T N LT a).2 + nbK T N (hdR T N LT a).2 + 1 ≤ N := sg_lt (fun w => by rw [w] at c81x; exact absurd c81x (by decide))
              replace c81 := b2i_n0.mp c81
              rw [tkA, if_pos c81]
              refine s_aload_nr (j := 1) dX7_clause_84 rfl ?_
              refine s_aload_nr (j := 2) dX7_clause_85 rfl ?_
              refine s_iconst (v := 0) dX7_clause_86 (by decide) ?_
              refine s_V2i cv_X7_61 rfl dX7_clause_87 xg_X7 rfl (Nat.le_of_ble_eq_true rfl) (x_E _ X M D c hc T N hT ((hdR T N LT a).2 + nbK T N (hdR T N LT a).2 + 1) z g hlt2 (by omega)) (fun y87 h87 q87 => ?_)
              obtain ⟨rfl, g2, rfl, hlo, hg⟩ := q87
              refine s_if_ne dX7_clause_90 (tgt := 95) (by decide) (fun c90 => ?_) (fun c90 => ?_)
              · replace c90 := b2i_n0.mp c90
                refine s_aload_nr (j := 2) dX7_clause_95 rfl ?_
                refine s_iload_n (j := 3) dX7_clause_96 rfl ?_
                refine s_bipush (v := 119) dX7_clause_97 (by decide) ?_
                refine s_icmp_ne dX7_clause_99 (tgt := 106) (by decide) (fun c99 => ?_) (fun c99 => ?_)
                · refine s_iconst (v := 0) dX7_clause_106 (by decide) ?_
                  refine s_iload_n (j := 3) dX7_clause_107 rfl ?_
                  refine s_bipush (v := 111) dX7_clause_108 (by decide) ?_
                  refine s_icmp_ne dX7_clause_110 (tgt := 119) (by decide) (fun c110 => ?_) (fun c110 => ?_)
                  · refine s_iload (j := 0) dX7_clause_119 rfl ?_
                    refine s_V2v cv_X7_65 rfl dX7_clause_121 (xg_X0 (c := c) hc) rfl (Nat.le_of_ble_eq_true rfl) (x_close _ X M D c hc T N hT _ _ g2 (fE_bd hlt2).2 (by have := (fE_bd (T := T) (N := N) (n := 4) hlt2).1; omega) _ _ k0 hk hk10) (fun h121 q121 => ?_)
                    obtain rfl := q121
                    refine s_iconst (v := 1) dX7_clause_124 (by decide) ?_
                    exact e_zret dX7_clause_125 rfl (by first | rfl | exact b2i_z | decide) (by rw [ckR, if_pos hok, if_pos hdg, if_pos c81]; exact ⟨(b2i_t c90).symm, _, g2, rfl, hlo, hg, by rw [if_pos c90, show hdW T N a = 0 from by rw [hdW, if_pos e105], clN]; rfl⟩)
                  · exact absurd (c8.symm.trans c110) (by decide)
                · exact absurd (c8.symm.trans c99) (by decide)
              · replace c90 := b2i_0.mp c90
                refine s_iconst (v := 0) dX7_clause_93 (by decide) ?_
                exact e_zret dX7_clause_94 rfl (by first | rfl | exact b2i_z | decide) (by rw [ckR, if_pos hok, if_pos hdg, if_pos c81]; exact ⟨(b2i_f c90).symm, X, g2, rfl, hlo, hg, (if_neg c90).symm⟩)
        · have hk9 : k < 3 := Nat.not_le.mp fun w => c39 (nI_le (a := 3) w (by omega))
          obtain ⟨r, rfl⟩ : ∃ x, r = x + 1 := ⟨r - 1, by omega⟩
          refine s_aload_nr (j := 0) dX7_clause_42 rfl ?_
          refine s_aload_ne (j := 3) dX7_clause_43 rfl ?_
          refine s_iload (j := 4) dX7_clause_44 rfl ?_
          refine s_VS1 (i := 0) (by decide) cv_X7_54 rfl rfl dX7_clause_46 (Nat.le_of_ble_eq_true rfl) (j_charAt _ _ 0 (by decide) k hk9) (fun y46 h46 q46 => ?_)
          obtain ⟨rfl, rfl⟩ := q46
          refine s_V1i cv_X7_35 rfl dX7_clause_49 xg_X7 rfl (Nat.le_of_ble_eq_true rfl) (x_took _ X M D c hc T N hT (a + k) z g g2 _ (sb_pos (i := 0) (k := k) (by decide) (by omega))) (fun y49 h49 q49 => ?_)
          obtain ⟨rfl, rfl⟩ := q49
          refine s_if_ne dX7_clause_52 (tgt := 57) (by decide) (fun c52 => ?_) (fun c52 => ?_)
          · replace c52 := b2i_n0.mp c52
            refine s_iinc (j := 4) (v := _ + (1)) dX7_clause_57 rfl rfl (by decide) rfl ?_
            refine s_goto dX7_clause_60 (tgt := 33) (by decide) ?_
            refine s_locals [1, 2, 3, 4, 0] rfl ?_
            rw [tkA, if_pos c52]
            simp only [nI_1]
            exact ih r (k + 1) (by omega) (by omega) (by have := sg_lt (T := T) (N := N) (a := a + k) (fun w => by rw [w] at c52; have := (sb_pos (i := 0) (k := k) (by decide) (by omega)).1; rw [← c52] at this; exact absurd this (by decide)); omega) (fun _ => by by_cases e : k = 0; (subst e; exact c52); (exact g4 (by omega))) (by rw [← g3, spI, if_pos c52]; rfl)
          · replace c52 := b2i_0.mp c52
            refine s_iconst (v := 0) dX7_clause_55 (by decide) ?_
            exact e_zret dX7_clause_56 rfl (by first | rfl | exact b2i_z | decide) (by have hne : ¬ sg T N (a + k) = (strByt.getD 0 []).getD k 0 := c52; rw [spI, if_neg hne] at g3; rw [ckR, if_neg (by rw [← g3]; simp)]; exact ⟨(b2i_f (by simp)).symm, X, g, by rw [tkA, if_neg hne, ← g3]; rfl, fun _ _ => rfl, trivial, rfl⟩)
    refine s_locals [3, 4, 2, 1, 0] rfl ?_
    exact LP 4 3 0 (by decide) (by rfl) ha (fun h => absurd h (Nat.lt_irrefl 0)) ((hd_in hLT e105).symm)
