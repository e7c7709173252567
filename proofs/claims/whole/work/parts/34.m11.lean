set_option maxRecDepth 100000 in
set_option maxHeartbeats 800000 in
theorem m_next (d : Nat) (P D : HP) (M : MZ) (hP : P.length = 95) (a : Nat) (dg sn wt op : Int32) (Sg W : Nat → Int32) (N : Nat) (hN : M.1 6 = nI N) (hN1 : N ≤ 100) (ha : a < 2 ^ 30) : Con d qX12_next 0 0 [.ref 95] (mh P (pst M (nI a) dg sn wt op Sg W) D) (XI (sg (M.2.1 6) N a) (mh P (pst M (nI a) dg sn wt op Sg W) D)) := by
  refine Con.of (by decide +kernel) (Nat.le_of_ble_eq_true rfl) ?_
  show Sem d qX12_next 0 0 0 [(0, .ref 95)] [] (mh P (pst M (nI a) dg sn wt op Sg W) D) _
  refine s_aload_nr (j := 0) dX12_next_0 rfl ?_
  refine gP_at dX12_next_1 rfl hP ?_
  refine s_aload_nr (j := 0) dX12_next_4 rfl ?_
  refine gP_fed dX12_next_5 rfl hP ?_
  refine s_icmp_ge dX12_next_8 (tgt := 23) (by decide) (fun c8 => ?_) (fun c8 => ?_)
  · have hlt : ¬ a < N := fun z => by rw [hN] at c8; exact nI_ge z (by omega) c8
    refine s_iconst (v := -1) dX12_next_23 (by decide) ?_
    exact e_iret dX12_next_24 rfl (by first | exact ⟨(if_neg hlt).symm, rfl⟩ | exact ⟨by rw [sg, if_pos hlt, show pz (nI a) = a from nI_clamp (by omega)], rfl⟩)
  · have hlt : a < N := Nat.lt_of_not_le fun z => c8 (by rw [hN]; exact nI_le z (by omega))
    refine s_aload_nr (j := 0) dX12_next_11 rfl ?_
    refine gP_text dX12_next_12 rfl hP ?_
    refine s_aload_nr (j := 0) dX12_next_15 rfl ?_
    refine gP_at dX12_next_16 rfl hP ?_
    refine lP_text dX12_next_19 hP (by exact vp_in_nI (by omega) (by decide)) ?_
    refine s_goto dX12_next_20 (tgt := 24) (by decide) ?_
    exact e_iret dX12_next_24 rfl (by first | exact ⟨(if_neg hlt).symm, rfl⟩ | exact ⟨by rw [sg, if_pos hlt, show pz (nI a) = a from nI_clamp (by omega)], rfl⟩)

set_option maxRecDepth 100000 in
set_option maxHeartbeats 800000 in
theorem m_takes (d : Nat) (P D : HP) (M : MZ) (hP : P.length = 95) (a : Nat) (dg sn wt op : Int32) (Sg W : Nat → Int32) (N : Nat) (hN : M.1 6 = nI N) (hN1 : N ≤ 100) (ha : a < 2 ^ 30) (c : Int32) : Con (d + 1) qX12_takes 0 0 [.ref 95, .int c] (mh P (pst M (nI a) dg sn wt op Sg W) D) (PI fun y h => y = b2i (sg (M.2.1 6) N a = c) ∧ h = mh P (pst M (nI (tkA (M.2.1 6) N a c)) dg sn wt op Sg W) D) := by
  refine Con.of (by decide +kernel) (Nat.le_of_ble_eq_true rfl) ?_
  show Sem (d + 1) qX12_takes 0 0 0 [(0, .ref 95), (1, .int c)] [] (mh P (pst M (nI a) dg sn wt op Sg W) D) _
  refine s_aload_nr (j := 0) dX12_takes_0 rfl ?_
  refine s_V0i cv_X12_214 rfl dX12_takes_1 (mh_get (k := 0) hP rfl) rfl (Nat.le_of_ble_eq_true rfl) (m_next _ P D M hP a _ _ _ _ _ _ N hN hN1 (by omega)) (fun y1 h1 q1 => ?_)
  obtain ⟨rfl, rfl⟩ := q1
  refine s_iload_n (j := 1) dX12_takes_4 rfl ?_
  refine s_icmp_eq dX12_takes_5 (tgt := 10) (by decide) (fun c5 => ?_) (fun c5 => ?_)
  · refine s_aload_nr (j := 0) dX12_takes_10 rfl ?_
    refine s_dup dX12_takes_11 rfl ?_
    refine gP_at dX12_takes_12 rfl hP ?_
    refine s_iconst (v := 1) dX12_takes_15 (by decide) ?_
    refine s_iadd dX12_takes_16 ?_
    refine pP_at dX12_takes_17 rfl hP ?_
    refine s_iconst (v := 1) dX12_takes_20 (by decide) ?_
    exact e_zret dX12_takes_21 rfl (by first | rfl | exact b2i_z | decide) (by first | exact ⟨(b2i_f c5).symm, by rw [tkA, if_neg c5]⟩ | exact ⟨(b2i_t c5).symm, by rw [tkA, if_pos c5, nI_1]⟩)
  · refine s_iconst (v := 0) dX12_takes_8 (by decide) ?_
    exact e_zret dX12_takes_9 rfl (by first | rfl | exact b2i_z | decide) (by first | exact ⟨(b2i_f c5).symm, by rw [tkA, if_neg c5]⟩ | exact ⟨(b2i_t c5).symm, by rw [tkA, if_pos c5, nI_1]⟩)

set_option maxRecDepth 100000 in
set_option maxHeartbeats 800000 in
theorem m_isDigit (d : Nat) (P D : HP) (M : MZ) (hP : P.length = 95) (a : Nat) (dg sn wt op : Int32) (Sg W : Nat → Int32) (N : Nat) (hN : M.1 6 = nI N) (hN1 : N ≤ 100) (ha : a < 2 ^ 30) : Con (d + 1) qX12_isDigit 0 0 [.ref 95] (mh P (pst M (nI a) dg sn wt op Sg W) D) (XI (b2i (dgt (sg (M.2.1 6) N a))) (mh P (pst M (nI a) dg sn wt op Sg W) D)) := by
  refine Con.of (by decide +kernel) (Nat.le_of_ble_eq_true rfl) ?_
  show Sem (d + 1) qX12_isDigit 0 0 0 [(0, .ref 95)] [] (mh P (pst M (nI a) dg sn wt op Sg W) D) _
  refine s_aload_nr (j := 0) dX12_isDigit_0 rfl ?_
  refine s_aload_nr (j := 0) dX12_isDigit_1 rfl ?_
  refine s_V0i cv_X12_214 rfl dX12_isDigit_2 (mh_get (k := 0) hP rfl) rfl (Nat.le_of_ble_eq_true rfl) (m_next _ P D M hP a _ _ _ _ _ _ N hN hN1 (by omega)) (fun y2 h2 q2 => ?_)
  obtain ⟨rfl, rfl⟩ := q2
  refine s_bipush (v := 48) dX12_isDigit_5 (by decide) ?_
  refine s_bipush (v := 57) dX12_isDigit_7 (by decide) ?_
  refine s_V3i cv_X12_203 rfl dX12_isDigit_9 (mh_get (k := 0) hP rfl) rfl (Nat.le_of_ble_eq_true rfl) (m_in _ P D _ hP _ _ _) (fun y9 h9 q9 => ?_)
  obtain ⟨rfl, rfl⟩ := q9
  exact e_zret dX12_isDigit_12 rfl (by first | rfl | exact b2i_z | decide) (by exact ⟨rfl, rfl⟩)

set_option maxRecDepth 100000 in
set_option maxHeartbeats 800000 in
theorem m_takesNumber (d : Nat) (P D : HP) (M : MZ) (hP : P.length = 95) (a : Nat) (dg sn wt op : Int32) (Sg W : Nat → Int32) (N : Nat) (hN : M.1 6 = nI N) (hN1 : N ≤ 100) (ha : a ≤ 200) : Con (d + 2) qX12_takesNumber 0 0 [.ref 95] (mh P (pst M (nI a) dg sn wt op Sg W) D) (PI fun y h => y = b2i (dgt (sg (M.2.1 6) N a)) ∧ ∃ dg2, (dgt (sg (M.2.1 6) N a) → dg2 = nbS (M.2.1 6) N a (nbK (M.2.1 6) N a)) ∧ h = mh P (pst M (nI (a + nbK (M.2.1 6) N a)) dg2 sn wt op Sg W) D) := by
  refine Con.of (by decide +kernel) (Nat.le_of_ble_eq_true rfl) ?_
  show Sem (d + 2) qX12_takesNumber 0 0 0 [(0, .ref 95)] [] (mh P (pst M (nI a) dg sn wt op Sg W) D) _
  refine s_aload_nr (j := 0) dX12_takesNumber_0 rfl ?_
  refine s_V0i cv_X12_221 rfl dX12_takesNumber_1 (mh_get (k := 0) hP rfl) rfl (Nat.le_of_ble_eq_true rfl) (m_isDigit _ P D M hP a _ _ _ _ _ _ N hN hN1 (by omega)) (fun y1 h1 q1 => ?_)
  obtain ⟨rfl, rfl⟩ := q1
  refine s_if_ne dX12_takesNumber_4 (tgt := 9) (by decide) (fun c4 => ?_) (fun c4 => ?_)
  · replace c4 := b2i_n0.mp c4
    refine s_aload_nr (j := 0) dX12_takesNumber_9 rfl ?_
    refine s_iconst (v := 0) dX12_takesNumber_10 (by decide) ?_
    refine pP_digits dX12_takesNumber_11 rfl hP ?_
    refine s_iconst (v := 0) dX12_takesNumber_14 (by decide) ?_
    refine s_istore_n dX12_takesNumber_15 (by decide) rfl ?_
    have LP : ∀ (n : Nat) (k : Nat), 2 - k < n → k ≤ 2 → (∀ i, i < k → dgt (sg (M.2.1 6) N (a + i))) → Sem (d + 2) qX12_takesNumber 0 0 16 [(0, .ref 95), (1, .int (nI k))] [] (mh P (pst M (nI (a + k)) (nbS (M.2.1 6) N a k) sn wt op Sg W) D) (PI fun y h => y = b2i (dgt (sg (M.2.1 6) N a)) ∧ ∃ dg2, (dgt (sg (M.2.1 6) N a) → dg2 = nbS (M.2.1 6) N a (nbK (M.2.1 6) N a)) ∧ h = mh P (pst M (nI (a + nbK (M.2.1 6) N a)) dg2 sn wt op Sg W) D) := by
      intro n
      induction n with
      | zero => intro k hm; exact absurd hm (Nat.not_lt_zero _)
      | succ n ih =>
        intro k hm h1 h2
        refine s_iload_n (j := 1) dX12_takesNumber_16 rfl ?_
        refine s_iconst (v := 2) dX12_takesNumber_17 (by decide) ?_
        refine s_icmp_ge dX12_takesNumber_18 (tgt := 63) (by decide) (fun c18 => ?_) (fun c18 => ?_)
        · obtain rfl : k = 2 := Nat.le_antisymm h1 ((nI_leI (a := 2) (by decide) (by omega)).mp c18)
          have hk := nb_fin c4 h2 (Or.inl rfl) h1
          refine s_iconst (v := 1) dX12_takesNumber_63 (by decide) ?_
          exact e_zret dX12_takesNumber_64 rfl (by first | rfl | exact b2i_z | decide) (by first | exact ⟨(b2i_t c4).symm, _, fun _ => by rw [← hk], by rw [← hk]⟩ | (have hk := nb_fin c4 h2 (Or.inr c25) h1; exact ⟨(b2i_t c4).symm, _, fun _ => by rw [← hk], by rw [← hk]⟩))
        · have hk2 : k < 2 := Nat.lt_of_not_le fun z => c18 ((nI_leI (a := 2) (by decide) (by omega)).mpr z)
          refine s_aload_nr (j := 0) dX12_takesNumber_21 rfl ?_
          refine s_V0i cv_X12_221 rfl dX12_takesNumber_22 (mh_get (k := 0) hP rfl) rfl (Nat.le_of_ble_eq_true rfl) (m_isDigit _ P D M hP (a + k) _ _ _ _ _ _ N hN hN1 (by omega)) (fun y22 h22 q22 => ?_)
          obtain ⟨rfl, rfl⟩ := q22
          refine s_if_eq dX12_takesNumber_25 (tgt := 63) (by decide) (fun c25 => ?_) (fun c25 => ?_)
          · replace c25 := b2i_0.mp c25
            refine s_iconst (v := 1) dX12_takesNumber_63 (by decide) ?_
            exact e_zret dX12_takesNumber_64 rfl (by first | rfl | exact b2i_z | decide) (by first | exact ⟨(b2i_t c4).symm, _, fun _ => by rw [← hk], by rw [← hk]⟩ | (have hk := nb_fin c4 h2 (Or.inr c25) h1; exact ⟨(b2i_t c4).symm, _, fun _ => by rw [← hk], by rw [← hk]⟩))
          · replace c25 := b2i_n0.mp c25
            refine s_aload_nr (j := 0) dX12_takesNumber_28 rfl ?_
            refine s_bipush (v := 10) dX12_takesNumber_29 (by decide) ?_
            refine s_aload_nr (j := 0) dX12_takesNumber_31 rfl ?_
            refine gP_digits dX12_takesNumber_32 rfl hP ?_
            refine s_imul dX12_takesNumber_35 ?_
            refine s_aload_nr (j := 0) dX12_takesNumber_36 rfl ?_
            refine s_V0i cv_X12_214 rfl dX12_takesNumber_37 (mh_get (k := 0) hP rfl) rfl (Nat.le_of_ble_eq_true rfl) (m_next _ P D M hP (a + k) _ _ _ _ _ _ N hN hN1 (by omega)) (fun y37 h37 q37 => ?_)
            obtain ⟨rfl, rfl⟩ := q37
            refine s_iadd dX12_takesNumber_40 ?_
            refine s_bipush (v := 48) dX12_takesNumber_41 (by decide) ?_
            refine s_isub dX12_takesNumber_43 ?_
            refine pP_digits dX12_takesNumber_44 rfl hP ?_
            refine s_aload_nr (j := 0) dX12_takesNumber_47 rfl ?_
            refine s_dup dX12_takesNumber_48 rfl ?_
            refine gP_at dX12_takesNumber_49 rfl hP ?_
            refine s_iconst (v := 1) dX12_takesNumber_52 (by decide) ?_
            refine s_iadd dX12_takesNumber_53 ?_
            refine pP_at dX12_takesNumber_54 rfl hP ?_
            refine s_iinc (j := 1) (v := _ + (1)) dX12_takesNumber_57 rfl rfl (by decide) rfl ?_
            refine s_goto dX12_takesNumber_60 (tgt := 16) (by decide) ?_
            refine s_locals [1, 0] rfl ?_
            rw [nI_1, nI_1]
            exact ih (k + 1) (by omega) (by omega) (fun i hi => by by_cases e : i = k; (rw [e]; exact c25); exact h2 i (by omega))
    refine s_locals [1, 0] rfl ?_
    exact LP 3 0 (by decide) (by decide) (fun i hi => absurd hi (Nat.not_lt_zero _))
  · replace c4 := b2i_0.mp c4
    refine s_iconst (v := 0) dX12_takesNumber_7 (by decide) ?_
    exact e_zret dX12_takesNumber_8 rfl (by first | rfl | exact b2i_z | decide) (by exact ⟨(b2i_f c4).symm, dg, fun z => absurd z c4, by rw [nbK, if_neg c4]; rfl⟩)

set_option maxRecDepth 100000 in
set_option maxHeartbeats 800000 in
theorem m_emits (d : Nat) (P D : HP) (M : MZ) (hP : P.length = 95) (a : Nat) (dg : Int32) (x : Nat) (hx : x < 600) (wt op : Int32) (Sg W : Nat → Int32) (t : Int32) : Con d qX12_emits 0 0 [.ref 95, .int t] (mh P (pst M (nI a) dg (nI x) wt op Sg W) D) (PV fun h => h = mh P (pst M (nI a) dg (nI (x + 1)) wt op (upd Sg x t) W) D) := by
  refine Con.of (by decide +kernel) (Nat.le_of_ble_eq_true rfl) ?_
  show Sem d qX12_emits 0 0 0 [(0, .ref 95), (1, .int t)] [] (mh P (pst M (nI a) dg (nI x) wt op Sg W) D) _
  refine s_aload_nr (j := 0) dX12_emits_0 rfl ?_
  refine gP_sign dX12_emits_1 rfl hP ?_
  refine s_aload_nr (j := 0) dX12_emits_4 rfl ?_
  refine gP_signs dX12_emits_5 rfl hP ?_
  refine s_iload_n (j := 1) dX12_emits_8 rfl ?_
  refine sP_sign dX12_emits_9 hP (by exact vp_in_nI hx (by decide)) ?_
  rw [show pz (nI x) = x from nI_clamp (by omega)]
  refine s_aload_nr (j := 0) dX12_emits_10 rfl ?_
  refine s_dup dX12_emits_11 rfl ?_
  refine gP_signs dX12_emits_12 rfl hP ?_
  refine s_iconst (v := 1) dX12_emits_15 (by decide) ?_
  refine s_iadd dX12_emits_16 ?_
  refine pP_signs dX12_emits_17 rfl hP ?_
  exact e_vret dX12_emits_20 rfl (by rw [nI_1])

set_option maxRecDepth 100000 in
set_option maxHeartbeats 800000 in
theorem m_whole (d : Nat) (P D : HP) (M : MZ) (hP : P.length = 95) (a : Nat) (dg : Int32) (bs : Nat) (Sg0 W : Nat → Int32) (Wl0 tk0 : List Int32) (h1 : SGL Sg0 bs tk0) (h2 : TWL W Wl0) (h3 : bs + tk0.length + Wl0.length ≤ 600) (h4 : Wl0.length ≤ 101) : Con (d + 1) qX12_whole 0 0 [.ref 95] (mh P (pst M (nI a) dg (nI (bs + tk0.length)) (nI Wl0.length) (nI (cO Wl0)) Sg0 W) D) (PV fun h => RD M P D bs a dg (whW Wl0) (whT Wl0 tk0) Sg0 W h) := by
  refine Con.of (by decide +kernel) (Nat.le_of_ble_eq_true rfl) ?_
  show Sem (d + 1) qX12_whole 0 0 0 [(0, .ref 95)] [] (mh P (pst M (nI a) dg (nI (bs + tk0.length)) (nI Wl0.length) (nI (cO Wl0)) Sg0 W) D) _
  have LP : ∀ (n : Nat) (Wl tk : List Int32) (Sg : Nat → Int32), Wl.length < n → SGL Sg bs tk → (∀ j, j < bs → Sg j = Sg0 j) → TWL W Wl → bs + tk.length + Wl.length ≤ 600 → Wl.length ≤ 101 → whW Wl = whW Wl0 → whT Wl tk = whT Wl0 tk0 → Sem (d + 1) qX12_whole 0 0 0 [(0, .ref 95)] [] (mh P (pst M (nI a) dg (nI (bs + tk.length)) (nI Wl.length) (nI (cO Wl)) Sg W) D) (PV fun h => RD M P D bs a dg (whW Wl0) (whT Wl0 tk0) Sg0 W h) := by
    intro n
    induction n with
    | zero => intro Wl tk Sg hm; exact absurd hm (Nat.not_lt_zero _)
    | succ n ih =>
      intro Wl tk Sg hm g1 g2 g3 g4 g5 g6 g7
      refine s_aload_nr (j := 0) dX12_whole_0 rfl ?_
      refine gP_waiting dX12_whole_1 rfl hP ?_
      refine s_if_le dX12_whole_4 (tgt := 52) (by decide) (fun c4 => ?_) (fun c4 => ?_)
      · exact e_vret dX12_whole_52 rfl (by have ew : Wl = [] := (by cases Wl with | nil => rfl | cons b r => exact absurd (show nI (r.length + 1) ≤ 0 from c4) (nI_nle (by omega) (by have : r.length + 1 ≤ 101 := g5; omega))); subst ew; rw [← g6, ← g7]; exact ⟨Sg, g1, g2, rfl⟩)
      · obtain ⟨b, r, rfl⟩ : ∃ b r, Wl = b :: r := by
          cases Wl with
          | nil => exact absurd (show nI 0 ≤ 0 by decide) c4
          | cons b r => exact ⟨b, r, rfl⟩
        have g5x : r.length + 1 ≤ 101 := g5
        have g4x : bs + tk.length + (r.length + 1) ≤ 600 := g4
        have el : nI (b :: r).length - 1 = nI r.length := nI_pred _
        have hb : W (pz (nI (b :: r).length - 1)) = b := by rw [el, show pz (nI r.length) = r.length from nI_clamp (by omega)]; exact g3.1
        have hin : vp_in (nI (b :: r).length - 1) 101 := by rw [el]; exact vp_in_nI (by omega) (by decide)
        refine s_aload_nr (j := 0) dX12_whole_7 rfl ?_
        refine gP_waits dX12_whole_8 rfl hP ?_
        refine s_aload_nr (j := 0) dX12_whole_11 rfl ?_
        refine gP_waiting dX12_whole_12 rfl hP ?_
        refine s_iconst (v := 1) dX12_whole_15 (by decide) ?_
        refine s_isub dX12_whole_16 ?_
        refine lP_waits dX12_whole_17 hP (by exact hin) ?_
        refine s_bipush (v := 33) dX12_whole_18 (by decide) ?_
        refine s_icmp_ne dX12_whole_20 (tgt := 52) (by decide) (fun c20 => ?_) (fun c20 => ?_)
        · exact e_vret dX12_whole_52 rfl (by rw [hb] at c20; rw [← g6, ← g7, whW, whT, if_neg c20, if_neg c20]; exact ⟨Sg, g1, g2, rfl⟩)
        · refine s_aload_nr (j := 0) dX12_whole_23 rfl ?_
          refine s_bipush (v := -33) dX12_whole_24 (by decide) ?_
          refine s_V1v cv_X12_225 rfl dX12_whole_26 (mh_get (k := 0) hP rfl) rfl (Nat.le_of_ble_eq_true rfl) (m_emits _ P D M hP a dg (bs + tk.length) (by omega) _ _ _ _ (_)) (fun h26 q26 => ?_)
          obtain rfl := q26
          refine s_aload_nr (j := 0) dX12_whole_29 rfl ?_
          refine s_dup dX12_whole_30 rfl ?_
          refine gP_waiting dX12_whole_31 rfl hP ?_
          refine s_iconst (v := 1) dX12_whole_34 (by decide) ?_
          refine s_isub dX12_whole_35 ?_
          refine pP_waiting dX12_whole_36 rfl hP ?_
          refine s_aload_nr (j := 0) dX12_whole_39 rfl ?_
          refine s_dup dX12_whole_40 rfl ?_
          refine gP_open dX12_whole_41 rfl hP ?_
          refine s_iconst (v := 1) dX12_whole_44 (by decide) ?_
          refine s_isub dX12_whole_45 ?_
          refine pP_open dX12_whole_46 rfl hP ?_
          refine s_goto dX12_whole_49 (tgt := 0) (by decide) ?_
          refine s_locals [0] rfl ?_
          rw [hb] at c20
          have hm2 : r.length < n := Nat.lt_of_succ_lt_succ hm
          have e9 : nI (cO (b :: r)) - 1 = nI (cO r) := by rw [cO, if_pos (Or.inl c20), nI_pred]
          rw [el, e9]
          exact ih r (-33 :: tk) _ hm2 (g1.put _) (fun j hj => (if_neg (by omega)).trans (g2 j hj)) g3.2 (by rw [List.length_cons]; omega) (by omega) (by rw [← g6, whW, if_pos c20]) (by rw [← g7, whT, if_pos c20])
  refine s_locals [0] rfl ?_
  exact LP (Wl0.length + 1) Wl0 tk0 Sg0 (Nat.lt_succ_self _) h1 (fun _ _ => rfl) h2 h3 h4 rfl rfl

set_option maxRecDepth 100000 in
set_option maxHeartbeats 800000 in
theorem m_settle (d : Nat) (P D : HP) (M : MZ) (hP : P.length = 95) (a : Nat) (dg : Int32) (bs : Nat) (Sg0 W : Nat → Int32) (Wl0 tk0 : List Int32) (t : Int32) (h1 : SGL Sg0 bs tk0) (h2 : TWL W Wl0) (h3 : bs + tk0.length + Wl0.length ≤ 600) (h4 : Wl0.length ≤ 101) : Con (d + 1) qX12_settle 0 0 [.ref 95, .int t] (mh P (pst M (nI a) dg (nI (bs + tk0.length)) (nI Wl0.length) (nI (cO Wl0)) Sg0 W) D) (PV fun h => RD M P D bs a dg (stW t Wl0) (stT t Wl0 tk0) Sg0 W h) := by
  refine Con.of (by decide +kernel) (Nat.le_of_ble_eq_true rfl) ?_
  show Sem (d + 1) qX12_settle 0 0 0 [(0, .ref 95), (1, .int t)] [] (mh P (pst M (nI a) dg (nI (bs + tk0.length)) (nI Wl0.length) (nI (cO Wl0)) Sg0 W) D) _
  have LP : ∀ (n : Nat) (Wl tk : List Int32) (Sg : Nat → Int32), Wl.length < n → SGL Sg bs tk → (∀ j, j < bs → Sg j = Sg0 j) → TWL W Wl → bs + tk.length + Wl.length ≤ 600 → Wl.length ≤ 101 → stW t Wl = stW t Wl0 → stT t Wl tk = stT t Wl0 tk0 → Sem (d + 1) qX12_settle 0 0 0 [(0, .ref 95), (1, .int t)] [] (mh P (pst M (nI a) dg (nI (bs + tk.length)) (nI Wl.length) (nI (cO Wl)) Sg W) D) (PV fun h => RD M P D bs a dg (stW t Wl0) (stT t Wl0 tk0) Sg0 W h) := by
    intro n
    induction n with
    | zero => intro Wl tk Sg hm; exact absurd hm (Nat.not_lt_zero _)
    | succ n ih =>
      intro Wl tk Sg hm g1 g2 g3 g4 g5 g6 g7
      refine s_aload_nr (j := 0) dX12_settle_0 rfl ?_
      refine gP_waiting dX12_settle_1 rfl hP ?_
      refine s_if_le dX12_settle_4 (tgt := 72) (by decide) (fun c4 => ?_) (fun c4 => ?_)
      · exact e_vret dX12_settle_72 rfl (by have ew : Wl = [] := (by cases Wl with | nil => rfl | cons b r => exact absurd (show nI (r.length + 1) ≤ 0 from c4) (nI_nle (by omega) (by have : r.length + 1 ≤ 101 := g5; omega))); subst ew; rw [← g6, ← g7]; exact ⟨Sg, g1, g2, rfl⟩)
      · obtain ⟨b, r, rfl⟩ : ∃ b r, Wl = b :: r := by
          cases Wl with
          | nil => exact absurd (show nI 0 ≤ 0 by decide) c4
          | cons b r => exact ⟨b, r, rfl⟩
        have g5x : r.length + 1 ≤ 101 := g5
        have g4x : bs + tk.length + (r.length + 1) ≤ 600 := g4
        have el : nI (b :: r).length - 1 = nI r.length := nI_pred _
        have hb : W (pz (nI (b :: r).length - 1)) = b := by rw [el, show pz (nI r.length) = r.length from nI_clamp (by omega)]; exact g3.1
        have hin : vp_in (nI (b :: r).length - 1) 101 := by rw [el]; exact vp_in_nI (by omega) (by decide)
        refine s_aload_nr (j := 0) dX12_settle_7 rfl ?_
        refine gP_waits dX12_settle_8 rfl hP ?_
        refine s_aload_nr (j := 0) dX12_settle_11 rfl ?_
        refine gP_waiting dX12_settle_12 rfl hP ?_
        refine s_iconst (v := 1) dX12_settle_15 (by decide) ?_
        refine s_isub dX12_settle_16 ?_
        refine lP_waits dX12_settle_17 hP (by exact hin) ?_
        refine s_bipush (v := 38) dX12_settle_18 (by decide) ?_
        refine s_icmp_eq dX12_settle_20 (tgt := 45) (by decide) (fun c20 => ?_) (fun c20 => ?_)
        · refine s_aload_nr (j := 0) dX12_settle_45 rfl ?_
          refine s_dup dX12_settle_46 rfl ?_
          refine gP_waiting dX12_settle_47 rfl hP ?_
          refine s_iconst (v := 1) dX12_settle_50 (by decide) ?_
          refine s_isub dX12_settle_51 ?_
          refine pP_waiting dX12_settle_52 rfl hP ?_
          refine s_aload_nr (j := 0) dX12_settle_55 rfl ?_
          refine s_aload_nr (j := 0) dX12_settle_56 rfl ?_
          refine gP_waits dX12_settle_57 rfl hP ?_
          refine s_aload_nr (j := 0) dX12_settle_60 rfl ?_
          refine gP_waiting dX12_settle_61 rfl hP ?_
          refine lP_waits dX12_settle_64 hP (by exact hin) ?_
          refine s_ineg dX12_settle_65 ?_
          refine s_V1v cv_X12_225 rfl dX12_settle_66 (mh_get (k := 0) hP rfl) rfl (Nat.le_of_ble_eq_true rfl) (m_emits _ P D M hP a dg (bs + tk.length) (by omega) _ _ _ _ (_)) (fun h66 q66 => ?_)
          obtain rfl := q66
          refine s_goto dX12_settle_69 (tgt := 0) (by decide) ?_
          refine s_locals [0, 1] rfl ?_
          rw [hb] at c20
          try rw [hb] at c36
          have yc : cls b t := Or.inl c20
          have hm2 : r.length < n := Nat.lt_of_succ_lt_succ hm
          have e9 : nI (cO (b :: r)) = nI (cO r) := by rw [cO, if_neg (by rcases yc with z | ⟨z, _⟩ <;> rw [z] <;> decide)]
          rw [hb, el, e9]
          exact ih r (-b :: tk) _ hm2 (g1.put _) (fun j hj => (if_neg (by omega)).trans (g2 j hj)) g3.2 (by rw [List.length_cons]; omega) (by omega) (by rw [← g6, stW, if_pos yc]) (by rw [← g7, stT, if_pos yc])
        · refine s_aload_nr (j := 0) dX12_settle_23 rfl ?_
          refine gP_waits dX12_settle_24 rfl hP ?_
          refine s_aload_nr (j := 0) dX12_settle_27 rfl ?_
          refine gP_waiting dX12_settle_28 rfl hP ?_
          refine s_iconst (v := 1) dX12_settle_31 (by decide) ?_
          refine s_isub dX12_settle_32 ?_
          refine lP_waits dX12_settle_33 hP (by exact hin) ?_
          refine s_bipush (v := 124) dX12_settle_34 (by decide) ?_
          refine s_icmp_ne dX12_settle_36 (tgt := 72) (by decide) (fun c36 => ?_) (fun c36 => ?_)
          · exact e_vret dX12_settle_72 rfl (by rw [hb] at c20 c36; have nc : ¬ cls b t := (fun z => z.elim c20 (fun z2 => c36 z2.1)); rw [← g6, ← g7, stW, stT, if_neg nc, if_neg nc]; exact ⟨Sg, g1, g2, rfl⟩)
          · refine s_iload_n (j := 1) dX12_settle_39 rfl ?_
            refine s_bipush (v := 38) dX12_settle_40 (by decide) ?_
            refine s_icmp_eq dX12_settle_42 (tgt := 72) (by decide) (fun c42 => ?_) (fun c42 => ?_)
            · exact e_vret dX12_settle_72 rfl (by rw [hb] at c20 c36; have nc : ¬ cls b t := (fun z => z.elim c20 (fun z2 => z2.2 c42)); rw [← g6, ← g7, stW, stT, if_neg nc, if_neg nc]; exact ⟨Sg, g1, g2, rfl⟩)
            · refine s_aload_nr (j := 0) dX12_settle_45 rfl ?_
              refine s_dup dX12_settle_46 rfl ?_
              refine gP_waiting dX12_settle_47 rfl hP ?_
              refine s_iconst (v := 1) dX12_settle_50 (by decide) ?_
              refine s_isub dX12_settle_51 ?_
              refine pP_waiting dX12_settle_52 rfl hP ?_
              refine s_aload_nr (j := 0) dX12_settle_55 rfl ?_
              refine s_aload_nr (j := 0) dX12_settle_56 rfl ?_
              refine gP_waits dX12_settle_57 rfl hP ?_
              refine s_aload_nr (j := 0) dX12_settle_60 rfl ?_
              refine gP_waiting dX12_settle_61 rfl hP ?_
              refine lP_waits dX12_settle_64 hP (by exact hin) ?_
              refine s_ineg dX12_settle_65 ?_
              refine s_V1v cv_X12_225 rfl dX12_settle_66 (mh_get (k := 0) hP rfl) rfl (Nat.le_of_ble_eq_true rfl) (m_emits _ P D M hP a dg (bs + tk.length) (by omega) _ _ _ _ (_)) (fun h66 q66 => ?_)
              obtain rfl := q66
              refine s_goto dX12_settle_69 (tgt := 0) (by decide) ?_
              refine s_locals [0, 1] rfl ?_
              rw [hb] at c20
              try rw [hb] at c36
              have yc : cls b t := Or.inr ⟨c36, c42⟩
              have hm2 : r.length < n := Nat.lt_of_succ_lt_succ hm
              have e9 : nI (cO (b :: r)) = nI (cO r) := by rw [cO, if_neg (by rcases yc with z | ⟨z, _⟩ <;> rw [z] <;> decide)]
              rw [hb, el, e9]
              exact ih r (-b :: tk) _ hm2 (g1.put _) (fun j hj => (if_neg (by omega)).trans (g2 j hj)) g3.2 (by rw [List.length_cons]; omega) (by omega) (by rw [← g6, stW, if_pos yc]) (by rw [← g7, stT, if_pos yc])
  refine s_locals [0, 1] rfl ?_
  exact LP (Wl0.length + 1) Wl0 tk0 Sg0 (Nat.lt_succ_self _) h1 (fun _ _ => rfl) h2 h3 h4 rfl rfl

set_option maxRecDepth 100000 in
set_option maxHeartbeats 800000 in
theorem m_place (d : Nat) (P D : HP) (M : MZ) (hP : P.length = 95) (c : Int32) : Con d qX12_place 0 0 [.ref 95, .int c] (mh P M D) (XI (plc c) (mh P M D)) := by
  refine Con.of (by decide +kernel) (Nat.le_of_ble_eq_true rfl) ?_
  show Sem d qX12_place 0 0 0 [(0, .ref 95), (1, .int c)] [] (mh P M D) _
  refine s_iload_n (j := 1) dX12_place_0 rfl ?_
  refine s_topi (fun x1 ex1 => ?_)
  by_cases k1_0 : x1 = 102
  · refine s_tswIn dX12_place_1 (tgt := 92) (by rw [k1_0]; decide) (by rw [k1_0]; decide) (off := 91) (by rw [k1_0]; decide) (by decide) ?_
    replace ex1 := ex1.symm.trans k1_0
    clear k1_0
    refine s_iconst (v := 2) dX12_place_92 (by decide) ?_
    exact e_iret dX12_place_93 rfl (by exact ⟨by simp [plc, *], rfl⟩)
  by_cases k1_1 : x1 = 103
  · refine s_tswIn dX12_place_1 (tgt := 100) (by rw [k1_1]; decide) (by rw [k1_1]; decide) (off := 99) (by rw [k1_1]; decide) (by decide) ?_
    replace ex1 := ex1.symm.trans k1_1
    clear k1_1 k1_0
    refine s_iconst (v := -1) dX12_place_100 (by decide) ?_
    exact e_iret dX12_place_101 rfl (by exact ⟨by simp [plc, *], rfl⟩)
  by_cases k1_2 : x1 = 104
  · refine s_tswIn dX12_place_1 (tgt := 100) (by rw [k1_2]; decide) (by rw [k1_2]; decide) (off := 99) (by rw [k1_2]; decide) (by decide) ?_
    replace ex1 := ex1.symm.trans k1_2
    clear k1_2 k1_1 k1_0
    refine s_iconst (v := -1) dX12_place_100 (by decide) ?_
    exact e_iret dX12_place_101 rfl (by exact ⟨by simp [plc, *], rfl⟩)
  by_cases k1_3 : x1 = 105
  · refine s_tswIn dX12_place_1 (tgt := 100) (by rw [k1_3]; decide) (by rw [k1_3]; decide) (off := 99) (by rw [k1_3]; decide) (by decide) ?_
    replace ex1 := ex1.symm.trans k1_3
    clear k1_3 k1_2 k1_1 k1_0
    refine s_iconst (v := -1) dX12_place_100 (by decide) ?_
    exact e_iret dX12_place_101 rfl (by exact ⟨by simp [plc, *], rfl⟩)
  by_cases k1_4 : x1 = 106
  · refine s_tswIn dX12_place_1 (tgt := 100) (by rw [k1_4]; decide) (by rw [k1_4]; decide) (off := 99) (by rw [k1_4]; decide) (by decide) ?_
    replace ex1 := ex1.symm.trans k1_4
    clear k1_4 k1_3 k1_2 k1_1 k1_0
    refine s_iconst (v := -1) dX12_place_100 (by decide) ?_
    exact e_iret dX12_place_101 rfl (by exact ⟨by simp [plc, *], rfl⟩)
  by_cases k1_5 : x1 = 107
  · refine s_tswIn dX12_place_1 (tgt := 90) (by rw [k1_5]; decide) (by rw [k1_5]; decide) (off := 89) (by rw [k1_5]; decide) (by decide) ?_
    replace ex1 := ex1.symm.trans k1_5
    clear k1_5 k1_4 k1_3 k1_2 k1_1 k1_0
    refine s_iconst (v := 1) dX12_place_90 (by decide) ?_
    exact e_iret dX12_place_91 rfl (by exact ⟨by simp [plc, *], rfl⟩)
  by_cases k1_6 : x1 = 108
  · refine s_tswIn dX12_place_1 (tgt := 98) (by rw [k1_6]; decide) (by rw [k1_6]; decide) (off := 97) (by rw [k1_6]; decide) (by decide) ?_
    replace ex1 := ex1.symm.trans k1_6
    clear k1_6 k1_5 k1_4 k1_3 k1_2 k1_1 k1_0
    refine s_iconst (v := 5) dX12_place_98 (by decide) ?_
    exact e_iret dX12_place_99 rfl (by exact ⟨by simp [plc, *], rfl⟩)
  by_cases k1_7 : x1 = 109
  · refine s_tswIn dX12_place_1 (tgt := 100) (by rw [k1_7]; decide) (by rw [k1_7]; decide) (off := 99) (by rw [k1_7]; decide) (by decide) ?_
    replace ex1 := ex1.symm.trans k1_7
    clear k1_7 k1_6 k1_5 k1_4 k1_3 k1_2 k1_1 k1_0
    refine s_iconst (v := -1) dX12_place_100 (by decide) ?_
    exact e_iret dX12_place_101 rfl (by exact ⟨by simp [plc, *], rfl⟩)
  by_cases k1_8 : x1 = 110
  · refine s_tswIn dX12_place_1 (tgt := 100) (by rw [k1_8]; decide) (by rw [k1_8]; decide) (off := 99) (by rw [k1_8]; decide) (by decide) ?_
    replace ex1 := ex1.symm.trans k1_8
    clear k1_8 k1_7 k1_6 k1_5 k1_4 k1_3 k1_2 k1_1 k1_0
    refine s_iconst (v := -1) dX12_place_100 (by decide) ?_
    exact e_iret dX12_place_101 rfl (by exact ⟨by simp [plc, *], rfl⟩)
  by_cases k1_9 : x1 = 111
  · refine s_tswIn dX12_place_1 (tgt := 100) (by rw [k1_9]; decide) (by rw [k1_9]; decide) (off := 99) (by rw [k1_9]; decide) (by decide) ?_
    replace ex1 := ex1.symm.trans k1_9
    clear k1_9 k1_8 k1_7 k1_6 k1_5 k1_4 k1_3 k1_2 k1_1 k1_0
    refine s_iconst (v := -1) dX12_place_100 (by decide) ?_
    exact e_iret dX12_place_101 rfl (by exact ⟨by simp [plc, *], rfl⟩)
  by_cases k1_10 : x1 = 112
  · refine s_tswIn dX12_place_1 (tgt := 88) (by rw [k1_10]; decide) (by rw [k1_10]; decide) (off := 87) (by rw [k1_10]; decide) (by decide) ?_
    replace ex1 := ex1.symm.trans k1_10
    clear k1_10 k1_9 k1_8 k1_7 k1_6 k1_5 k1_4 k1_3 k1_2 k1_1 k1_0
    refine s_iconst (v := 0) dX12_place_88 (by decide) ?_
    exact e_iret dX12_place_89 rfl (by exact ⟨by simp [plc, *], rfl⟩)
  by_cases k1_11 : x1 = 113
  · refine s_tswIn dX12_place_1 (tgt := 100) (by rw [k1_11]; decide) (by rw [k1_11]; decide) (off := 99) (by rw [k1_11]; decide) (by decide) ?_
    replace ex1 := ex1.symm.trans k1_11
    clear k1_11 k1_10 k1_9 k1_8 k1_7 k1_6 k1_5 k1_4 k1_3 k1_2 k1_1 k1_0
    refine s_iconst (v := -1) dX12_place_100 (by decide) ?_
    exact e_iret dX12_place_101 rfl (by exact ⟨by simp [plc, *], rfl⟩)
  by_cases k1_12 : x1 = 114
  · refine s_tswIn dX12_place_1 (tgt := 100) (by rw [k1_12]; decide) (by rw [k1_12]; decide) (off := 99) (by rw [k1_12]; decide) (by decide) ?_
    replace ex1 := ex1.symm.trans k1_12
    clear k1_12 k1_11 k1_10 k1_9 k1_8 k1_7 k1_6 k1_5 k1_4 k1_3 k1_2 k1_1 k1_0
    refine s_iconst (v := -1) dX12_place_100 (by decide) ?_
    exact e_iret dX12_place_101 rfl (by exact ⟨by simp [plc, *], rfl⟩)
  by_cases k1_13 : x1 = 115
  · refine s_tswIn dX12_place_1 (tgt := 94) (by rw [k1_13]; decide) (by rw [k1_13]; decide) (off := 93) (by rw [k1_13]; decide) (by decide) ?_
    replace ex1 := ex1.symm.trans k1_13
    clear k1_13 k1_12 k1_11 k1_10 k1_9 k1_8 k1_7 k1_6 k1_5 k1_4 k1_3 k1_2 k1_1 k1_0
    refine s_iconst (v := 3) dX12_place_94 (by decide) ?_
    exact e_iret dX12_place_95 rfl (by exact ⟨by simp [plc, *], rfl⟩)
  by_cases k1_14 : x1 = 116
  · refine s_tswIn dX12_place_1 (tgt := 100) (by rw [k1_14]; decide) (by rw [k1_14]; decide) (off := 99) (by rw [k1_14]; decide) (by decide) ?_
    replace ex1 := ex1.symm.trans k1_14
    clear k1_14 k1_13 k1_12 k1_11 k1_10 k1_9 k1_8 k1_7 k1_6 k1_5 k1_4 k1_3 k1_2 k1_1 k1_0
    refine s_iconst (v := -1) dX12_place_100 (by decide) ?_
    exact e_iret dX12_place_101 rfl (by exact ⟨by simp [plc, *], rfl⟩)
  by_cases k1_15 : x1 = 117
  · refine s_tswIn dX12_place_1 (tgt := 100) (by rw [k1_15]; decide) (by rw [k1_15]; decide) (off := 99) (by rw [k1_15]; decide) (by decide) ?_
    replace ex1 := ex1.symm.trans k1_15
    clear k1_15 k1_14 k1_13 k1_12 k1_11 k1_10 k1_9 k1_8 k1_7 k1_6 k1_5 k1_4 k1_3 k1_2 k1_1 k1_0
    refine s_iconst (v := -1) dX12_place_100 (by decide) ?_
    exact e_iret dX12_place_101 rfl (by exact ⟨by simp [plc, *], rfl⟩)
  by_cases k1_16 : x1 = 118
  · refine s_tswIn dX12_place_1 (tgt := 100) (by rw [k1_16]; decide) (by rw [k1_16]; decide) (off := 99) (by rw [k1_16]; decide) (by decide) ?_
    replace ex1 := ex1.symm.trans k1_16
    clear k1_16 k1_15 k1_14 k1_13 k1_12 k1_11 k1_10 k1_9 k1_8 k1_7 k1_6 k1_5 k1_4 k1_3 k1_2 k1_1 k1_0
    refine s_iconst (v := -1) dX12_place_100 (by decide) ?_
    exact e_iret dX12_place_101 rfl (by exact ⟨by simp [plc, *], rfl⟩)
  by_cases k1_17 : x1 = 119
  · refine s_tswIn dX12_place_1 (tgt := 96) (by rw [k1_17]; decide) (by rw [k1_17]; decide) (off := 95) (by rw [k1_17]; decide) (by decide) ?_
    replace ex1 := ex1.symm.trans k1_17
    clear k1_17 k1_16 k1_15 k1_14 k1_13 k1_12 k1_11 k1_10 k1_9 k1_8 k1_7 k1_6 k1_5 k1_4 k1_3 k1_2 k1_1 k1_0
    refine s_iconst (v := 4) dX12_place_96 (by decide) ?_
    exact e_iret dX12_place_97 rfl (by exact ⟨by simp [plc, *], rfl⟩)
  refine s_tswOut dX12_place_1 (tgt := 100) (by have a0 := lv_neT (a := 102) k1_0 rfl; have a1 := lv_neT (a := 103) k1_1 rfl; have a2 := lv_neT (a := 104) k1_2 rfl; have a3 := lv_neT (a := 105) k1_3 rfl; have a4 := lv_neT (a := 106) k1_4 rfl; have a5 := lv_neT (a := 107) k1_5 rfl; have a6 := lv_neT (a := 108) k1_6 rfl; have a7 := lv_neT (a := 109) k1_7 rfl; have a8 := lv_neT (a := 110) k1_8 rfl; have a9 := lv_neT (a := 111) k1_9 rfl; have a10 := lv_neT (a := 112) k1_10 rfl; have a11 := lv_neT (a := 113) k1_11 rfl; have a12 := lv_neT (a := 114) k1_12 rfl; have a13 := lv_neT (a := 115) k1_13 rfl; have a14 := lv_neT (a := 116) k1_14 rfl; have a15 := lv_neT (a := 117) k1_15 rfl; have a16 := lv_neT (a := 118) k1_16 rfl; have a17 := lv_neT (a := 119) k1_17 rfl; omega) (by decide) ?_
  replace k1_0 : ¬ _ = _ := fun z => k1_0 (ex1.trans z)
  replace k1_1 : ¬ _ = _ := fun z => k1_1 (ex1.trans z)
  replace k1_2 : ¬ _ = _ := fun z => k1_2 (ex1.trans z)
  replace k1_3 : ¬ _ = _ := fun z => k1_3 (ex1.trans z)
  replace k1_4 : ¬ _ = _ := fun z => k1_4 (ex1.trans z)
  replace k1_5 : ¬ _ = _ := fun z => k1_5 (ex1.trans z)
  replace k1_6 : ¬ _ = _ := fun z => k1_6 (ex1.trans z)
  replace k1_7 : ¬ _ = _ := fun z => k1_7 (ex1.trans z)
  replace k1_8 : ¬ _ = _ := fun z => k1_8 (ex1.trans z)
  replace k1_9 : ¬ _ = _ := fun z => k1_9 (ex1.trans z)
  replace k1_10 : ¬ _ = _ := fun z => k1_10 (ex1.trans z)
  replace k1_11 : ¬ _ = _ := fun z => k1_11 (ex1.trans z)
  replace k1_12 : ¬ _ = _ := fun z => k1_12 (ex1.trans z)
  replace k1_13 : ¬ _ = _ := fun z => k1_13 (ex1.trans z)
  replace k1_14 : ¬ _ = _ := fun z => k1_14 (ex1.trans z)
  replace k1_15 : ¬ _ = _ := fun z => k1_15 (ex1.trans z)
  replace k1_16 : ¬ _ = _ := fun z => k1_16 (ex1.trans z)
  replace k1_17 : ¬ _ = _ := fun z => k1_17 (ex1.trans z)
  clear ex1
  refine s_iconst (v := -1) dX12_place_100 (by decide) ?_
  exact e_iret dX12_place_101 rfl (by exact ⟨by simp [plc, *], rfl⟩)
