set_option maxRecDepth 100000 in
set_option maxHeartbeats 800000 in
theorem m_goesText2 (d : Nat) (P D : HP) (M : MZ) (hP : P.length = 95) (at0 dg0 sn0 wt0 op0 : Int32) (Sg0 W0 : Nat → Int32) (N : Nat) (hN : M.1 6 = nI N) (hN1 : N ≤ 100) (hLT : ∀ i, i < 8 → ¬ M.2.1 14 i = -1) (F : Nat) (hF : F < 6) (R : Bool × Nat × CLs) (hR : R = gtR (M.2.1 6) N (M.2.1 14) 10 0) : Con (d + 6) qX12_goesText 0 0 [.ref 95, .int (nI F)] (mh P (pst M at0 dg0 sn0 wt0 op0 Sg0 W0) D) (PI fun y h => GO2 M P D F Sg0 R y h) := by
  refine Con.of (by decide +kernel) (Nat.le_of_ble_eq_true rfl) ?_
  show Sem (d + 6) qX12_goesText 0 0 0 [(0, .ref 95), (1, .int (nI F))] [] (mh P (pst M at0 dg0 sn0 wt0 op0 Sg0 W0) D) _
  refine s_aload_nr (j := 0) dX12_goesText_0 rfl ?_
  refine s_iconst (v := 0) dX12_goesText_1 (by decide) ?_
  refine pP_at dX12_goesText_2 rfl hP ?_
  refine s_aload_nr (j := 0) dX12_goesText_5 rfl ?_
  refine s_bipush (v := 100) dX12_goesText_6 (by decide) ?_
  refine s_iload_n (j := 1) dX12_goesText_8 rfl ?_
  refine s_imul dX12_goesText_9 ?_
  refine pP_signs dX12_goesText_10 rfl hP ?_
  refine s_iconst (v := 0) dX12_goesText_13 (by decide) ?_
  refine s_istore_n dX12_goesText_14 (by decide) rfl ?_
  have LP : ∀ (n : Nat) (k a bs : Nat) (dn : CLs) (dg wt op : Int32) (Sg W : Nat → Int32) (M2 : MZ), k < n → 0 < k → k + dn.length = 10 → a ≤ N → 100 * F ≤ bs → bs ≤ 100 * F + a → GF M M2 F Sg Sg0 → CS M2 Sg (10 * F) bs dn → (gtR (M.2.1 6) N (M.2.1 14) k a).1 = R.1 → (gtR (M.2.1 6) N (M.2.1 14) k a).2.1 = R.2.1 → (R.1 = true → dn ++ (gtR (M.2.1 6) N (M.2.1 14) k a).2.2 = R.2.2) → Sem (d + 6) qX12_goesText 0 0 15 [(0, .ref 95), (1, .int (nI F)), (2, .int (nI dn.length))] [] (mh P (pst M2 (nI a) dg (nI bs) wt op Sg W) D) (PI fun y h => GO2 M P D F Sg0 R y h) := by
    intro n
    induction n with
    | zero => intro k a bs dn dg wt op Sg W M2 hm; exact absurd hm (Nat.not_lt_zero _)
    | succ n ih =>
      intro k a bs dn dg wt op Sg W M2 hm g0 g1 g2 g3 g4 g5 g6 g7 g8 g9
      have e6 : M2.2.1 6 = M.2.1 6 := g5.2.2.1 6 (by decide)
      have e14 : M2.2.1 14 = M.2.1 14 := g5.2.2.1 14 (by decide)
      have e1 : M2.1 = M.1 := g5.1
      have ec0 : (10 : Int32) * nI F + nI dn.length = nI (10 * F + dn.length) := by rw [show (10 : Int32) = nI 10 from rfl, nI_mul, nI_add]
      have ec : pz (nI (10 * F + dn.length)) = 10 * F + dn.length := nI_clamp (by omega)
      have hbd := clR_bd (T := M.2.1 6) (LT := M.2.1 14) g2 hLT
      refine s_aload_nr (j := 0) dX12_goesText_15 rfl ?_
      refine s_bipush (v := 10) dX12_goesText_16 (by decide) ?_
      refine s_iload_n (j := 1) dX12_goesText_18 rfl ?_
      refine s_imul dX12_goesText_19 ?_
      refine s_iload_n (j := 2) dX12_goesText_20 rfl ?_
      refine s_iadd dX12_goesText_21 ?_
      rw [ec0]
      refine s_V1i cv_X12_255 rfl dX12_goesText_22 (mh_get (k := 0) hP rfl) rfl (Nat.le_of_ble_eq_true rfl) (m_takesClause _ P D M2 hP a dg wt op bs Sg W N (by rw [e1]; exact hN) hN1 g2 (by omega) (by rw [e14]; exact hLT) _ (vp_in_nI (by omega) (by decide))) (fun y22 h22 q22 => ?_)
      rw [e6, e14] at q22
      unfold CO at q22
      rw [ec, e6, e14] at q22
      obtain ⟨rfl, M3, dg3, wt3, op3, Sg3, W3, k1, k2, k3, k4, rfl⟩ := q22
      refine s_if_ne dX12_goesText_25 (tgt := 30) (by decide) (fun c25 => ?_) (fun c25 => ?_)
      · replace c25 := b2i_n0.mp c25
        have e6c : M3.2.1 6 = M.2.1 6 := (k1.2.2.1 6 (by decide)).trans e6
        refine s_iinc (j := 2) (v := _ + (1)) dX12_goesText_30 rfl rfl (by decide) rfl ?_
        simp only [nI_1]
        refine s_aload_nr (j := 1) dX12_goesText_33 rfl ?_
        refine gP_clauses dX12_goesText_34 rfl hP ?_
        refine s_iload_n (j := 2) dX12_goesText_37 rfl ?_
        refine s_iload_n (j := 0) dX12_goesText_38 rfl ?_
        refine sP_clauses dX12_goesText_39 hP (by exact vp_in_nI (by omega) (by decide)) ?_
        rw [show pz (nI F) = F from nI_clamp (by omega)]
        have hs := go_step (v := nI (dn.length + 1)) g5 g6 g3 k1 k2 k3 (k4 c25) c25
        obtain ⟨k, rfl⟩ : ∃ x, k = x + 1 := ⟨k - 1, by omega⟩
        refine s_aload_nr (j := 1) dX12_goesText_40 rfl ?_
        refine gP_at dX12_goesText_41 rfl hP ?_
        refine s_aload_nr (j := 1) dX12_goesText_44 rfl ?_
        refine gP_fed dX12_goesText_45 rfl hP ?_
        refine s_icmp_ne dX12_goesText_48 (tgt := 53) (by decide) (fun c48 => ?_) (fun c48 => ?_)
        · have hE : ¬ (clR (M.2.1 6) N (M.2.1 14) a).2.1 = N := fun z => c48 (by show _ = M3.1 6; rw [k1.1, e1, hN, z])
          refine s_iload_n (j := 0) dX12_goesText_53 rfl ?_
          refine s_bipush (v := 10) dX12_goesText_54 (by decide) ?_
          refine s_icmp_eq dX12_goesText_56 (tgt := 68) (by decide) (fun c56 => ?_) (fun c56 => ?_)
          · have hk0 : k = 0 := by have := (nI_eq (by omega) (by decide)).mp (show nI (dn.length + 1) = nI 10 from c56); omega
            refine s_iconst (v := 0) dX12_goesText_68 (by decide) ?_
            exact e_zret dX12_goesText_69 rfl (by first | rfl | exact b2i_z | decide) (by rw [gtR, if_pos c25, if_neg hE, if_pos hk0] at g7 g8 g9; exact ⟨(b2i_f (by rw [← g7]; simp)).symm, _, dg3, _, wt3, op3, Sg3, W3, bs, hs.1, fun z => absurd (g7.trans z) (by simp), by rw [← g8]⟩)
          · have hk0 : ¬ k = 0 := fun z => c56 (by rw [show dn.length + 1 = 10 by omega]; rfl)
            refine s_aload_nr (j := 1) dX12_goesText_59 rfl ?_
            refine s_bipush (v := 59) dX12_goesText_60 (by decide) ?_
            refine s_V1i cv_X12_218 rfl dX12_goesText_62 (mh_get (k := 0) hP rfl) rfl (Nat.le_of_ble_eq_true rfl) (m_takes _ P D _ hP (clR (M.2.1 6) N (M.2.1 14) a).2.1 _ _ _ _ _ _ N (by show M3.1 6 = _; rw [k1.1, e1]; exact hN) hN1 (by omega) _) (fun y62 h62 q62 => ?_)
            obtain ⟨rfl, rfl⟩ := q62
            rw [show (msa M3 7 F (nI (dn.length + 1))).2.1 6 = M.2.1 6 from e6c]
            refine s_if_ne dX12_goesText_65 (tgt := 15) (by decide) (fun c65 => ?_) (fun c65 => ?_)
            · replace c65 := b2i_n0.mp c65
              refine s_locals [1, 2, 0] rfl ?_
              skip
              rw [gtR, if_pos c25, if_neg hE, if_neg hk0, if_pos c65] at g7 g8 g9
              have ha1 : (clR (M.2.1 6) N (M.2.1 14) a).2.1 + 1 ≤ N := sg_lt (fun z => by rw [z] at c65; exact absurd c65 (by decide))
              rw [tkA, if_pos c65]
              have e8 := ih k ((clR (M.2.1 6) N (M.2.1 14) a).2.1 + 1) (bs + (clR (M.2.1 6) N (M.2.1 14) a).2.2.length) (dn ++ [clO (M.2.1 6) N (M.2.1 14) a]) dg3 wt3 op3 Sg3 W3 (msa M3 7 F (nI (dn.length + 1))) (by omega) (by omega) (by rw [List.length_append, List.length_singleton]; omega) ha1 (by omega) (by omega) hs.1 hs.2 g7 g8 (fun z => by rw [List.append_assoc]; exact g9 z)
              rw [List.length_append, List.length_singleton] at e8
              exact e8
            · replace c65 := b2i_0.mp c65
              refine s_iconst (v := 0) dX12_goesText_68 (by decide) ?_
              exact e_zret dX12_goesText_69 rfl (by first | rfl | exact b2i_z | decide) (by rw [gtR, if_pos c25, if_neg hE, if_neg hk0, if_neg c65] at g7 g8 g9; exact ⟨(b2i_f (by rw [← g7]; simp)).symm, _, dg3, _, wt3, op3, Sg3, W3, bs, hs.1, fun z => absurd (g7.trans z) (by simp), by rw [← g8]; rw [tkA, if_neg c65]⟩)
        · have hE : (clR (M.2.1 6) N (M.2.1 14) a).2.1 = N := (nI_eq (by omega) (by omega)).mp (c48.trans (by show M3.1 6 = _; rw [k1.1, e1, hN]))
          refine s_iconst (v := 1) dX12_goesText_51 (by decide) ?_
          exact e_zret dX12_goesText_52 rfl (by first | rfl | exact b2i_z | decide) (by rw [gtR, if_pos c25, if_pos hE] at g7 g8 g9; exact ⟨(b2i_t g7.symm).symm, _, dg3, _, wt3, op3, Sg3, W3, _, hs.1, fun z => by rw [← g9 z]; exact ⟨(if_pos rfl).trans (by rw [List.length_append]; rfl), by rw [List.length_append, List.length_singleton]; omega, by omega, hs.2⟩, by rw [← g8, hE]⟩)
      · replace c25 := b2i_0.mp c25
        refine s_iconst (v := 0) dX12_goesText_28 (by decide) ?_
        exact e_zret dX12_goesText_29 rfl (by first | rfl | exact b2i_z | decide) (by obtain ⟨k, rfl⟩ : ∃ x, k = x + 1 := ⟨k - 1, by omega⟩; rw [gtR, if_neg c25] at g7 g8 g9; exact ⟨(b2i_f (by rw [← g7]; simp)).symm, M3, dg3, _, wt3, op3, Sg3, W3, bs, g5.m4 k1 (Nat.le_add_right _ _) k3 g3, fun z => absurd (g7.trans z) (by simp), by rw [← g8]⟩)
  refine s_locals [1, 2, 0] rfl ?_
  rw [show (100 : Int32) * nI F = nI (100 * F) from by rw [show (100 : Int32) = nI 100 from rfl, nI_mul]]
  exact LP 11 10 0 (100 * F) [] dg0 wt0 op0 Sg0 W0 M (by decide) (by decide) (by rfl) (Nat.zero_le _) (Nat.le_refl _) (Nat.le_refl _) ⟨rfl, rfl, fun _ _ => rfl, fun _ _ => rfl, fun _ _ _ _ _ => rfl, fun _ _ => rfl⟩ trivial (by rw [hR]) (by rw [hR]) (fun _ => by rw [hR]; rfl)
