set_option maxRecDepth 100000 in
set_option maxHeartbeats 800000 in
theorem m_takesClause (d : Nat) (P D : HP) (M : MZ) (hP : P.length = 95) (a0 : Nat) (dg0 wt0 op0 : Int32) (bs : Nat) (Sg0 W0 : Nat → Int32) (N : Nat) (hN : M.1 6 = nI N) (hN1 : N ≤ 100) (ha : a0 ≤ N) (hbs : bs ≤ 500 + a0) (hLT : ∀ i, i < 8 → ¬ M.2.1 14 i = -1) (c : Int32) (hc : vp_in c 60) : Con (d + 5) qX12_takesClause 0 0 [.ref 95, .int c] (mh P (pst M (nI a0) dg0 (nI bs) wt0 op0 Sg0 W0) D) (PI fun y h => CO M P D bs c Sg0 N a0 (clR (M.2.1 6) N (M.2.1 14) a0) y h) := by
  refine Con.of (by decide +kernel) (Nat.le_of_ble_eq_true rfl) ?_
  show Sem (d + 5) qX12_takesClause 0 0 0 [(0, .ref 95), (1, .int c)] [] (mh P (pst M (nI a0) dg0 (nI bs) wt0 op0 Sg0 W0) D) _
  refine s_aload_nr (j := 0) dX12_takesClause_0 rfl ?_
  refine s_iload_n (j := 1) dX12_takesClause_1 rfl ?_
  refine s_V1i cv_X12_249 rfl dX12_takesClause_2 (mh_get (k := 0) hP rfl) rfl (Nat.le_of_ble_eq_true rfl) (m_takesHead _ P D M hP a0 _ _ _ _ _ _ N hN hN1 (by omega) c hc) (fun y2 h2 q2 => ?_)
  obtain ⟨rfl, rfl⟩ := q2
  refine s_if_eq dX12_takesClause_5 (tgt := 15) (by decide) (fun c5 => ?_) (fun c5 => ?_)
  · replace c5 := b2i_0.mp c5
    refine s_iconst (v := 0) dX12_takesClause_15 (by decide) ?_
    exact e_zret dX12_takesClause_16 rfl (by first | rfl | exact b2i_z | decide) (by rw [clR, if_neg c5]; exact ⟨(b2i_f (by simp)).symm, _, _, _, _, _, _, ((M4.rf M (pz c)).put (k := 8) (by decide) _), trivial, fun _ _ => rfl, (fun z => absurd z (by simp)), rfl⟩)
  · replace c5 := b2i_n0.mp c5
    have hge := hdR_ge (M.2.1 6) N (M.2.1 14) a0
    have hle := hdR_le (T := (M.2.1 6)) ha hLT
    refine s_aload_nr (j := 0) dX12_takesClause_8 rfl ?_
    refine s_V0i cv_X12_233 rfl dX12_takesClause_9 (mh_get (k := 0) hP rfl) rfl (Nat.le_of_ble_eq_true rfl) (m_takesNumber _ P D (msa M 8 (pz c) (hdW (M.2.1 6) N a0)) hP (hdR (M.2.1 6) N (M.2.1 14) a0).2 _ _ _ _ _ _ N hN hN1 (by omega)) (fun y9 h9 q9 => ?_)
    obtain ⟨rfl, dg2, hdg, rfl⟩ := q9
    refine s_if_ne dX12_takesClause_12 (tgt := 17) (by decide) (fun c12 => ?_) (fun c12 => ?_)
    · replace c12 := b2i_n0.mp c12
      have hnb := nbK_le (show dgt (sg (M.2.1 6) N (hdR (M.2.1 6) N (M.2.1 14) a0).2) from c12)
      refine s_aload_nr (j := 0) dX12_takesClause_17 rfl ?_
      refine gP_number dX12_takesClause_18 rfl hP ?_
      refine s_iload_n (j := 1) dX12_takesClause_21 rfl ?_
      refine s_aload_nr (j := 0) dX12_takesClause_22 rfl ?_
      refine gP_digits dX12_takesClause_23 rfl hP ?_
      refine sP_number dX12_takesClause_26 hP (by exact hc) ?_
      refine s_aload_nr (j := 0) dX12_takesClause_27 rfl ?_
      refine s_bipush (v := 32) dX12_takesClause_28 (by decide) ?_
      refine s_V1i cv_X12_218 rfl dX12_takesClause_30 (mh_get (k := 0) hP rfl) rfl (Nat.le_of_ble_eq_true rfl) (m_takes _ P D (msa (msa M 8 (pz c) (hdW (M.2.1 6) N a0)) 9 (pz c) dg2) hP ((hdR (M.2.1 6) N (M.2.1 14) a0).2 + nbK (M.2.1 6) N (hdR (M.2.1 6) N (M.2.1 14) a0).2) _ _ _ _ _ _ N hN hN1 (by omega) 32) (fun y30 h30 q30 => ?_)
      obtain ⟨rfl, rfl⟩ := q30
      refine s_if_eq dX12_takesClause_33 (tgt := 48) (by decide) (fun c33 => ?_) (fun c33 => ?_)
      · replace c33 := b2i_0.mp c33
        refine s_iconst (v := 0) dX12_takesClause_48 (by decide) ?_
        exact e_zret dX12_takesClause_49 rfl (by first | rfl | exact b2i_z | decide) (by rw [clR, if_pos c5, if_pos (show dgt (sg (M.2.1 6) N (hdR (M.2.1 6) N (M.2.1 14) a0).2) from c12), if_neg (show ¬ sg (M.2.1 6) N ((hdR (M.2.1 6) N (M.2.1 14) a0).2 + nbK (M.2.1 6) N (hdR (M.2.1 6) N (M.2.1 14) a0).2) = 32 from c33)]; exact ⟨(b2i_f (by simp)).symm, _, _, _, _, _, _, (((M4.rf M (pz c)).put (k := 8) (by decide) _).put (k := 9) (by decide) _), trivial, fun _ _ => rfl, (fun z => absurd z (by simp)), by rw [tkA, if_neg c33]; rfl⟩)
      · replace c33 := b2i_n0.mp c33
        have hlt : ((hdR (M.2.1 6) N (M.2.1 14) a0).2 + nbK (M.2.1 6) N (hdR (M.2.1 6) N (M.2.1 14) a0).2) + 1 ≤ N := sg_lt (fun z => by rw [show sg (M.2.1 6) N ((hdR (M.2.1 6) N (M.2.1 14) a0).2 + nbK (M.2.1 6) N (hdR (M.2.1 6) N (M.2.1 14) a0).2) = 32 from c33] at z; exact absurd z (by decide))
        rw [show tkA ((msa (msa M 8 (pz c) (hdW (M.2.1 6) N a0)) 9 (pz c) dg2).2.1 6) N ((hdR (M.2.1 6) N (M.2.1 14) a0).2 + nbK (M.2.1 6) N (hdR (M.2.1 6) N (M.2.1 14) a0).2) 32 = ((hdR (M.2.1 6) N (M.2.1 14) a0).2 + nbK (M.2.1 6) N (hdR (M.2.1 6) N (M.2.1 14) a0).2) + 1 from if_pos c33]
        refine s_aload_nr (j := 0) dX12_takesClause_36 rfl ?_
        refine s_iload_n (j := 1) dX12_takesClause_37 rfl ?_
        refine s_V1i cv_X12_252 rfl dX12_takesClause_38 (mh_get (k := 0) hP rfl) rfl (Nat.le_of_ble_eq_true rfl) (m_takesE _ P D (msa (msa M 8 (pz c) (hdW (M.2.1 6) N a0)) 9 (pz c) dg2) hP (((hdR (M.2.1 6) N (M.2.1 14) a0).2 + nbK (M.2.1 6) N (hdR (M.2.1 6) N (M.2.1 14) a0).2) + 1) _ _ _ bs _ _ N hN hN1 hlt (by omega) c hc) (fun y38 h38 q38 => ?_)
        obtain ⟨rfl, dg, wt, op, v, Sg, W, k1, k2, k3, rfl⟩ := q38
        refine s_if_eq dX12_takesClause_41 (tgt := 48) (by decide) (fun c41 => ?_) (fun c41 => ?_)
        · replace c41 := b2i_0.mp c41
          refine s_iconst (v := 0) dX12_takesClause_48 (by decide) ?_
          exact e_zret dX12_takesClause_49 rfl (by first | rfl | exact b2i_z | decide) (by rw [clR, if_pos c5, if_pos (show dgt (sg (M.2.1 6) N (hdR (M.2.1 6) N (M.2.1 14) a0).2) from c12), if_pos (show sg (M.2.1 6) N ((hdR (M.2.1 6) N (M.2.1 14) a0).2 + nbK (M.2.1 6) N (hdR (M.2.1 6) N (M.2.1 14) a0).2) = 32 from c33)]; exact ⟨(b2i_f c41).symm, msa (msa (msa (msa M 8 (pz c) (hdW (M.2.1 6) N a0)) 9 (pz c) dg2) 10 (pz c) (nI bs)) 11 (pz c) v, dg, wt, op, Sg, W, (((((M4.rf M (pz c)).put (k := 8) (by decide) _).put (k := 9) (by decide) _)).put (k := 10) (by decide) _).put (k := 11) (by decide) _, k1, k2, fun z => ⟨(show upd (M.2.1 8) (pz c) _ (pz c) = _ from if_pos rfl), (show upd (M.2.1 9) (pz c) _ (pz c) = _ from if_pos rfl).trans (hdg c12), (show upd (M.2.1 10) (pz c) _ (pz c) = _ from if_pos rfl), (show upd (M.2.1 11) (pz c) _ (pz c) = _ from if_pos rfl).trans (k3 z)⟩, rfl⟩)
        · replace c41 := b2i_n0.mp c41
          refine s_iconst (v := 1) dX12_takesClause_44 (by decide) ?_
          refine s_goto dX12_takesClause_45 (tgt := 49) (by decide) ?_
          exact e_zret dX12_takesClause_49 rfl (by first | rfl | exact b2i_z | decide) (by rw [clR, if_pos c5, if_pos (show dgt (sg (M.2.1 6) N (hdR (M.2.1 6) N (M.2.1 14) a0).2) from c12), if_pos (show sg (M.2.1 6) N ((hdR (M.2.1 6) N (M.2.1 14) a0).2 + nbK (M.2.1 6) N (hdR (M.2.1 6) N (M.2.1 14) a0).2) = 32 from c33)]; exact ⟨(b2i_t c41).symm, msa (msa (msa (msa M 8 (pz c) (hdW (M.2.1 6) N a0)) 9 (pz c) dg2) 10 (pz c) (nI bs)) 11 (pz c) v, dg, wt, op, Sg, W, (((((M4.rf M (pz c)).put (k := 8) (by decide) _).put (k := 9) (by decide) _)).put (k := 10) (by decide) _).put (k := 11) (by decide) _, k1, k2, fun z => ⟨(show upd (M.2.1 8) (pz c) _ (pz c) = _ from if_pos rfl), (show upd (M.2.1 9) (pz c) _ (pz c) = _ from if_pos rfl).trans (hdg c12), (show upd (M.2.1 10) (pz c) _ (pz c) = _ from if_pos rfl), (show upd (M.2.1 11) (pz c) _ (pz c) = _ from if_pos rfl).trans (k3 z)⟩, rfl⟩)
    · replace c12 := b2i_0.mp c12
      refine s_iconst (v := 0) dX12_takesClause_15 (by decide) ?_
      exact e_zret dX12_takesClause_16 rfl (by first | rfl | exact b2i_z | decide) (by rw [clR, if_pos c5, if_neg (show ¬ dgt (sg (M.2.1 6) N (hdR (M.2.1 6) N (M.2.1 14) a0).2) from c12)]; exact ⟨(b2i_f (by simp)).symm, _, _, _, _, _, _, ((M4.rf M (pz c)).put (k := 8) (by decide) _), trivial, fun _ _ => rfl, (fun z => absurd z (by simp)), by rw [show nbK ((msa M 8 (pz c) (hdW (M.2.1 6) N a0)).2.1 6) N (hdR (M.2.1 6) N (M.2.1 14) a0).2 = 0 from if_neg c12]; rfl⟩)
