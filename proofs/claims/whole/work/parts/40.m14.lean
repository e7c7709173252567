set_option maxRecDepth 100000 in
set_option maxHeartbeats 800000 in
theorem m_takesWord (d : Nat) (P D : HP) (M : MZ) (hP : P.length = 95) (a0 : Nat) (dg sn wt op : Int32) (Sg W : Nat → Int32) (N : Nat) (hN : M.1 6 = nI N) (hN1 : N ≤ 100) (ha : a0 ≤ 200) (F m : Nat) (hFm : F + m ≤ 8) : Con (d + 2) qX12_takesWord 0 0 [.ref 95, .int (nI F), .int (nI m)] (mh P (pst M (nI a0) dg sn wt op Sg W) D) (PI fun y h => y = b2i ((twR (M.2.1 6) N (M.2.1 14) m F a0).1 = true) ∧ h = mh P (pst M (nI (twR (M.2.1 6) N (M.2.1 14) m F a0).2) dg sn wt op Sg W) D) := by
  refine Con.of (by decide +kernel) (Nat.le_of_ble_eq_true rfl) ?_
  show Sem (d + 2) qX12_takesWord 0 0 0 [(0, .ref 95), (1, .int (nI F)), (2, .int (nI m))] [] (mh P (pst M (nI a0) dg sn wt op Sg W) D) _
  refine s_iconst (v := 0) dX12_takesWord_0 (by decide) ?_
  refine s_istore_n dX12_takesWord_1 (by decide) rfl ?_
  have LP : ∀ (n : Nat) (r k a : Nat), r < n → k + r = m → a + r ≤ 220 → twR (M.2.1 6) N (M.2.1 14) r (F + k) a = (twR (M.2.1 6) N (M.2.1 14) m F a0) → Sem (d + 2) qX12_takesWord 0 0 2 [(0, .ref 95), (1, .int (nI F)), (2, .int (nI m)), (3, .int (nI k))] [] (mh P (pst M (nI a) dg sn wt op Sg W) D) (PI fun y h => y = b2i ((twR (M.2.1 6) N (M.2.1 14) m F a0).1 = true) ∧ h = mh P (pst M (nI (twR (M.2.1 6) N (M.2.1 14) m F a0).2) dg sn wt op Sg W) D) := by
    intro n
    induction n with
    | zero => intro r k a hm; exact absurd hm (Nat.not_lt_zero _)
    | succ n ih =>
      intro r k a hm g1 g0 g2
      refine s_iload_n (j := 3) dX12_takesWord_2 rfl ?_
      refine s_iload_n (j := 2) dX12_takesWord_3 rfl ?_
      refine s_icmp_ge dX12_takesWord_4 (tgt := 30) (by decide) (fun c4 => ?_) (fun c4 => ?_)
      · obtain rfl : r = 0 := by have := (nI_leI (by omega) (by omega)).mp c4; omega
        refine s_aload_nr (j := 0) dX12_takesWord_30 rfl ?_
        refine s_bipush (v := 32) dX12_takesWord_31 (by decide) ?_
        refine s_V1i cv_X12_218 rfl dX12_takesWord_33 (mh_get (k := 0) hP rfl) rfl (Nat.le_of_ble_eq_true rfl) (m_takes _ P D M hP a _ _ _ _ _ _ N hN hN1 (by omega) _) (fun y33 h33 q33 => ?_)
        obtain ⟨rfl, rfl⟩ := q33
        exact e_zret dX12_takesWord_36 rfl (by first | rfl | exact b2i_z | decide) (by rw [← g2, twR, tkA]; by_cases e : sg (M.2.1 6) N a = 32; (rw [if_pos e, if_pos e, b2i_t e]; exact ⟨(b2i_t rfl).symm, rfl⟩); (rw [if_neg e, if_neg e, b2i_f e]; exact ⟨(b2i_f (by simp)).symm, rfl⟩))
      · obtain ⟨r, rfl⟩ : ∃ x, r = x + 1 := ⟨r - 1, by have h9 : ¬ m ≤ k := fun z => c4 ((nI_leI (by omega) (by omega)).mpr z); omega⟩
        have eF : pz (nI F + nI k) = F + k := by rw [nI_add]; exact nI_clamp (by omega)
        refine s_aload_nr (j := 0) dX12_takesWord_7 rfl ?_
        refine s_aload_nr (j := 0) dX12_takesWord_8 rfl ?_
        refine gP_letters dX12_takesWord_9 rfl hP ?_
        refine s_iload_n (j := 1) dX12_takesWord_12 rfl ?_
        refine s_iload_n (j := 3) dX12_takesWord_13 rfl ?_
        refine s_iadd dX12_takesWord_14 ?_
        refine lP_letters dX12_takesWord_15 hP (by rw [nI_add]; exact vp_in_nI (by omega) (by decide)) ?_
        refine s_V1i cv_X12_218 rfl dX12_takesWord_16 (mh_get (k := 0) hP rfl) rfl (Nat.le_of_ble_eq_true rfl) (m_takes _ P D M hP a _ _ _ _ _ _ N hN hN1 (by omega) _) (fun y16 h16 q16 => ?_)
        obtain ⟨rfl, rfl⟩ := q16
        refine s_if_ne dX12_takesWord_19 (tgt := 24) (by decide) (fun c19 => ?_) (fun c19 => ?_)
        · replace c19 := b2i_n0.mp c19
          refine s_iinc (j := 3) (v := _ + (1)) dX12_takesWord_24 rfl rfl (by decide) rfl ?_
          refine s_goto dX12_takesWord_27 (tgt := 2) (by decide) ?_
          refine s_locals [1, 2, 3, 0] rfl ?_
          simp only [nI_1]
          rw [show tkA (M.2.1 6) N a (M.2.1 14 (pz (nI F + nI k))) = a + 1 by rw [tkA, if_pos c19]]
          exact ih r (k + 1) (a + 1) (by omega) (by omega) (by omega) (by rw [← g2, twR, if_pos (by rw [← eF]; exact c19)]; rfl)
        · replace c19 := b2i_0.mp c19
          refine s_iconst (v := 0) dX12_takesWord_22 (by decide) ?_
          exact e_zret dX12_takesWord_23 rfl (by first | rfl | exact b2i_z | decide) (by rw [← g2, twR, if_neg (by rw [← eF]; exact c19)]; exact ⟨(b2i_f (by simp)).symm, by rw [tkA, if_neg c19]⟩)
  refine s_locals [1, 2, 3, 0] rfl ?_
  exact LP (m + 1) m 0 a0 (Nat.lt_succ_self _) (Nat.zero_add _) (by omega) rfl
