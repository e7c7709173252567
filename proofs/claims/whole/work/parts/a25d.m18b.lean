set_option maxRecDepth 100000 in
set_option maxHeartbeats 800000 in
theorem m_court2 (d : Nat) (P D : HP) (M : MZ) (hP : P.length = 95) (at0 dg0 sn0 wt0 op0 : Int32) (Sg0 W0 : Nat → Int32) (N : Nat) (hN : M.1 6 = nI N) (hN1 : N ≤ 100) (hLT : ∀ i, i < 8 → ¬ M.2.1 14 i = -1) (F : Nat) (hF : F < 7) (h4 : M.1 4 = nI F) : Con (d + 7) qX12_court 0 0 [.ref 95] (mh P (pst M at0 dg0 sn0 wt0 op0 Sg0 W0) D) (PI fun y h => (M.1 4 = 6 ∧ y = -4 ∧ h = mh P (pst M at0 dg0 sn0 wt0 op0 Sg0 W0) D) ∨ (¬ M.1 4 = 6 ∧ CTO2 (pst M at0 dg0 sn0 wt0 op0 Sg0 W0) P D F (gtR (M.2.1 6) N (M.2.1 14) 10 0) y h)) := by
  refine Con.of (by decide +kernel) (Nat.le_of_ble_eq_true rfl) ?_
  show Sem (d + 7) qX12_court 0 0 0 [(0, .ref 95)] [] (mh P (pst M at0 dg0 sn0 wt0 op0 Sg0 W0) D) _
  refine s_aload_nr (j := 0) dX12_court_0 rfl ?_
  refine gP_courts dX12_court_1 rfl hP ?_
  refine s_bipush (v := 6) dX12_court_4 (by decide) ?_
  refine s_icmp_ne dX12_court_6 (tgt := 12) (by decide) (fun c6 => ?_) (fun c6 => ?_)
  · have hF6 : ¬ nI F = 6 := by rw [← h4]; exact c6
    have hF5 : F < 6 := by have : ¬ F = 6 := fun z => c6 (by rw [h4, z]; rfl); omega
    refine s_aload_nr (j := 0) dX12_court_12 rfl ?_
    refine s_aload_nr (j := 0) dX12_court_13 rfl ?_
    refine gP_courts dX12_court_14 rfl hP ?_
    rw [h4]
    refine s_V1i cv_X12_258 rfl dX12_court_17 (mh_get (k := 0) hP rfl) rfl (Nat.le_of_ble_eq_true rfl) (m_goesText2 _ P D M hP _ _ _ _ _ _ _ N hN hN1 hLT F hF5 _ rfl) (fun y17 h17 q17 => ?_)
    obtain ⟨rfl, M2, dg2, sn2, wt2, op2, Sg2, W2, bs2, k2, k3, rfl⟩ := q17
    have e4 : M2.1 4 = nI F := (congrFun k2.1 4).trans h4
    refine s_istore_n dX12_court_20 (by decide) rfl ?_
    refine s_aload_nr (j := 1) dX12_court_21 rfl ?_
    refine s_iconst (v := 0) dX12_court_22 (by decide) ?_
    refine pP_fed dX12_court_23 rfl hP ?_
    refine s_iload_n (j := 0) dX12_court_26 rfl ?_
    refine s_if_ne dX12_court_27 (tgt := 38) (by decide) (fun c27 => ?_) (fun c27 => ?_)
    · replace c27 := b2i_n0.mp c27
      refine s_aload_nr (j := 1) dX12_court_38 rfl ?_
      refine s_aload_nr (j := 1) dX12_court_39 rfl ?_
      refine gP_courts dX12_court_40 rfl hP ?_
      refine pP_the dX12_court_43 rfl hP ?_
      refine s_aload_nr (j := 1) dX12_court_46 rfl ?_
      refine s_dup dX12_court_47 rfl ?_
      refine gP_courts dX12_court_48 rfl hP ?_
      refine s_iconst (v := 1) dX12_court_51 (by decide) ?_
      refine s_iadd dX12_court_52 ?_
      refine pP_courts dX12_court_53 rfl hP ?_
      refine s_aload_nr (j := 1) dX12_court_56 rfl ?_
      refine gP_the dX12_court_57 rfl hP ?_
      exact e_iret dX12_court_60 rfl (by exact Or.inr ⟨hF6, _, KO.of (s := upd (upd (upd M2.1 6 0) 5 (M2.1 4)) 4 (M2.1 4 + 1)) k2 (fun k hk => (if_neg (by omega)).trans ((if_neg (by omega)).trans ((if_neg (by omega)).trans (congrFun k2.1 k)))), rfl, rfl, fun z => ⟨e4, by show M2.1 4 + 1 = _; rw [e4]; exact nI_1 F, e4, (k3 z).1, (k3 z).2.1, CS.ccb (k3 z).2.2.1 (fun j h8 h11 => by simp only [pst]; rw [if_neg (by omega), if_neg (by omega)]) rfl (k3 z).2.2.2⟩, fun z => absurd c27 z⟩)
    · replace c27 := b2i_0.mp c27
      refine s_bipush (v := -10) dX12_court_30 (by decide) ?_
      refine s_aload_nr (j := 1) dX12_court_32 rfl ?_
      refine gP_at dX12_court_33 rfl hP ?_
      refine s_isub dX12_court_36 ?_
      exact e_iret dX12_court_37 rfl (by exact Or.inr ⟨hF6, _, KO.of (s := upd M2.1 6 0) k2 (fun k hk => (if_neg (by omega)).trans (congrFun k2.1 k)), rfl, rfl, fun z => absurd z c27, fun _ => ⟨rfl, congrFun k2.1 4, congrFun k2.1 5⟩⟩)
  · have c6' : M.1 4 = 6 := c6
    refine s_bipush (v := -4) dX12_court_9 (by decide) ?_
    exact e_iret dX12_court_11 rfl (by exact Or.inl ⟨c6', rfl, rfl⟩)
