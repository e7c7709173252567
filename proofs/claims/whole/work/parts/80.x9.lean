theorem sdt_1 (M : MZ) (cl : CLs) (p : Int32) : sdt M cl p 1 = (0, sNow (ms1 M 3 0) cl p) := by
  rw [sdt, if_pos]
  · rfl
  · show sNow (ms1 M 3 (nI 0)) cl p < 1000001
    obtain ⟨j, hj, e⟩ := sNow_bw (ms1 M 3 (nI 0)) cl p
    rw [e, show (1000001 : Int32) = nI 1000001 from rfl]
    have : MIL = 1000000 := rfl
    exact nI_lt (by omega) (by decide)

set_option maxRecDepth 100000 in
set_option maxHeartbeats 800000 in
theorem x_risk (d : Nat) (X : XZ) (M : MZ) (D : HP) (hR : SR X D 0 M) (hK : KI M) {cl : CLs} (hC : CX X M cl) (p : Int32) : Con (d + 5) qX11_risk 0 0 [.ref 0, .int p] (xh X M D) (PI fun y h => y = sp_risk M cl p ∧ ∃ X2, h = xh X2 M D ∧ FQ X X2) := by
  refine Con.of (by decide +kernel) (Nat.le_of_ble_eq_true rfl) ?_
  show Sem (d + 5) qX11_risk 0 0 0 [(0, .ref 0), (1, .int p)] [] (xh X M D) _
  refine s_aload_nr (j := 0) dX11_risk_0 rfl ?_
  refine s_iload_n (j := 1) dX11_risk_1 rfl ?_
  refine s_V1r cv_X11_83 rfl dX11_risk_2 xg_X11 rfl (Nat.le_of_ble_eq_true rfl) (x_serverAt _ _ M D hR hK.1.1 _) (fun y2 h2 q2 => ?_)
  rcases q2 with ⟨⟨hp, n, rfl, hs⟩ | ⟨hp, rfl⟩, rfl⟩
  · skip
    refine s_astore_nr dX11_risk_5 (by decide) rfl ?_
    refine s_aload_nr (j := 0) dX11_risk_6 rfl ?_
    refine s_ifnonnullr dX11_risk_7 (tgt := 12) (by decide) ?_
    have hp4 := in4_of hK.1.1 hp
    refine s_aload_nr (j := 0) dX11_risk_12 rfl ?_
    refine s_aload_nr (j := 1) dX11_risk_13 rfl ?_
    refine gX_X11_12 dX11_risk_14 rfl ?_
    refine u1i_X11_114 hs dX11_risk_17 rfl (Nat.le_of_ble_eq_true rfl) (x_first _ X M D (w := 0) (by decide) hR hK hs hp4) (fun y17 h17 q17 => ?_)
    obtain ⟨rfl, rfl⟩ := q17
    refine s_istore_n dX11_risk_20 (by decide) rfl ?_
    refine s_aload_nr (j := 2) dX11_risk_21 rfl ?_
    refine gX_X11_12 dX11_risk_22 rfl ?_
    refine s_aload_nr (j := 1) dX11_risk_25 rfl ?_
    refine s_iload_n (j := 0) dX11_risk_26 rfl ?_
    refine s_aload_nr (j := 1) dX11_risk_27 rfl ?_
    refine s_aload_nr (j := 2) dX11_risk_28 rfl ?_
    refine gX_X11_12 dX11_risk_29 rfl ?_
    refine u1i_X11_118 hs dX11_risk_32 rfl (Nat.le_of_ble_eq_true rfl) (x_second _ X M D (w := 0) (by decide) hR hs hp4) (fun y32 h32 q32 => ?_)
    obtain ⟨rfl, rfl⟩ := q32
    refine s_V3i cv_X11_160 rfl dX11_risk_35 (xg_X4 (w := 0) (by decide)) rfl (Nat.le_of_ble_eq_true rfl) (x_faultsBy _ X M D (w := 0) (by decide) hR hK hC hs hp4 _ _) (fun y35 h35 q35 => ?_)
    obtain ⟨rfl, g, rfl⟩ := q35
    refine s_istore dX11_risk_38 (by decide) rfl ?_
    refine s_iconst (v := 0) dX11_risk_40 (by decide) ?_
    refine s_istore dX11_risk_41 (by decide) rfl ?_
    have LP : ∀ (fu : Nat) (r k : Nat) (X2 : XZ), r < fu → k + r = 10 → FQ X X2 → srU (fun k => sFa M cl p (mFirst M p) (mSecond M p) < sFa M cl p (mFirst M p) (nI k)) r k = srU (fun k => sFa M cl p (mFirst M p) (mSecond M p) < sFa M cl p (mFirst M p) (nI k)) 10 0 → Sem (d + 5) qX11_risk 0 0 43 [(0, .ref 0), (1, .int p), (2, .ref n), (3, .int (mFirst M p)), (4, .int (sFa M cl p (mFirst M p) (mSecond M p))), (5, .int (nI k))] [] (xh X2 M D) (PI fun y h => y = sp_risk M cl p ∧ ∃ X2, h = xh X2 M D ∧ FQ X X2) := by
      intro fu
      induction fu with
      | zero => intro r k X2 hm; exact absurd hm (Nat.not_lt_zero _)
      | succ fu ih =>
        intro r k X2 hm g1 hq g3
        refine s_iload (j := 5) dX11_risk_43 rfl ?_
        refine s_bipush (v := 10) dX11_risk_45 (by decide) ?_
        refine s_icmp_ge dX11_risk_47 (tgt := 75) (by decide) (fun c47 => ?_) (fun c47 => ?_)
        · obtain rfl : k = 10 := by have h9 : ¬ k < 10 := fun z => absurd (nI_lt (b := 10) z (by omega)) (Int32.not_lt.mpr c47); omega
          obtain rfl : r = 0 := by omega
          refine s_bipush (v := -5) dX11_risk_75 (by decide) ?_
          exact e_iret dX11_risk_77 rfl (by unfold sp_risk; rw [if_pos hp, ← g3]; exact ⟨rfl, _, rfl, hq⟩)
        · have hk9 : k < 10 := Nat.not_le.mp fun z => c47 (nI_le (a := 10) z (by omega))
          obtain ⟨r, rfl⟩ : ∃ x, r = x + 1 := ⟨r - 1, by omega⟩
          refine s_aload_nr (j := 0) dX11_risk_50 rfl ?_
          refine gX_X11_12 dX11_risk_51 rfl ?_
          refine s_aload_nr (j := 2) dX11_risk_54 rfl ?_
          refine s_iload_n (j := 3) dX11_risk_55 rfl ?_
          refine s_iload (j := 5) dX11_risk_56 rfl ?_
          refine s_V3i cv_X11_160 rfl dX11_risk_58 (xg_X4 (w := 0) (by decide)) rfl (Nat.le_of_ble_eq_true rfl) (x_faultsBy _ X2 M D (w := 0) (by decide) (hq.sr (by decide) hR) hK (hq.cx hC) hs hp4 _ _) (fun y58 h58 q58 => ?_)
          obtain ⟨rfl, g9, rfl⟩ := q58
          refine s_iload (j := 4) dX11_risk_61 rfl ?_
          refine s_icmp_le dX11_risk_63 (tgt := 69) (by decide) (fun c63 => ?_) (fun c63 => ?_)
          · refine s_iinc (j := 5) (v := _ + (1)) dX11_risk_69 rfl rfl (by decide) rfl ?_
            refine s_goto dX11_risk_72 (tgt := 43) (by decide) ?_
            refine s_locals [1, 2, 3, 4, 5, 0] rfl ?_
            simp only [nI_1]
            exact ih r (k + 1) _ (by omega) (by omega) (hq.lt0 _) (by rw [← g3, srU, if_neg (Int32.not_lt.mpr c63)])
          · refine s_iload (j := 5) dX11_risk_66 rfl ?_
            exact e_iret dX11_risk_68 rfl (by unfold sp_risk; rw [if_pos hp, ← g3, srU, if_pos (Int32.not_le.mp c63)]; exact ⟨rfl, _, rfl, hq.lt0 _⟩)
    refine s_locals [4, 5, 3, 2, 1, 0] rfl ?_
    exact LP 11 10 0 _ (by decide) (by rfl) ((FQ.rf X).lt0 _) rfl
  · skip
    refine s_astore_n0 dX11_risk_5 (by decide) rfl ?_
    refine s_aload_n0 (j := 0) dX11_risk_6 rfl ?_
    refine s_ifnonnull0 dX11_risk_7 ?_
    refine s_iconst (v := -1) dX11_risk_10 (by decide) ?_
    exact e_iret dX11_risk_11 rfl (by unfold sp_risk; rw [if_neg hp]; exact ⟨rfl, _, rfl, FQ.rf _⟩)

set_option maxRecDepth 100000 in
set_option maxHeartbeats 800000 in
theorem x_safe (d : Nat) (X : XZ) (M : MZ) (D : HP) (hR : SR X D 0 M) (hK : KI M) {cl : CLs} (hC : CX X M cl) (p q : Int32) : Con (d + 4) qX11_safe 0 0 [.ref 0, .int p, .int q] (xh X M D) (PI fun y h => y = sp_safe M cl p q ∧ ∃ X2, h = xh X2 M D ∧ FQ X X2) := by
  refine Con.of (by decide +kernel) (Nat.le_of_ble_eq_true rfl) ?_
  show Sem (d + 4) qX11_safe 0 0 0 [(0, .ref 0), (1, .int p), (2, .int q)] [] (xh X M D) _
  refine s_aload_nr (j := 0) dX11_safe_0 rfl ?_
  refine s_iload_n (j := 1) dX11_safe_1 rfl ?_
  refine s_V1r cv_X11_83 rfl dX11_safe_2 xg_X11 rfl (Nat.le_of_ble_eq_true rfl) (x_serverAt _ _ M D hR hK.1.1 _) (fun y2 h2 q2 => ?_)
  rcases q2 with ⟨⟨hp, n, rfl, hs⟩ | ⟨hp, rfl⟩, rfl⟩
  · skip
    refine s_astore_nr dX11_safe_5 (by decide) rfl ?_
    refine s_aload_nr (j := 0) dX11_safe_6 rfl ?_
    refine s_ifnonnullr dX11_safe_7 (tgt := 12) (by decide) ?_
    have hp4 := in4_of hK.1.1 hp
    refine s_iload_n (j := 3) dX11_safe_12 rfl ?_
    refine s_bipush (v := 101) dX11_safe_13 (by decide) ?_
    refine s_S2i cs_X11_67 rfl dX11_safe_15 (Nat.le_of_ble_eq_true rfl) (x_wC _ _ _ _ (100) (by decide)) (fun y15 h15 q15 => ?_)
    obtain ⟨rfl, rfl⟩ := q15
    refine s_if_ne dX11_safe_18 (tgt := 24) (by decide) (fun c18 => ?_) (fun c18 => ?_)
    · replace c18 := b2i_n0.mp c18
      refine s_bipush (v := 9) dX11_safe_24 (by decide) ?_
      refine s_istore dX11_safe_26 (by decide) rfl ?_
      have LP : ∀ (fu : Nat) (k : Nat) (X2 : XZ), k < fu → k ≤ 10 → FQ X X2 → srD (fun k => ¬ sIn M cl p (nI k) < q) k = srD (fun k => ¬ sIn M cl p (nI k) < q) 10 → Sem (d + 4) qX11_safe 0 0 28 [(0, .ref 0), (1, .int p), (2, .int q), (3, .ref n), (4, .int (nI k - 1))] [] (xh X2 M D) (PI fun y h => y = sp_safe M cl p q ∧ ∃ X2, h = xh X2 M D ∧ FQ X X2) := by
        intro fu
        induction fu with
        | zero => intro k X2 hm; exact absurd hm (Nat.not_lt_zero _)
        | succ fu ih =>
          intro k X2 hm g1 hq g3
          refine s_iload (j := 4) dX11_safe_28 rfl ?_
          refine s_if_lt dX11_safe_30 (tgt := 56) (by decide) (fun c30 => ?_) (fun c30 => ?_)
          · obtain rfl : k = 0 := by
              cases k with
              | zero => rfl
              | succ k => rw [nI_pred] at c30; exact absurd c30 (nI_pos (by omega))
            refine s_bipush (v := -5) dX11_safe_56 (by decide) ?_
            exact e_iret dX11_safe_58 rfl (by unfold sp_safe; rw [if_pos hp, if_pos c18, ← g3]; exact ⟨rfl, _, rfl, hq⟩)
          · obtain ⟨k, rfl⟩ : ∃ x, k = x + 1 := by
              cases k with
              | zero => exact absurd (by decide) c30
              | succ k => exact ⟨k, rfl⟩
            simp only [nI_pred]
            refine s_aload_nr (j := 0) dX11_safe_33 rfl ?_
            refine gX_X11_12 dX11_safe_34 rfl ?_
            refine s_aload_nr (j := 3) dX11_safe_37 rfl ?_
            refine s_iload (j := 4) dX11_safe_38 rfl ?_
            refine s_V2i cv_X11_87 rfl dX11_safe_40 (xg_X4 (w := 0) (by decide)) rfl (Nat.le_of_ble_eq_true rfl) (x_inOf _ X2 M D (w := 0) (by decide) (hq.sr (by decide) hR) hK (hq.cx hC) hs hp4 _) (fun y40 h40 q40 => ?_)
            obtain ⟨rfl, g9, rfl⟩ := q40
            refine s_iload_n (j := 2) dX11_safe_43 rfl ?_
            refine s_icmp_lt dX11_safe_44 (tgt := 50) (by decide) (fun c44 => ?_) (fun c44 => ?_)
            · refine s_iinc (j := 4) (v := _ + (-1)) dX11_safe_50 rfl rfl (by decide) rfl ?_
              refine s_goto dX11_safe_53 (tgt := 28) (by decide) ?_
              refine s_locals [1, 2, 3, 4, 0] rfl ?_
              rw [← Int32.sub_eq_add_neg]
              exact ih k _ (by omega) (by omega) (hq.lt0 _) (by rw [← g3, srD, if_neg (not_not_intro c44)])
            · refine s_iload (j := 4) dX11_safe_47 rfl ?_
              exact e_iret dX11_safe_49 rfl (by unfold sp_safe; rw [if_pos hp, if_pos c18, ← g3, srD, if_pos (Int32.not_lt.mpr (by first | exact Int32.not_lt.mp c44 | exact c44))]; exact ⟨rfl, _, rfl, hq.lt0 _⟩)
      refine s_locals [2, 3, 4, 1, 0] rfl ?_
      exact LP 11 10 X (by decide) (by decide) (FQ.rf X) rfl
    · replace c18 := b2i_0.mp c18
      refine s_bipush (v := -2) dX11_safe_21 (by decide) ?_
      exact e_iret dX11_safe_23 rfl (by unfold sp_safe; rw [if_pos hp, if_neg c18]; exact ⟨rfl, _, rfl, FQ.rf _⟩)
  · skip
    refine s_astore_n0 dX11_safe_5 (by decide) rfl ?_
    refine s_aload_n0 (j := 0) dX11_safe_6 rfl ?_
    refine s_ifnonnull0 dX11_safe_7 ?_
    refine s_iconst (v := -1) dX11_safe_10 (by decide) ?_
    exact e_iret dX11_safe_11 rfl (by unfold sp_safe; rw [if_neg hp]; exact ⟨rfl, _, rfl, FQ.rf _⟩)

set_option maxRecDepth 100000 in
set_option maxHeartbeats 800000 in
theorem x_against (d : Nat) (X : XZ) (M : MZ) (D : HP) (hR : SR X D 0 M) (hK : KI M) {cl : CLs} (hC : CX X M cl) {n : Nat} {p : Int32} (hs : SV D n (M.2.1 0 (pz p)) p (M.2.1 1 (pz p))) (hp : vp_in p 4) (a : Int32) : Con (d + 6) qX11_chanceAgainst 0 0 [.ref 0, .ref n, .int a] (xh X M D) (PI fun y h => y = sNow (ms1 M 3 a) cl p ∧ ∃ X2, h = xh X2 M D ∧ FQ X X2) := by
  refine Con.of (by decide +kernel) (Nat.le_of_ble_eq_true rfl) ?_
  show Sem (d + 6) qX11_chanceAgainst 0 0 0 [(0, .ref 0), (1, .ref n), (2, .int a)] [] (xh X M D) _
  refine s_aload_nr (j := 0) dX11_chanceAgainst_0 rfl ?_
  refine gX_X11_21 dX11_chanceAgainst_1 rfl ?_
  refine s_aload_nr (j := 0) dX11_chanceAgainst_4 rfl ?_
  refine gX_X11_12 dX11_chanceAgainst_5 rfl ?_
  refine s_V1v cv_X11_179 rfl dX11_chanceAgainst_8 (xg_X4 (w := 2) (by decide)) rfl (Nat.le_of_ble_eq_true rfl) (x_takeFrom _ X M D (w := 2) (u := 0) (by decide) (by decide) (by decide) hR) (fun h8 q8 => ?_)
  obtain ⟨X2, rfl, hf, hR2⟩ := q8
  refine s_aload_nr (j := 0) dX11_chanceAgainst_11 rfl ?_
  refine gX_X11_21 dX11_chanceAgainst_12 rfl ?_
  refine s_iload_n (j := 2) dX11_chanceAgainst_15 rfl ?_
  refine pX_X11_154 (w := 2) (by decide) dX11_chanceAgainst_16 rfl ?_
  refine s_aload_nr (j := 0) dX11_chanceAgainst_19 rfl ?_
  refine gX_X11_21 dX11_chanceAgainst_20 rfl ?_
  refine s_aload_nr (j := 1) dX11_chanceAgainst_23 rfl ?_
  refine s_V1i cv_X11_175 rfl dX11_chanceAgainst_24 (xg_X4 (w := 2) (by decide)) rfl (Nat.le_of_ble_eq_true rfl) (x_chanceOf _ (x1 X2 (8 * 2 + 5) a) M D (w := 2) (K := ms1 M 3 a) (cl := cl) (by decide) (hR2.p1 (Or.inr (Or.inr (Or.inl ⟨rfl, rfl⟩)))) hK ((hf.p1 (by decide)).cx (by decide) (hC.kk rfl)) hs hp) (fun y24 h24 q24 => ?_)
  obtain ⟨rfl, g, rfl⟩ := q24
  exact e_iret dX11_chanceAgainst_27 rfl (by exact ⟨rfl, _, rfl, (FQ.rf X).fx ((hf.p1 (by decide)).tr (FX.lt _ 2 g))⟩)

set_option maxRecDepth 100000 in
set_option maxHeartbeats 800000 in
theorem x_stand (d : Nat) (X : XZ) (M : MZ) (D : HP) (hR : SR X D 0 M) (hK : KI M) {cl : CLs} (hC : CX X M cl) (p w : Int32) : Con (d + 7) qX11_stand 0 0 [.ref 0, .int p, .int w] (xh X M D) (PI fun y h => y = sp_stand M cl p w ∧ ∃ X2, h = xh X2 M D ∧ FQ X X2) := by
  refine Con.of (by decide +kernel) (Nat.le_of_ble_eq_true rfl) ?_
  show Sem (d + 7) qX11_stand 0 0 0 [(0, .ref 0), (1, .int p), (2, .int w)] [] (xh X M D) _
  refine s_aload_nr (j := 0) dX11_stand_0 rfl ?_
  refine s_iload_n (j := 1) dX11_stand_1 rfl ?_
  refine s_V1r cv_X11_83 rfl dX11_stand_2 xg_X11 rfl (Nat.le_of_ble_eq_true rfl) (x_serverAt _ _ M D hR hK.1.1 _) (fun y2 h2 q2 => ?_)
  rcases q2 with ⟨⟨hp, n, rfl, hs⟩ | ⟨hp, rfl⟩, rfl⟩
  · skip
    refine s_astore_nr dX11_stand_5 (by decide) rfl ?_
    refine s_aload_nr (j := 0) dX11_stand_6 rfl ?_
    refine s_ifnullr dX11_stand_7 ?_
    refine s_iload_n (j := 3) dX11_stand_10 rfl ?_
    refine s_iconst (v := 2) dX11_stand_11 (by decide) ?_
    refine s_S2i cs_X11_67 rfl dX11_stand_12 (Nat.le_of_ble_eq_true rfl) (x_wC _ _ _ _ (1) (by decide)) (fun y12 h12 q12 => ?_)
    obtain ⟨rfl, rfl⟩ := q12
    refine s_if_ne dX11_stand_15 (tgt := 20) (by decide) (fun c15 => ?_) (fun c15 => ?_)
    · replace c15 := b2i_n0.mp c15
      have hp4 := in4_of hK.1.1 hp
      refine s_aload_nr (j := 1) dX11_stand_20 rfl ?_
      refine s_aload_nr (j := 0) dX11_stand_21 rfl ?_
      refine s_iconst (v := 0) dX11_stand_22 (by decide) ?_
      refine s_V2i cv_X11_189 rfl dX11_stand_23 xg_X11 rfl (Nat.le_of_ble_eq_true rfl) (x_against _ X M D hR hK hC hs hp4 _) (fun y23 h23 q23 => ?_)
      obtain ⟨rfl, X0, rfl, hq0⟩ := q23
      refine s_istore dX11_stand_26 (by decide) rfl ?_
      refine s_iconst (v := 0) dX11_stand_28 (by decide) ?_
      refine s_istore dX11_stand_29 (by decide) rfl ?_
      refine s_iconst (v := 1) dX11_stand_31 (by decide) ?_
      refine s_istore dX11_stand_32 (by decide) rfl ?_
      have LP : ∀ (fu : Nat) (r k : Nat) (X2 : XZ), r < fu → k + r = 3 → FQ X X2 → Sem (d + 7) qX11_stand 0 0 34 [(0, .ref 0), (1, .int p), (2, .int w), (3, .ref n), (4, .int (sdt M cl p k).2), (5, .int (sdt M cl p k).1), (6, .int (nI k))] [] (xh X2 M D) (PI fun y h => y = sp_stand M cl p w ∧ ∃ X2, h = xh X2 M D ∧ FQ X X2) := by
        intro fu
        induction fu with
        | zero => intro r k X2 hm; exact absurd hm (Nat.not_lt_zero _)
        | succ fu ih =>
          intro r k X2 hm g1 hq
          refine s_iload (j := 6) dX11_stand_34 rfl ?_
          refine s_iconst (v := 3) dX11_stand_36 (by decide) ?_
          refine s_icmp_ge dX11_stand_37 (tgt := 70) (by decide) (fun c37 => ?_) (fun c37 => ?_)
          · obtain rfl : k = 3 := by have h9 : ¬ k < 3 := fun z => absurd (nI_lt (b := 3) z (by omega)) (Int32.not_lt.mpr c37); omega
            obtain rfl : r = 0 := by omega
            refine s_iload_n (j := 2) dX11_stand_70 rfl ?_
            refine s_if_ne dX11_stand_71 (tgt := 79) (by decide) (fun c71 => ?_) (fun c71 => ?_)
            · refine s_iload (j := 4) dX11_stand_79 rfl ?_
              exact e_iret dX11_stand_81 rfl (by unfold sp_stand; rw [if_pos hp, if_pos c15, if_neg c71]; exact ⟨rfl, _, rfl, hq⟩)
            · refine s_iload (j := 5) dX11_stand_74 rfl ?_
              refine s_goto dX11_stand_76 (tgt := 81) (by decide) ?_
              exact e_iret dX11_stand_81 rfl (by unfold sp_stand; rw [if_pos hp, if_pos c15, if_pos c71]; exact ⟨rfl, _, rfl, hq⟩)
          · have hk9 : k < 3 := Nat.not_le.mp fun z => c37 (nI_le (a := 3) z (by omega))
            obtain ⟨r, rfl⟩ : ∃ x, r = x + 1 := ⟨r - 1, by omega⟩
            refine s_aload_nr (j := 0) dX11_stand_40 rfl ?_
            refine s_aload_nr (j := 3) dX11_stand_41 rfl ?_
            refine s_iload (j := 6) dX11_stand_42 rfl ?_
            refine s_V2i cv_X11_189 rfl dX11_stand_44 xg_X11 rfl (Nat.le_of_ble_eq_true rfl) (x_against _ X2 M D (hq.sr (by decide) hR) hK (hq.cx hC) hs hp4 _) (fun y44 h44 q44 => ?_)
            obtain ⟨rfl, X3, rfl, hq3⟩ := q44
            refine s_istore dX11_stand_47 (by decide) rfl ?_
            refine s_iload (j := 0) dX11_stand_49 rfl ?_
            refine s_iload (j := 5) dX11_stand_51 rfl ?_
            refine s_icmp_ge dX11_stand_53 (tgt := 64) (by decide) (fun c53 => ?_) (fun c53 => ?_)
            · refine s_iinc (j := 7) (v := _ + (1)) dX11_stand_64 rfl rfl (by decide) rfl ?_
              refine s_goto dX11_stand_67 (tgt := 34) (by decide) ?_
              refine s_locals [2, 3, 4, 5, 6, 7, 0] rfl ?_
              simp only [nI_1]
              have e8 := ih r (k + 1) _ (by omega) (by omega) (hq.tr hq3)
              rw [sdt, if_neg (Int32.not_lt.mpr c53)] at e8
              exact e8
            · refine s_iload (j := 0) dX11_stand_56 rfl ?_
              refine s_istore dX11_stand_58 (by decide) rfl ?_
              refine s_iload (j := 7) dX11_stand_60 rfl ?_
              refine s_istore dX11_stand_62 (by decide) rfl ?_
              refine s_iinc (j := 7) (v := _ + (1)) dX11_stand_64 rfl rfl (by decide) rfl ?_
              refine s_goto dX11_stand_67 (tgt := 34) (by decide) ?_
              refine s_locals [4, 5, 6, 7, 2, 1, 0] rfl ?_
              simp only [nI_1]
              have e8 := ih r (k + 1) _ (by omega) (by omega) (hq.tr hq3)
              rw [sdt, if_pos (Int32.not_le.mp c53)] at e8
              exact e8
      refine s_locals [4, 5, 6, 3, 2, 1, 0] rfl ?_
      have e8 := LP 3 2 1 _ (by decide) (by rfl) hq0
      rw [show sdt M cl p 1 = (0, sNow (ms1 M 3 0) cl p) from sdt_1 M cl p] at e8
      exact e8
    · replace c15 := b2i_0.mp c15
      refine s_iconst (v := -1) dX11_stand_18 (by decide) ?_
      exact e_iret dX11_stand_19 rfl (by unfold sp_stand; (first | rw [if_pos hp] | rw [if_neg hp] | skip); (first | rw [if_pos c15] | rw [if_neg c15] | skip); exact ⟨rfl, _, rfl, FQ.rf _⟩)
  · skip
    refine s_astore_n0 dX11_stand_5 (by decide) rfl ?_
    refine s_aload_n0 (j := 0) dX11_stand_6 rfl ?_
    refine s_ifnull0 dX11_stand_7 (tgt := 18) (by decide) ?_
    refine s_iconst (v := -1) dX11_stand_18 (by decide) ?_
    exact e_iret dX11_stand_19 rfl (by unfold sp_stand; (first | rw [if_pos hp] | rw [if_neg hp] | skip); exact ⟨rfl, _, rfl, FQ.rf _⟩)

set_option maxRecDepth 100000 in
set_option maxHeartbeats 800000 in
theorem x_bestOf (d : Nat) (X : XZ) (M : MZ) (D : HP) (hR : SR X D 0 M) (hK : KI M) {cl : CLs} (hC : CX X M cl) {n : Nat} {p : Int32} (hs : SV D n (M.2.1 0 (pz p)) p (M.2.1 1 (pz p))) (hp : vp_in p 4) (w : Int32) : Con (d + 4) qX11_bestOf 0 0 [.ref 0, .ref n, .int w] (xh X M D) (PI fun y h => y = (if w = 0 then (bst M cl p 100).1 else (bst M cl p 100).2) ∧ ∃ X2, h = xh X2 M D ∧ FQ X X2) := by
  refine Con.of (by decide +kernel) (Nat.le_of_ble_eq_true rfl) ?_
  show Sem (d + 4) qX11_bestOf 0 0 0 [(0, .ref 0), (1, .ref n), (2, .int w)] [] (xh X M D) _
  refine s_iconst (v := 0) dX11_bestOf_0 (by decide) ?_
  refine s_istore_n dX11_bestOf_1 (by decide) rfl ?_
  have LP : ∀ (fu : Nat) (r k : Nat) (X2 : XZ), r < fu → k + r = 10 → FQ X X2 → BI X2 M cl p k → Sem (d + 4) qX11_bestOf 0 0 2 [(0, .ref 0), (1, .ref n), (2, .int w), (3, .int (nI k))] [] (xh X2 M D) (PI fun y h => y = (if w = 0 then (bst M cl p 100).1 else (bst M cl p 100).2) ∧ ∃ X2, h = xh X2 M D ∧ FQ X X2) := by
    intro fu
    induction fu with
    | zero => intro r k X2 hm; exact absurd hm (Nat.not_lt_zero _)
    | succ fu ih =>
      intro r k X2 hm g1 hq hb
      refine s_iload_n (j := 3) dX11_bestOf_2 rfl ?_
      refine s_bipush (v := 10) dX11_bestOf_3 (by decide) ?_
      refine s_icmp_ge dX11_bestOf_5 (tgt := 44) (by decide) (fun c5 => ?_) (fun c5 => ?_)
      · obtain rfl : k = 10 := by have h9 : ¬ k < 10 := fun z => absurd (nI_lt (b := 10) z (by omega)) (Int32.not_lt.mpr c5); omega
        obtain rfl : r = 0 := by omega
        clear ih
        refine s_iconst (v := -1) dX11_bestOf_44 (by decide) ?_
        refine s_istore_n dX11_bestOf_45 (by decide) rfl ?_
        refine s_iconst (v := 0) dX11_bestOf_46 (by decide) ?_
        refine s_istore dX11_bestOf_47 (by decide) rfl ?_
        refine s_iconst (v := 0) dX11_bestOf_49 (by decide) ?_
        refine s_istore dX11_bestOf_50 (by decide) rfl ?_
        have LQ : ∀ (fu : Nat) (r k : Nat), r < fu → k + r = 10 → Sem (d + 4) qX11_bestOf 0 0 52 [(0, .ref 0), (1, .ref n), (2, .int w), (3, .int (bst M cl p (10 * k)).2), (4, .int (bst M cl p (10 * k)).1), (5, .int (nI k))] [] (xh X2 M D) (PI fun y h => y = (if w = 0 then (bst M cl p 100).1 else (bst M cl p 100).2) ∧ ∃ X2, h = xh X2 M D ∧ FQ X X2) := by
          intro fu
          induction fu with
          | zero => intro r k hm; exact absurd hm (Nat.not_lt_zero _)
          | succ fu ih1 =>
            intro r k hm1 g1
            refine s_iload (j := 5) dX11_bestOf_52 rfl ?_
            refine s_bipush (v := 10) dX11_bestOf_54 (by decide) ?_
            refine s_icmp_ge dX11_bestOf_56 (tgt := 132) (by decide) (fun c56 => ?_) (fun c56 => ?_)
            · obtain rfl : k = 10 := by have h9 : ¬ k < 10 := fun z => absurd (nI_lt (b := 10) z (by omega)) (Int32.not_lt.mpr c56); omega
              obtain rfl : r = 0 := by omega
              refine s_iload_n (j := 2) dX11_bestOf_132 rfl ?_
              refine s_if_ne dX11_bestOf_133 (tgt := 141) (by decide) (fun c133 => ?_) (fun c133 => ?_)
              · refine s_iload_n (j := 3) dX11_bestOf_141 rfl ?_
                exact e_iret dX11_bestOf_142 rfl (by rw [if_neg c133]; exact ⟨rfl, _, rfl, hq⟩)
              · refine s_iload (j := 4) dX11_bestOf_136 rfl ?_
                refine s_goto dX11_bestOf_138 (tgt := 142) (by decide) ?_
                exact e_iret dX11_bestOf_142 rfl (by rw [if_pos c133]; exact ⟨rfl, _, rfl, hq⟩)
            · have hk9 : k < 10 := Nat.not_le.mp fun z => c56 (nI_le (a := 10) z (by omega))
              obtain ⟨r, rfl⟩ : ∃ x, r = x + 1 := ⟨r - 1, by omega⟩
              refine s_iconst (v := 0) dX11_bestOf_59 (by decide) ?_
              refine s_istore dX11_bestOf_60 (by decide) rfl ?_
              have LR : ∀ (fu : Nat) (r2 j : Nat), r2 < fu → j + r2 = 10 → Sem (d + 4) qX11_bestOf 0 0 62 [(0, .ref 0), (1, .ref n), (2, .int w), (3, .int (bst M cl p (10 * k + j)).2), (4, .int (bst M cl p (10 * k + j)).1), (5, .int (nI k)), (6, .int (nI j))] [] (xh X2 M D) (PI fun y h => y = (if w = 0 then (bst M cl p 100).1 else (bst M cl p 100).2) ∧ ∃ X2, h = xh X2 M D ∧ FQ X X2) := by
                intro fu
                induction fu with
                | zero => intro r2 j hm; exact absurd hm (Nat.not_lt_zero _)
                | succ fu ih2 =>
                  intro r2 j hm2 g2
                  refine s_iload (j := 6) dX11_bestOf_62 rfl ?_
                  refine s_bipush (v := 10) dX11_bestOf_64 (by decide) ?_
                  refine s_icmp_ge dX11_bestOf_66 (tgt := 126) (by decide) (fun c66 => ?_) (fun c66 => ?_)
                  · obtain rfl : j = 10 := by have h9 : ¬ j < 10 := fun z => absurd (nI_lt (b := 10) z (by omega)) (Int32.not_lt.mpr c66); omega
                    refine s_iinc (j := 5) (v := _ + (1)) dX11_bestOf_126 rfl rfl (by decide) rfl ?_
                    refine s_goto dX11_bestOf_129 (tgt := 52) (by decide) ?_
                    refine s_locals [1, 2, 3, 4, 5, 0] rfl ?_
                    simp only [nI_1]
                    have e8 := ih1 r (k + 1) (by omega) (by omega)
                    rw [show 10 * (k + 1) = 10 * k + 10 from by omega] at e8
                    exact e8
                  · have hj9 : j < 10 := Nat.not_le.mp fun z => c66 (nI_le (a := 10) z (by omega))
                    obtain ⟨r2, rfl⟩ : ∃ x, r2 = x + 1 := ⟨r2 - 1, by omega⟩
                    refine s_aload_nr (j := 0) dX11_bestOf_69 rfl ?_
                    refine gX_X11_50 dX11_bestOf_70 rfl ?_
                    refine s_iload (j := 5) dX11_bestOf_73 rfl ?_
                    refine lX_X11_ins dX11_bestOf_75 (by exact vp_in_nI (by omega) (by decide)) ?_
                    rw [pz5 k (by omega), (hb k hk9).1]
                    refine s_aload_nr (j := 0) dX11_bestOf_76 rfl ?_
                    refine gX_X11_54 dX11_bestOf_77 rfl ?_
                    refine s_iload (j := 5) dX11_bestOf_80 rfl ?_
                    refine lX_X11_wins dX11_bestOf_82 (by exact vp_in_nI (by omega) (by decide)) ?_
                    rw [pz5 k (by omega), (hb k hk9).2]
                    refine s_aload_nr (j := 0) dX11_bestOf_83 rfl ?_
                    refine gX_X11_50 dX11_bestOf_84 rfl ?_
                    refine s_iload (j := 6) dX11_bestOf_87 rfl ?_
                    refine lX_X11_ins dX11_bestOf_89 (by exact vp_in_nI (by omega) (by decide)) ?_
                    rw [pz5 j (by omega), (hb j hj9).1]
                    refine s_aload_nr (j := 0) dX11_bestOf_90 rfl ?_
                    refine gX_X11_54 dX11_bestOf_91 rfl ?_
                    refine s_iload (j := 6) dX11_bestOf_94 rfl ?_
                    refine lX_X11_wins dX11_bestOf_96 (by exact vp_in_nI (by omega) (by decide)) ?_
                    rw [pz5 j (by omega), (hb j hj9).2]
                    refine s_S4i cs_X11_320 rfl dX11_bestOf_97 (Nat.le_of_ble_eq_true rfl) (x_two _ _ _ _ _ _) (fun y97 h97 q97 => ?_)
                    obtain ⟨rfl, rfl⟩ := q97
                    refine s_topi (fun z ez => ?_)
                    obtain rfl : z = sCh M cl p (nI k) (nI j) := ez
                    refine s_istore dX11_bestOf_100 (by decide) rfl ?_
                    refine s_iload (j := 0) dX11_bestOf_102 rfl ?_
                    refine s_iload_n (j := 4) dX11_bestOf_104 rfl ?_
                    refine s_icmp_le dX11_bestOf_105 (tgt := 120) (by decide) (fun c105 => ?_) (fun c105 => ?_)
                    · refine s_iinc (j := 7) (v := _ + (1)) dX11_bestOf_120 rfl rfl (by decide) rfl ?_
                      refine s_goto dX11_bestOf_123 (tgt := 62) (by decide) ?_
                      refine s_locals [2, 3, 4, 5, 6, 7, 0] rfl ?_
                      simp only [nI_1]
                      have e8 := ih2 r2 (j + 1) (by omega) (by omega)
                      rw [show 10 * k + (j + 1) = 10 * k + j + 1 from rfl, bst_s M cl p hk9 hj9, if_neg (Int32.not_lt.mpr c105)] at e8
                      exact e8
                    · refine s_iload (j := 0) dX11_bestOf_108 rfl ?_
                      refine s_istore_n dX11_bestOf_110 (by decide) rfl ?_
                      refine s_iload (j := 6) dX11_bestOf_111 rfl ?_
                      refine s_iload (j := 7) dX11_bestOf_113 rfl ?_
                      refine s_S2i cs_X11_207 rfl dX11_bestOf_115 (Nat.le_of_ble_eq_true rfl) (x_pair _ _ _ _) (fun y115 h115 q115 => ?_)
                      obtain ⟨rfl, rfl⟩ := q115
                      refine s_istore dX11_bestOf_118 (by decide) rfl ?_
                      refine s_iinc (j := 7) (v := _ + (1)) dX11_bestOf_120 rfl rfl (by decide) rfl ?_
                      refine s_goto dX11_bestOf_123 (tgt := 62) (by decide) ?_
                      refine s_locals [4, 5, 6, 2, 1, 7, 0] rfl ?_
                      simp only [nI_1]
                      have e8 := ih2 r2 (j + 1) (by omega) (by omega)
                      rw [show 10 * k + (j + 1) = 10 * k + j + 1 from rfl, bst_s M cl p hk9 hj9, if_pos (Int32.not_le.mp c105)] at e8
                      exact e8
              refine s_locals [1, 2, 3, 4, 5, 6, 0] rfl ?_
              exact LR 11 10 0 (by decide) (by rfl)
        refine s_locals [3, 4, 5, 2, 1, 0] rfl ?_
        exact LQ 11 10 0 (by decide) (by rfl)
      · have hk9 : k < 10 := Nat.not_le.mp fun z => c5 (nI_le (a := 10) z (by omega))
        obtain ⟨r, rfl⟩ : ∃ x, r = x + 1 := ⟨r - 1, by omega⟩
        refine s_aload_nr (j := 0) dX11_bestOf_8 rfl ?_
        refine gX_X11_50 dX11_bestOf_9 rfl ?_
        refine s_iload_n (j := 3) dX11_bestOf_12 rfl ?_
        refine s_aload_nr (j := 0) dX11_bestOf_13 rfl ?_
        refine gX_X11_12 dX11_bestOf_14 rfl ?_
        refine s_aload_nr (j := 1) dX11_bestOf_17 rfl ?_
        refine s_iload_n (j := 3) dX11_bestOf_18 rfl ?_
        refine s_V2i cv_X11_87 rfl dX11_bestOf_19 (xg_X4 (w := 0) (by decide)) rfl (Nat.le_of_ble_eq_true rfl) (x_inOf _ X2 M D (w := 0) (by decide) (hq.sr (by decide) hR) hK (hq.cx hC) hs hp _) (fun y19 h19 q19 => ?_)
        obtain ⟨rfl, g1a, rfl⟩ := q19
        refine sX_X11_ins dX11_bestOf_22 (by exact vp_in_nI (by omega) (by decide)) ?_
        rw [pz5 k (by omega)]
        refine s_aload_nr (j := 0) dX11_bestOf_23 rfl ?_
        refine gX_X11_54 dX11_bestOf_24 rfl ?_
        refine s_iload_n (j := 3) dX11_bestOf_27 rfl ?_
        refine s_aload_nr (j := 0) dX11_bestOf_28 rfl ?_
        refine gX_X11_12 dX11_bestOf_29 rfl ?_
        refine s_aload_nr (j := 1) dX11_bestOf_32 rfl ?_
        refine s_iload_n (j := 3) dX11_bestOf_33 rfl ?_
        refine s_V2i cv_X11_91 rfl dX11_bestOf_34 (xg_X4 (w := 0) (by decide)) rfl (Nat.le_of_ble_eq_true rfl) (x_winsOf _ (xa (xlt X2 0 g1a) 28 k (sIn M cl p (nI k))) M D (w := 0) (by decide) (((hq.lt0 g1a).pa (by decide)).sr (by decide) hR) hK (((hq.lt0 g1a).pa (by decide)).cx hC) hs hp _) (fun y34 h34 q34 => ?_)
        obtain ⟨rfl, g2a, rfl⟩ := q34
        refine sX_X11_wins dX11_bestOf_37 (by exact vp_in_nI (by omega) (by decide)) ?_
        refine s_iinc (j := 3) (v := _ + (1)) dX11_bestOf_38 rfl rfl (by decide) rfl ?_
        refine s_goto dX11_bestOf_41 (tgt := 2) (by decide) ?_
        refine s_locals [1, 2, 3, 0] rfl ?_
        rw [pz5 k (by omega)]
        simp only [nI_1]
        exact ih r (k + 1) _ (by omega) (by omega) ((((hq.lt0 g1a).pa (by decide)).lt0 g2a).pa (by decide)) (hb.step rfl rfl)
  refine s_locals [1, 2, 3, 0] rfl ?_
  exact LP 11 10 0 X (by decide) (by rfl) (FQ.rf X) (fun i hi => absurd hi (Nat.not_lt_zero _))

set_option maxRecDepth 100000 in
set_option maxHeartbeats 800000 in
theorem x_best (d : Nat) (X : XZ) (M : MZ) (D : HP) (hR : SR X D 0 M) (hK : KI M) {cl : CLs} (hC : CX X M cl) (p w : Int32) : Con (d + 5) qX11_best 0 0 [.ref 0, .int p, .int w] (xh X M D) (PI fun y h => y = sp_best M cl p w ∧ ∃ X2, h = xh X2 M D ∧ FQ X X2) := by
  refine Con.of (by decide +kernel) (Nat.le_of_ble_eq_true rfl) ?_
  show Sem (d + 5) qX11_best 0 0 0 [(0, .ref 0), (1, .int p), (2, .int w)] [] (xh X M D) _
  refine s_aload_nr (j := 0) dX11_best_0 rfl ?_
  refine s_iload_n (j := 1) dX11_best_1 rfl ?_
  refine s_V1r cv_X11_83 rfl dX11_best_2 xg_X11 rfl (Nat.le_of_ble_eq_true rfl) (x_serverAt _ _ M D hR hK.1.1 _) (fun y2 h2 q2 => ?_)
  rcases q2 with ⟨⟨hp, n, rfl, hs⟩ | ⟨hp, rfl⟩, rfl⟩
  · skip
    refine s_astore_nr dX11_best_5 (by decide) rfl ?_
    refine s_aload_nr (j := 0) dX11_best_6 rfl ?_
    refine s_ifnullr dX11_best_7 ?_
    refine s_iload_n (j := 3) dX11_best_10 rfl ?_
    refine s_iconst (v := 2) dX11_best_11 (by decide) ?_
    refine s_S2i cs_X11_67 rfl dX11_best_12 (Nat.le_of_ble_eq_true rfl) (x_wC _ _ _ _ (1) (by decide)) (fun y12 h12 q12 => ?_)
    obtain ⟨rfl, rfl⟩ := q12
    refine s_if_ne dX11_best_15 (tgt := 20) (by decide) (fun c15 => ?_) (fun c15 => ?_)
    · replace c15 := b2i_n0.mp c15
      have hp4 := in4_of hK.1.1 hp
      refine s_aload_nr (j := 1) dX11_best_20 rfl ?_
      refine s_aload_nr (j := 0) dX11_best_21 rfl ?_
      refine s_iload_n (j := 3) dX11_best_22 rfl ?_
      refine s_V2i cv_X11_171 rfl dX11_best_23 xg_X11 rfl (Nat.le_of_ble_eq_true rfl) (x_bestOf _ X M D hR hK hC hs hp4 _) (fun y23 h23 q23 => ?_)
      obtain ⟨rfl, X0, rfl, hq0⟩ := q23
      exact e_iret dX11_best_26 rfl (by unfold sp_best; (first | rw [if_pos hp] | rw [if_neg hp] | skip); (first | rw [if_pos c15] | rw [if_neg c15] | skip); exact ⟨rfl, _, rfl, hq0⟩)
    · replace c15 := b2i_0.mp c15
      refine s_iconst (v := -1) dX11_best_18 (by decide) ?_
      exact e_iret dX11_best_19 rfl (by unfold sp_best; (first | rw [if_pos hp] | rw [if_neg hp] | skip); (first | rw [if_pos c15] | rw [if_neg c15] | skip); exact ⟨rfl, _, rfl, FQ.rf _⟩)
  · skip
    refine s_astore_n0 dX11_best_5 (by decide) rfl ?_
    refine s_aload_n0 (j := 0) dX11_best_6 rfl ?_
    refine s_ifnull0 dX11_best_7 (tgt := 18) (by decide) ?_
    refine s_iconst (v := -1) dX11_best_18 (by decide) ?_
    exact e_iret dX11_best_19 rfl (by unfold sp_best; (first | rw [if_pos hp] | rw [if_neg hp] | skip); exact ⟨rfl, _, rfl, FQ.rf _⟩)
