set_option maxRecDepth 100000 in
set_option maxHeartbeats 800000 in
theorem x_takeFrom (d : Nat) (X : XZ) (M : MZ) (D : HP) {w u : Nat} (hw : w < 3) (hu : u < 3) (hwu : u ≠ w) {K : MZ} (hR : SR X D u K) : Con (d + 1) qX4_takeFrom 0 0 [.ref (1 + 11 * w), .ref (1 + 11 * u)] (xh X M D) (PV fun h => ∃ X2, h = xh X2 M D ∧ FX X X2 w ∧ SR X2 D w K) := by
  refine Con.of (by decide +kernel) (Nat.le_of_ble_eq_true rfl) ?_
  show Sem (d + 1) qX4_takeFrom 0 0 0 [(0, .ref (1 + 11 * w)), (1, .ref (1 + 11 * u))] [] (xh X M D) _
  refine s_iconst (v := 0) dX4_takeFrom_0 (by decide) ?_
  refine s_istore_n dX4_takeFrom_1 (by decide) rfl ?_
  have LP : ∀ (n : Nat) (r k : Nat) (X2 : XZ), r < n → k + r = 4 → TK X X2 w u k → Sem (d + 1) qX4_takeFrom 0 0 2 [(0, .ref (1 + 11 * w)), (1, .ref (1 + 11 * u)), (2, .int (nI k))] [] (xh X2 M D) (PV fun h => ∃ X2, h = xh X2 M D ∧ FX X X2 w ∧ SR X2 D w K) := by
    intro n
    induction n with
    | zero => intro r k X2 hm; exact absurd hm (Nat.not_lt_zero _)
    | succ n ih =>
      intro r k X2 hm g1 g3
      refine s_iload_n (j := 2) dX4_takeFrom_2 rfl ?_
      refine s_iconst (v := 4) dX4_takeFrom_3 (by decide) ?_
      refine s_icmp_ge dX4_takeFrom_4 (tgt := 61) (by decide) (fun c4 => ?_) (fun c4 => ?_)
      · obtain rfl : k = 4 := by have h9 : ¬ k < 4 := fun z => absurd (nI_lt (b := 4) z (by omega)) (Int32.not_lt.mpr c4); omega
        have f0 := g3.1
        refine s_aload_nr (j := 1) dX4_takeFrom_61 rfl ?_
        refine gX_X4_27 (w := u) hu dX4_takeFrom_62 rfl ?_
        refine s_iconst (v := 0) dX4_takeFrom_65 (by decide) ?_
        refine s_aload_nr (j := 0) dX4_takeFrom_66 rfl ?_
        refine gX_X4_27 (w := w) hw dX4_takeFrom_67 rfl ?_
        refine s_iconst (v := 0) dX4_takeFrom_70 (by decide) ?_
        refine s_bipush (v := 16) dX4_takeFrom_71 (by decide) ?_
        refine cX_rows hw hu rfl dX4_takeFrom_73 rfl (Nat.le_of_ble_eq_true rfl) ?_
        rw [f0.2.1 (9 * u + 3) (by omega)]
        have f1 := f0.pr (j := 9 * w + 3) (f := X.2.1 (9 * u + 3)) (by omega)
        refine s_aload_nr (j := 0) dX4_takeFrom_76 rfl ?_
        refine s_aload_nr (j := 1) dX4_takeFrom_77 rfl ?_
        refine gX_X4_65 (w := u) hu dX4_takeFrom_78 rfl ?_
        refine s_topi (fun z ez => ?_)
        obtain rfl := ez.trans (show _ = K.1 0 from (f1.1 _ (by omega)).trans hR.1.1)
        refine pX_X4_65 (w := w) hw dX4_takeFrom_81 rfl ?_
        have f2 := f1.p1 (k := 8 * w + 2) (v := K.1 0) (by omega)
        refine s_aload_nr (j := 0) dX4_takeFrom_84 rfl ?_
        refine s_aload_nr (j := 1) dX4_takeFrom_85 rfl ?_
        refine gX_X4_68 (w := u) hu dX4_takeFrom_86 rfl ?_
        refine s_topi (fun z ez => ?_)
        obtain rfl := ez.trans (show _ = K.1 1 from (f2.1 _ (by omega)).trans hR.1.2.1)
        refine pX_X4_68 (w := w) hw dX4_takeFrom_89 rfl ?_
        have f3 := f2.p1 (k := 8 * w + 3) (v := K.1 1) (by omega)
        refine s_aload_nr (j := 0) dX4_takeFrom_92 rfl ?_
        refine s_aload_nr (j := 1) dX4_takeFrom_93 rfl ?_
        refine gX_X4_71 (w := u) hu dX4_takeFrom_94 rfl ?_
        refine s_topi (fun z ez => ?_)
        obtain rfl := ez.trans (show _ = K.1 2 from (f3.1 _ (by omega)).trans hR.1.2.2.1)
        refine pX_X4_71 (w := w) hw dX4_takeFrom_97 rfl ?_
        have f4 := f3.p1 (k := 8 * w + 4) (v := K.1 2) (by omega)
        refine s_aload_nr (j := 0) dX4_takeFrom_100 rfl ?_
        refine s_aload_nr (j := 1) dX4_takeFrom_101 rfl ?_
        refine gX_X4_30 (w := u) hu dX4_takeFrom_102 rfl ?_
        refine s_topi (fun z ez => ?_)
        obtain rfl := ez.trans (show _ = K.1 3 from (f4.1 _ (by omega)).trans hR.1.2.2.2.1)
        refine pX_X4_30 (w := w) hw dX4_takeFrom_105 rfl ?_
        have f5 := f4.p1 (k := 8 * w + 5) (v := K.1 3) (by omega)
        refine s_aload_nr (j := 1) dX4_takeFrom_108 rfl ?_
        refine gX_X4_34 (w := u) hu dX4_takeFrom_109 rfl ?_
        refine s_iconst (v := 0) dX4_takeFrom_112 (by decide) ?_
        refine s_aload_nr (j := 0) dX4_takeFrom_113 rfl ?_
        refine gX_X4_34 (w := w) hw dX4_takeFrom_114 rfl ?_
        refine s_iconst (v := 0) dX4_takeFrom_117 (by decide) ?_
        refine s_bipush (v := 6) dX4_takeFrom_118 (by decide) ?_
        refine cX_seen hw hu rfl dX4_takeFrom_120 rfl (Nat.le_of_ble_eq_true rfl) ?_
        rw [f5.2.1 (9 * u + 4) (by omega)]
        have f6 := f5.pr (j := 9 * w + 4) (f := X.2.1 (9 * u + 4)) (by omega)
        refine s_aload_nr (j := 0) dX4_takeFrom_123 rfl ?_
        refine s_aload_nr (j := 1) dX4_takeFrom_124 rfl ?_
        refine gX_X4_74 (w := u) hu dX4_takeFrom_125 rfl ?_
        refine s_topi (fun z ez => ?_)
        obtain rfl := ez.trans (show _ = K.1 12 from (f6.1 _ (by omega)).trans hR.1.2.2.2.2.1)
        refine pX_X4_74 (w := w) hw dX4_takeFrom_128 rfl ?_
        have f7 := f6.p1 (k := 8 * w + 6) (v := K.1 12) (by omega)
        refine s_aload_nr (j := 1) dX4_takeFrom_131 rfl ?_
        refine gX_X4_37 (w := u) hu dX4_takeFrom_132 rfl ?_
        refine s_iconst (v := 0) dX4_takeFrom_135 (by decide) ?_
        refine s_aload_nr (j := 0) dX4_takeFrom_136 rfl ?_
        refine gX_X4_37 (w := w) hw dX4_takeFrom_137 rfl ?_
        refine s_iconst (v := 0) dX4_takeFrom_140 (by decide) ?_
        refine s_bipush (v := 10) dX4_takeFrom_141 (by decide) ?_
        refine cX_bookServer hw hu rfl dX4_takeFrom_143 rfl (Nat.le_of_ble_eq_true rfl) ?_
        rw [f7.2.1 (9 * u + 5) (by omega)]
        have f8 := f7.pr (j := 9 * w + 5) (f := X.2.1 (9 * u + 5)) (by omega)
        refine s_aload_nr (j := 1) dX4_takeFrom_146 rfl ?_
        refine gX_X4_40 (w := u) hu dX4_takeFrom_147 rfl ?_
        refine s_iconst (v := 0) dX4_takeFrom_150 (by decide) ?_
        refine s_aload_nr (j := 0) dX4_takeFrom_151 rfl ?_
        refine gX_X4_40 (w := w) hw dX4_takeFrom_152 rfl ?_
        refine s_iconst (v := 0) dX4_takeFrom_155 (by decide) ?_
        refine s_bipush (v := 10) dX4_takeFrom_156 (by decide) ?_
        refine cX_bookD hw hu rfl dX4_takeFrom_158 rfl (Nat.le_of_ble_eq_true rfl) ?_
        rw [f8.2.1 (9 * u + 6) (by omega)]
        have f9 := f8.pr (j := 9 * w + 6) (f := X.2.1 (9 * u + 6)) (by omega)
        refine s_aload_nr (j := 1) dX4_takeFrom_161 rfl ?_
        refine gX_X4_43 (w := u) hu dX4_takeFrom_162 rfl ?_
        refine s_iconst (v := 0) dX4_takeFrom_165 (by decide) ?_
        refine s_aload_nr (j := 0) dX4_takeFrom_166 rfl ?_
        refine gX_X4_43 (w := w) hw dX4_takeFrom_167 rfl ?_
        refine s_iconst (v := 0) dX4_takeFrom_170 (by decide) ?_
        refine s_bipush (v := 10) dX4_takeFrom_171 (by decide) ?_
        refine cX_bookE hw hu rfl dX4_takeFrom_173 rfl (Nat.le_of_ble_eq_true rfl) ?_
        rw [f9.2.1 (9 * u + 7) (by omega)]
        have f10 := f9.pr (j := 9 * w + 7) (f := X.2.1 (9 * u + 7)) (by omega)
        refine s_aload_nr (j := 0) dX4_takeFrom_176 rfl ?_
        refine s_aload_nr (j := 1) dX4_takeFrom_177 rfl ?_
        refine gX_X4_77 (w := u) hu dX4_takeFrom_178 rfl ?_
        refine s_topi (fun z ez => ?_)
        obtain rfl := ez.trans (show _ = K.1 13 from (f10.1 _ (by omega)).trans hR.1.2.2.2.2.2)
        refine pX_X4_77 (w := w) hw dX4_takeFrom_181 rfl ?_
        have f11 := f10.p1 (k := 8 * w + 7) (v := K.1 13) (by omega)
        refine s_aload_nr (j := 0) dX4_takeFrom_184 rfl ?_
        refine s_aload_nr (j := 1) dX4_takeFrom_185 rfl ?_
        refine gX_X4_80 (w := u) hu dX4_takeFrom_186 rfl ?_
        refine s_topv (f11.2.2.2.1 u hwu) ?_
        refine pX_X4_80 (w := w) hw dX4_takeFrom_189 rfl (by rcases hR.2.2.2 with ⟨_, h⟩ | ⟨f, _, _, h⟩; exact Or.inl h; exact Or.inr (Or.inl ⟨_, h⟩)) ?_
        exact e_vret dX4_takeFrom_192 rfl (by exact ⟨_, rfl, g3.fin hR⟩)
      · have hk4 : k < 4 := Nat.not_le.mp fun z => c4 (nI_le (a := 4) z (by omega))
        obtain ⟨r, rfl⟩ : ∃ x, r = x + 1 := ⟨r - 1, by omega⟩
        rcases SS.any hR.2.2.1 hk4 with hv | ⟨n, k1, i1, v1, hv, hs⟩
        · skip
          refine s_aload_nr (j := 0) dX4_takeFrom_7 rfl ?_
          refine gX_X4_11 (w := w) hw dX4_takeFrom_8 rfl ?_
          refine s_iload_n (j := 2) dX4_takeFrom_11 rfl ?_
          refine s_aload_nr (j := 1) dX4_takeFrom_12 rfl ?_
          refine gX_X4_11 (w := u) hu dX4_takeFrom_13 rfl ?_
          refine s_iload_n (j := 2) dX4_takeFrom_16 rfl ?_
          refine lX_X4_servers (w := u) hu dX4_takeFrom_17 (by exact vp_in_nI (by omega) (by decide)) (v := .null) (by rw [show pz (nI k) = k from nI_clamp (by omega), g3.1.2.2.2.2 u hwu]; exact hv) ?_
          refine sX_srv0 hw dX4_takeFrom_18 (by exact vp_in_nI (by omega) (by decide)) ?_
          refine s_aload_nr (j := 0) dX4_takeFrom_19 rfl ?_
          refine gX_X4_17 (w := w) hw dX4_takeFrom_20 rfl ?_
          refine s_iload_n (j := 2) dX4_takeFrom_23 rfl ?_
          refine s_aload_nr (j := 1) dX4_takeFrom_24 rfl ?_
          refine gX_X4_17 (w := u) hu dX4_takeFrom_25 rfl ?_
          refine s_iload_n (j := 2) dX4_takeFrom_28 rfl ?_
          refine lX_X4_hard (w := u) hu dX4_takeFrom_29 (by exact vp_in_nI (by omega) (by decide)) ?_
          refine sX_X4_hard (w := w) hw dX4_takeFrom_30 (by exact vp_in_nI (by omega) (by decide)) ?_
          refine s_aload_nr (j := 0) dX4_takeFrom_31 rfl ?_
          refine gX_X4_21 (w := w) hw dX4_takeFrom_32 rfl ?_
          refine s_iload_n (j := 2) dX4_takeFrom_35 rfl ?_
          refine s_aload_nr (j := 1) dX4_takeFrom_36 rfl ?_
          refine gX_X4_21 (w := u) hu dX4_takeFrom_37 rfl ?_
          refine s_iload_n (j := 2) dX4_takeFrom_40 rfl ?_
          refine lX_X4_soft (w := u) hu dX4_takeFrom_41 (by exact vp_in_nI (by omega) (by decide)) ?_
          refine sX_X4_soft (w := w) hw dX4_takeFrom_42 (by exact vp_in_nI (by omega) (by decide)) ?_
          refine s_aload_nr (j := 0) dX4_takeFrom_43 rfl ?_
          refine gX_X4_24 (w := w) hw dX4_takeFrom_44 rfl ?_
          refine s_iload_n (j := 2) dX4_takeFrom_47 rfl ?_
          refine s_aload_nr (j := 1) dX4_takeFrom_48 rfl ?_
          refine gX_X4_24 (w := u) hu dX4_takeFrom_49 rfl ?_
          refine s_iload_n (j := 2) dX4_takeFrom_52 rfl ?_
          refine lX_X4_served (w := u) hu dX4_takeFrom_53 (by exact vp_in_nI (by omega) (by decide)) ?_
          refine sX_X4_served (w := w) hw dX4_takeFrom_54 (by exact vp_in_nI (by omega) (by decide)) ?_
          refine s_iinc (j := 2) (v := _ + (1)) dX4_takeFrom_55 rfl rfl (by decide) rfl ?_
          refine s_goto dX4_takeFrom_58 (tgt := 2) (by decide) ?_
          refine s_locals [1, 2, 0] rfl ?_
          have ek : pz (nI k) = k := nI_clamp (by omega)
          rw [ek]
          simp only [nI_1]
          exact ih r (k + 1) _ (by omega) (by omega) (g3.step hv.symm (by show X2.2.1 (9 * u + 0) k = _; rw [g3.1.2.1 _ (by omega)]) (by rw [xa_ne (by omega)]; show X2.2.1 (9 * u + 1) k = _; rw [g3.1.2.1 _ (by omega)]) (by rw [xa_ne (by omega), xa_ne (by omega)]; show X2.2.1 (9 * u + 2) k = _; rw [g3.1.2.1 _ (by omega)]))
        · skip
          refine s_aload_nr (j := 0) dX4_takeFrom_7 rfl ?_
          refine gX_X4_11 (w := w) hw dX4_takeFrom_8 rfl ?_
          refine s_iload_n (j := 2) dX4_takeFrom_11 rfl ?_
          refine s_aload_nr (j := 1) dX4_takeFrom_12 rfl ?_
          refine gX_X4_11 (w := u) hu dX4_takeFrom_13 rfl ?_
          refine s_iload_n (j := 2) dX4_takeFrom_16 rfl ?_
          refine lX_X4_servers (w := u) hu dX4_takeFrom_17 (by exact vp_in_nI (by omega) (by decide)) (v := .ref n) (by rw [show pz (nI k) = k from nI_clamp (by omega), g3.1.2.2.2.2 u hwu]; exact hv) ?_
          refine sX_srv hw hs dX4_takeFrom_18 (by exact vp_in_nI (by omega) (by decide)) ?_
          refine s_aload_nr (j := 0) dX4_takeFrom_19 rfl ?_
          refine gX_X4_17 (w := w) hw dX4_takeFrom_20 rfl ?_
          refine s_iload_n (j := 2) dX4_takeFrom_23 rfl ?_
          refine s_aload_nr (j := 1) dX4_takeFrom_24 rfl ?_
          refine gX_X4_17 (w := u) hu dX4_takeFrom_25 rfl ?_
          refine s_iload_n (j := 2) dX4_takeFrom_28 rfl ?_
          refine lX_X4_hard (w := u) hu dX4_takeFrom_29 (by exact vp_in_nI (by omega) (by decide)) ?_
          refine sX_X4_hard (w := w) hw dX4_takeFrom_30 (by exact vp_in_nI (by omega) (by decide)) ?_
          refine s_aload_nr (j := 0) dX4_takeFrom_31 rfl ?_
          refine gX_X4_21 (w := w) hw dX4_takeFrom_32 rfl ?_
          refine s_iload_n (j := 2) dX4_takeFrom_35 rfl ?_
          refine s_aload_nr (j := 1) dX4_takeFrom_36 rfl ?_
          refine gX_X4_21 (w := u) hu dX4_takeFrom_37 rfl ?_
          refine s_iload_n (j := 2) dX4_takeFrom_40 rfl ?_
          refine lX_X4_soft (w := u) hu dX4_takeFrom_41 (by exact vp_in_nI (by omega) (by decide)) ?_
          refine sX_X4_soft (w := w) hw dX4_takeFrom_42 (by exact vp_in_nI (by omega) (by decide)) ?_
          refine s_aload_nr (j := 0) dX4_takeFrom_43 rfl ?_
          refine gX_X4_24 (w := w) hw dX4_takeFrom_44 rfl ?_
          refine s_iload_n (j := 2) dX4_takeFrom_47 rfl ?_
          refine s_aload_nr (j := 1) dX4_takeFrom_48 rfl ?_
          refine gX_X4_24 (w := u) hu dX4_takeFrom_49 rfl ?_
          refine s_iload_n (j := 2) dX4_takeFrom_52 rfl ?_
          refine lX_X4_served (w := u) hu dX4_takeFrom_53 (by exact vp_in_nI (by omega) (by decide)) ?_
          refine sX_X4_served (w := w) hw dX4_takeFrom_54 (by exact vp_in_nI (by omega) (by decide)) ?_
          refine s_iinc (j := 2) (v := _ + (1)) dX4_takeFrom_55 rfl rfl (by decide) rfl ?_
          refine s_goto dX4_takeFrom_58 (tgt := 2) (by decide) ?_
          refine s_locals [1, 2, 0] rfl ?_
          have ek : pz (nI k) = k := nI_clamp (by omega)
          rw [ek]
          simp only [nI_1]
          exact ih r (k + 1) _ (by omega) (by omega) (g3.step hv.symm (by show X2.2.1 (9 * u + 0) k = _; rw [g3.1.2.1 _ (by omega)]) (by rw [xa_ne (by omega)]; show X2.2.1 (9 * u + 1) k = _; rw [g3.1.2.1 _ (by omega)]) (by rw [xa_ne (by omega), xa_ne (by omega)]; show X2.2.1 (9 * u + 2) k = _; rw [g3.1.2.1 _ (by omega)]))
  refine s_locals [1, 2, 0] rfl ?_
  exact LP 5 4 0 X (by decide) (by rfl) ⟨FX.rf X w, fun i hi => absurd hi (Nat.not_lt_zero _), fun i hi => absurd hi (Nat.not_lt_zero _), fun i hi => absurd hi (Nat.not_lt_zero _), fun i hi => absurd hi (Nat.not_lt_zero _)⟩
