set_option maxRecDepth 100000 in
set_option maxHeartbeats 800000 in
theorem x_clear (d : Nat) (X : XZ) (M : MZ) (D : HP) (c : Nat) (hc : c < 6) : Con d qX0_clear 0 0 [.ref (53 + 5 * c)] (xh X M D) (PV fun h => h = xh (x1 (x1 X (28 + 2 * c) 0) (29 + 2 * c) 0) M D) := by
  refine Con.of (by decide +kernel) (Nat.le_of_ble_eq_true rfl) ?_
  show Sem d qX0_clear 0 0 0 [(0, .ref (53 + 5 * c))] [] (xh X M D) _
  refine s_aload_nr (j := 0) dX0_clear_0 rfl ?_
  refine s_iconst (v := 0) dX0_clear_1 (by decide) ?_
  refine pX_X0_24 (c := c) hc dX0_clear_2 rfl ?_
  refine s_aload_nr (j := 0) dX0_clear_5 rfl ?_
  refine s_iconst (v := 0) dX0_clear_6 (by decide) ?_
  refine pX_X0_28 (c := c) hc dX0_clear_7 rfl ?_
  exact e_vret dX0_clear_10 rfl (by rfl)

set_option maxRecDepth 100000 in
set_option maxHeartbeats 800000 in
theorem x_readInto (d : Nat) (X : XZ) (M : MZ) (D : HP) (c : Nat) (hc : c < 6) (T : Nat → Int32) (N : Nat) (hT : TX X T N) (LT : Nat → Int32) (hLT : LTV LT) (R : Bool × Nat × CLs) (hR : R = gtR T N LT 10 0) : Con (d + 21) qX7_readInto 0 0 [.ref 34, .ref (53 + 5 * c)] (xh X M D) (PI fun y h => y = (if R.1 = true then -1 else nI R.2.1) ∧ ∃ X2 a z g, h = xh (rdx X2 c a z g) M D ∧ FC X X2 c ∧ (R.1 = true → XC (rdx X2 c a z g) c R.2.2)) := by
  refine Con.of (by decide +kernel) (Nat.le_of_ble_eq_true rfl) ?_
  show Sem (d + 21) qX7_readInto 0 0 0 [(0, .ref 34), (1, .ref (53 + 5 * c))] [] (xh X M D) _
  have hN1 := hT.2.1
  refine s_aload_nr (j := 1) dX7_readInto_0 rfl ?_
  refine s_V0v cv_X7_23 rfl dX7_readInto_1 (xg_X0 (c := c) hc) rfl (Nat.le_of_ble_eq_true rfl) (x_clear _ X M D c hc) (fun h1 q1 => ?_)
  obtain rfl := q1
  refine s_aload_nr (j := 0) dX7_readInto_4 rfl ?_
  refine s_iconst (v := 0) dX7_readInto_5 (by decide) ?_
  refine pX_X7_28 dX7_readInto_6 rfl ?_
  rw [rdx_beg]
  refine s_iconst (v := 1) dX7_readInto_9 (by decide) ?_
  refine s_istore_n dX7_readInto_10 (by decide) rfl ?_
  have LP : ∀ (fu : Nat) (r a z : Nat) (dn : CLs) (g : Nat → Int32) (X2 : XZ), r < fu → dn.length + r = 10 → a ≤ N → z ≤ a → 0 < r → RDI X X2 c z g dn → (gtR T N LT r a).1 = R.1 → (gtR T N LT r a).2.1 = R.2.1 → (R.1 = true → dn ++ (gtR T N LT r a).2.2 = R.2.2) → Sem (d + 21) qX7_readInto 0 0 11 [(0, .ref 34), (1, .ref (53 + 5 * c)), (2, .int (nI (dn.length + 1)))] [] (xh (rdx X2 c a z g) M D) (PI fun y h => y = (if R.1 = true then -1 else nI R.2.1) ∧ ∃ X2 a z g, h = xh (rdx X2 c a z g) M D ∧ FC X X2 c ∧ (R.1 = true → XC (rdx X2 c a z g) c R.2.2)) := by
    intro fu
    induction fu with
    | zero => intro r a z dn g X2 hm; exact absurd hm (Nat.not_lt_zero _)
    | succ fu ih =>
      intro r a z dn g X2 hm g1 ha hz g2 g3 g4 g5 g6
      refine s_iload_n (j := 2) dX7_readInto_11 rfl ?_
      refine s_bipush (v := 10) dX7_readInto_12 (by decide) ?_
      refine s_icmp_gt dX7_readInto_14 (tgt := 69) (by decide) (fun c14 => ?_) (fun c14 => ?_)
      · exact absurd (nI_le (a := dn.length + 1) (b := 10) (by omega) (by decide)) (Int32.not_le.mpr c14)
      · refine s_aload_nr (j := 0) dX7_readInto_17 rfl ?_
        refine s_aload_nr (j := 1) dX7_readInto_18 rfl ?_
        refine s_V1i cv_X7_31 rfl dX7_readInto_19 xg_X7 rfl (Nat.le_of_ble_eq_true rfl) (x_clause _ X2 M D c hc T N (hT.fc g3.1) a z g ha hz LT hLT dn.length g3.2.1 (by omega)) (fun y19 h19 q19 => ?_)
        obtain ⟨rfl, X3, g9, rfl, hlo, hg, hX3⟩ := q19
        have hck := ck_cl (T := T) (N := N) (a := a) (LT := LT) hN1
        have hbd := clR_bd (T := T) (LT := LT) ha hLT.n1
        refine s_if_ne dX7_readInto_22 (tgt := 30) (by decide) (fun c22 => ?_) (fun c22 => ?_)
        · replace c22 := b2i_n0.mp c22
          have hcl : (clR T N LT a).1 = true := hck.1.trans c22
          have het := hck.2.2 c22
          rw [hck.2.1, het] at hbd
          have hpl : (ckR T N LT a).2.1 ≤ N := hbd.1
          rw [if_pos c22] at hX3
          subst hX3
          have hs := g3.step c22 het hlo hg (by omega)
          obtain ⟨r, rfl⟩ : ∃ x, r = x + 1 := ⟨r - 1, by omega⟩
          refine s_aload_nr (j := 0) dX7_readInto_30 rfl ?_
          refine gX_X7_28 dX7_readInto_31 rfl ?_
          refine s_topi (fun z9 ez9 => ?_)
          obtain rfl : z9 = nI (ckR T N LT a).2.1 := ez9.trans (rdx_27 _ _ _ _ _)
          refine s_aload_nr (j := 0) dX7_readInto_34 rfl ?_
          refine gX_X7_15 dX7_readInto_35 rfl ?_
          refine s_topi (fun z9 ez9 => ?_)
          obtain rfl : z9 = nI N := ez9.trans ((rdx_26 _ _ _ _ _).trans ((hT.fc hs.1).1))
          refine s_icmp_ne dX7_readInto_38 (tgt := 43) (by decide) (fun c38 => ?_) (fun c38 => ?_)
          · have hE : ¬ (clR T N LT a).2.1 = N := fun w => c38 (by rw [← hck.2.1, w])
            refine s_iload_n (j := 2) dX7_readInto_43 rfl ?_
            refine s_bipush (v := 10) dX7_readInto_44 (by decide) ?_
            refine s_icmp_eq dX7_readInto_46 (tgt := 58) (by decide) (fun c46 => ?_) (fun c46 => ?_)
            · have hr0 : r = 0 := by have := (nI_eq (b := 10) (by omega) (by decide)).mp c46; omega
              refine s_aload_nr (j := 0) dX7_readInto_58 rfl ?_
              refine gX_X7_28 dX7_readInto_59 rfl ?_
              refine s_topi (fun z9 ez9 => ?_)
              obtain rfl : z9 = nI (ckR T N LT a).2.1 := ez9.trans (rdx_27 _ _ _ _ _)
              · skip
                exact e_iret dX7_readInto_62 rfl (by rw [gtR, if_pos hcl, if_neg hE, if_pos hr0] at g4 g5 g6; exact ⟨by rw [if_neg (by rw [← g4]; simp), ← g5, hck.2.1], _, _, _, _, rfl, hs.1, fun w => absurd (g4.trans w) (by simp)⟩)
            · have hr0 : ¬ r = 0 := fun w => c46 (by rw [show dn.length + 1 = 10 by omega]; rfl)
              refine s_aload_nr (j := 0) dX7_readInto_49 rfl ?_
              refine s_bipush (v := 59) dX7_readInto_50 (by decide) ?_
              refine s_V1i cv_X7_35 rfl dX7_readInto_52 xg_X7 rfl (Nat.le_of_ble_eq_true rfl) (x_took _ _ M D c hc T N (hT.fc hs.1) (ckR T N LT a).2.1 _ _ hpl 59 (by decide)) (fun y52 h52 q52 => ?_)
              obtain ⟨rfl, rfl⟩ := q52
              refine s_if_ne dX7_readInto_55 (tgt := 63) (by decide) (fun c55 => ?_) (fun c55 => ?_)
              · replace c55 := b2i_n0.mp c55
                refine s_iinc (j := 2) (v := _ + (1)) dX7_readInto_63 rfl rfl (by decide) rfl ?_
                refine s_goto dX7_readInto_66 (tgt := 11) (by decide) ?_
                refine s_locals [1, 2, 0] rfl ?_
                rw [tkA, if_pos c55]
                simp only [nI_1]
                rw [gtR, if_pos hcl, if_neg hE, if_neg hr0, if_pos (show sg T N (clR T N LT a).2.1 = 59 from by rw [hck.2.1]; exact c55), hck.2.1] at g4 g5 g6
                have e8 := ih r ((ckR T N LT a).2.1 + 1) _ (dn ++ [clO T N LT a]) g9 _ (by omega) (by rw [List.length_append, List.length_singleton]; omega) (sg_lt (fun w => by rw [w] at c55; exact absurd c55 (by decide))) (by omega) (by omega) hs g4 g5 (fun w => by rw [List.append_assoc]; exact g6 w)
                rw [List.length_append, List.length_singleton] at e8
                exact e8
              · replace c55 := b2i_0.mp c55
                refine s_aload_nr (j := 0) dX7_readInto_58 rfl ?_
                refine gX_X7_28 dX7_readInto_59 rfl ?_
                refine s_topi (fun z9 ez9 => ?_)
                obtain rfl : z9 = nI (tkA T N (ckR T N LT a).2.1 59) := ez9.trans (rdx_27 _ _ _ _ _)
                rw [tkA, if_neg c55]
                · skip
                  exact e_iret dX7_readInto_62 rfl (by rw [gtR, if_pos hcl, if_neg hE, if_neg hr0, if_neg (show ¬ sg T N (clR T N LT a).2.1 = 59 from by rw [hck.2.1]; exact c55)] at g4 g5 g6; exact ⟨by rw [if_neg (by rw [← g4]; simp), ← g5, hck.2.1], _, _, _, _, rfl, hs.1, fun w => absurd (g4.trans w) (by simp)⟩)
          · have hE : (clR T N LT a).2.1 = N := by rw [hck.2.1]; exact (nI_eq (by omega) (by omega)).mp c38
            refine s_iconst (v := -1) dX7_readInto_41 (by decide) ?_
            exact e_iret dX7_readInto_42 rfl (by rw [gtR, if_pos hcl, if_pos hE] at g4 g5 g6; exact ⟨by rw [if_pos g4.symm], _, _, _, _, rfl, hs.1, fun w => by rw [← g6 w]; exact ⟨(rdx_c _ _ _ _ _).trans hs.2.1, XCC.rd hs.2.2.2⟩⟩)
        · replace c22 := b2i_0.mp c22
          refine s_aload_nr (j := 0) dX7_readInto_25 rfl ?_
          refine gX_X7_28 dX7_readInto_26 rfl ?_
          refine s_topi (fun z9 ez9 => ?_)
          obtain rfl : z9 = nI (ckR T N LT a).2.1 := ez9.trans (rdx_27 _ _ _ _ _)
          exact e_iret dX7_readInto_29 rfl (by obtain ⟨r, rfl⟩ : ∃ x, r = x + 1 := ⟨r - 1, by omega⟩; rw [gtR, if_neg (fun w => c22 (hck.1 ▸ w))] at g4 g5 g6; rw [if_neg c22] at hX3; exact ⟨by rw [if_neg (by rw [← g4]; simp), ← g5, hck.2.1], _, _, _, _, rfl, by rw [hX3]; exact g3.1, fun w => absurd (g4.trans w) (by simp)⟩)
  refine s_locals [1, 2, 0] rfl ?_
  exact LP 11 10 0 0 [] _ _ (by decide) (by rfl) (Nat.zero_le _) (Nat.le_refl _) (by decide) ⟨⟨fun k hk => if_neg hk, fun _ _ => rfl, rfl⟩, if_pos rfl, rfl, trivial⟩ (by rw [hR]) (by rw [hR]) (fun _ => by rw [hR]; rfl)
