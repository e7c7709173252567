def RES (X : XZ) (M : MZ) (D : HP) (c : Nat) (R : Bool × Nat × List Int32) (z : Nat) (g : Nat → Int32) : PO := PI fun y h => y = b2i (R.1 = true) ∧ ∃ g2, h = xh (rdx X c R.2.1 (z + R.2.2.length) g2) M D ∧ (∀ i, i < z → g2 i = g i) ∧ GDL g2 z R.2.2

set_option maxRecDepth 100000 in
set_option maxHeartbeats 800000 in
theorem x_allOf (d : Nat) (X : XZ) (M : MZ) (D : HP) (c : Nat) (hc : c < 6) (T : Nat → Int32) (N : Nat) (hT : TX X T N) (m : Nat) (dp : Int32) (f : Nat → Bool × Nat × List Int32) (hbd : ∀ a, a ≤ N → (f a).2.2.length + a ≤ (f a).2.1 ∧ (f a).2.1 ≤ N) (a0 z : Nat) (g0 : Nat → Int32) (ha0 : a0 ≤ N) (hz0 : z ≤ a0) (hF : ∀ (d a z : Nat) (g : Nat → Int32), a ≤ N → z ≤ a → Con (d + m + 5) qX7_factor 0 0 [.ref 34, .ref (53 + 5 * c), .int dp] (xh (rdx X c a z g) M D) (RES X M D c (f a) z g)) (R : Bool × Nat × List Int32) (hR : R = lpR T N f 38 (-38) 100 true a0 []) : Con (d + m + 6) qX7_allOf 0 0 [.ref 34, .ref (53 + 5 * c), .int dp] (xh (rdx X c a0 z g0) M D) (RES X M D c R z g0) := by
  refine Con.of (by decide +kernel) (Nat.le_of_ble_eq_true rfl) ?_
  show Sem (d + m + 6) qX7_allOf 0 0 0 [(0, .ref 34), (1, .ref (53 + 5 * c)), (2, .int dp)] [] (xh (rdx X c a0 z g0) M D) _
  have hN1 := hT.2.1
  unfold RES
  refine s_iconst (v := 0) dX7_allOf_0 (by decide) ?_
  refine s_istore_n dX7_allOf_1 (by decide) rfl ?_
  have LP : ∀ (fu : Nat) (r j a : Nat) (tk : List Int32) (g : Nat → Int32), r < fu → j + r = 100 → a ≤ N → z + tk.length + cond (decide (j = 0)) 0 1 ≤ a → GDL g z tk → (∀ i, i < z → g i = g0 i) → lpR T N f 38 (-38) r (decide (j = 0)) a tk = R → Sem (d + m + 6) qX7_allOf 0 0 2 [(0, .ref 34), (1, .ref (53 + 5 * c)), (2, .int dp), (3, .int (nI j))] [] (xh (rdx X c a (z + tk.length) g) M D) (RES X M D c R z g0) := by
    intro fu
    induction fu with
    | zero => intro r j a tk g hm; exact absurd hm (Nat.not_lt_zero _)
    | succ fu ih =>
      intro r j a tk g hm g1 g2a g3 g4 g5 g6
      refine s_iload_n (j := 3) dX7_allOf_2 rfl ?_
      refine s_bipush (v := 100) dX7_allOf_3 (by decide) ?_
      refine s_icmp_ge dX7_allOf_5 (tgt := 46) (by decide) (fun c5 => ?_) (fun c5 => ?_)
      · obtain rfl : r = 0 := by have h9 : ¬ j < 100 := fun w => absurd (nI_lt (b := 100) w (by decide)) (Int32.not_lt.mpr c5); omega
        refine s_iconst (v := 0) dX7_allOf_46 (by decide) ?_
        exact e_zret dX7_allOf_47 rfl (by first | rfl | exact b2i_z | decide) (by rw [← g6]; exact ⟨(b2i_f (by simp [lpR])).symm, g, rfl, g5, g4⟩)
      · have hk9 : j < 100 := Nat.not_le.mp fun w => c5 (nI_le (a := 100) w (by omega))
        obtain ⟨r, rfl⟩ : ∃ x, r = x + 1 := ⟨r - 1, by omega⟩
        have hb1 := hbd a g2a
        refine s_aload_nr (j := 0) dX7_allOf_8 rfl ?_
        refine s_aload_nr (j := 1) dX7_allOf_9 rfl ?_
        refine s_iload_n (j := 2) dX7_allOf_10 rfl ?_
        refine s_V2i cv_X7_76 rfl dX7_allOf_11 xg_X7 rfl (Nat.le_of_ble_eq_true rfl) (hF _ a (z + tk.length) g g2a (by omega)) (fun y11 h11 q11 => ?_)
        obtain ⟨rfl, g2, rfl, hlo1, hg1⟩ := q11
        have hlo : ∀ i, i < z → g2 i = g0 i := fun i hi => (hlo1 i (by omega)).trans (g5 i hi)
        have hg : GDL g2 z ((f a).2.2 ++ tk) := hg1.app (g4.cg (fun i hi => hlo1 i hi))
        refine s_if_ne dX7_allOf_14 (tgt := 19) (by decide) (fun c14 => ?_) (fun c14 => ?_)
        · replace c14 := b2i_n0.mp c14
          refine s_iload_n (j := 3) dX7_allOf_19 rfl ?_
          refine s_if_le dX7_allOf_20 (tgt := 29) (by decide) (fun c20 => ?_) (fun c20 => ?_)
          · obtain rfl : j = 0 := by by_cases e : j = 0; (exact e); (exact absurd c20 (nI_nle (by omega) (by omega)))
            skip
            · skip
              refine s_aload_nr (j := 0) dX7_allOf_29 rfl ?_
              refine s_bipush (v := 38) dX7_allOf_30 (by decide) ?_
              refine s_V1i cv_X7_35 rfl dX7_allOf_32 xg_X7 rfl (Nat.le_of_ble_eq_true rfl) (x_took _ X M D c hc T N hT (f a).2.1 (z + tk.length + (f a).2.2.length) _ (hbd a g2a).2 38 (by decide)) (fun y32 h32 q32 => ?_)
              obtain ⟨rfl, rfl⟩ := q32
              refine s_if_ne dX7_allOf_35 (tgt := 40) (by decide) (fun c35 => ?_) (fun c35 => ?_)
              · replace c35 := b2i_n0.mp c35
                refine s_iinc (j := 3) (v := _ + (1)) dX7_allOf_40 rfl rfl (by decide) rfl ?_
                refine s_goto dX7_allOf_43 (tgt := 2) (by decide) ?_
                refine s_locals [1, 2, 3, 0] rfl ?_
                simp only [nI_1]
                rw [tkA, if_pos c35]
                have e8 := ih r (0 + 1) ((f a).2.1 + 1) ((f a).2.2 ++ tk) g2 (by omega) (by omega) (by have := sg_lt (T := T) (N := N) (a := (f a).2.1) (fun w => by rw [w] at c35; exact absurd c35 (by decide)); omega) (by rw [List.length_append]; show z + _ + 1 ≤ _; omega) hg hlo (by rw [← g6]; rw [lpR, if_pos c14, if_pos c35]; rfl)
                rw [List.length_append, show z + ((f a).2.2.length + tk.length) = z + tk.length + (f a).2.2.length from by omega] at e8
                exact e8
              · replace c35 := b2i_0.mp c35
                refine s_iconst (v := 1) dX7_allOf_38 (by decide) ?_
                exact e_zret dX7_allOf_39 rfl (by first | rfl | exact b2i_z | decide) (by rw [← g6, lpR, if_pos c14, if_neg c35]; exact ⟨(b2i_t rfl).symm, g2, by rw [tkA, if_neg c35]; show _ = xh (rdx X c _ (z + ((f a).2.2 ++ tk).length) _) M D; rw [List.length_append, show z + ((f a).2.2.length + tk.length) = z + tk.length + (f a).2.2.length from by omega], hlo, hg⟩)
          · have hj0 : ¬ j = 0 := fun e => c20 (by rw [e]; decide)
            rw [decide_eq_false hj0] at g3
            have g3x : z + tk.length + 1 ≤ a := g3
            refine s_aload_nr (j := 1) dX7_allOf_23 rfl ?_
            refine s_bipush (v := -2) dX7_allOf_24 (by decide) ?_
            refine s_V1v cv_X7_72 rfl dX7_allOf_26 (xg_X0 (c := c) hc) rfl (Nat.le_of_ble_eq_true rfl) (x_add _ X M D c hc T N hT _ (z + tk.length + (f a).2.2.length) g2 (-2) (by have := hbd a g2a; omega)) (fun h26 q26 => ?_)
            obtain rfl := q26
            have hg3 : GDL (upd g2 (z + tk.length + (f a).2.2.length) (-2)) z (-38 :: ((f a).2.2 ++ tk)) := by
              have e9 := GDL.put (t := -38) hg
              rw [List.length_append, show z + ((f a).2.2.length + tk.length) = z + tk.length + (f a).2.2.length from by omega] at e9
              exact e9
            have hlo3 : ∀ i, i < z → upd g2 (z + tk.length + (f a).2.2.length) (-2) i = g0 i := fun i hi => (if_neg (by omega)).trans (hlo i hi)
            · skip
              refine s_aload_nr (j := 0) dX7_allOf_29 rfl ?_
              refine s_bipush (v := 38) dX7_allOf_30 (by decide) ?_
              refine s_V1i cv_X7_35 rfl dX7_allOf_32 xg_X7 rfl (Nat.le_of_ble_eq_true rfl) (x_took _ X M D c hc T N hT (f a).2.1 (z + tk.length + (f a).2.2.length + 1) _ (hbd a g2a).2 38 (by decide)) (fun y32 h32 q32 => ?_)
              obtain ⟨rfl, rfl⟩ := q32
              refine s_if_ne dX7_allOf_35 (tgt := 40) (by decide) (fun c35 => ?_) (fun c35 => ?_)
              · replace c35 := b2i_n0.mp c35
                refine s_iinc (j := 3) (v := _ + (1)) dX7_allOf_40 rfl rfl (by decide) rfl ?_
                refine s_goto dX7_allOf_43 (tgt := 2) (by decide) ?_
                refine s_locals [1, 2, 3, 0] rfl ?_
                simp only [nI_1]
                rw [tkA, if_pos c35]
                have e8 := ih r (j + 1) ((f a).2.1 + 1) (-38 :: ((f a).2.2 ++ tk)) _ (by omega) (by omega) (by have := sg_lt (T := T) (N := N) (a := (f a).2.1) (fun w => by rw [w] at c35; exact absurd c35 (by decide)); omega) (by rw [List.length_cons, List.length_append]; show z + _ + 1 ≤ _; omega) hg3 hlo3 (by rw [← g6, lpR, if_pos c14, if_pos c35, decide_eq_false hj0]; rfl)
                rw [List.length_cons, List.length_append, show z + ((f a).2.2.length + tk.length + 1) = z + tk.length + (f a).2.2.length + 1 from by omega] at e8
                exact e8
              · replace c35 := b2i_0.mp c35
                refine s_iconst (v := 1) dX7_allOf_38 (by decide) ?_
                exact e_zret dX7_allOf_39 rfl (by first | rfl | exact b2i_z | decide) (by rw [← g6, lpR, if_pos c14, if_neg c35, decide_eq_false hj0]; exact ⟨(b2i_t rfl).symm, _, by rw [tkA, if_neg c35]; show _ = xh (rdx X c _ (z + (-38 :: ((f a).2.2 ++ tk)).length) _) M D; rw [List.length_cons, List.length_append, show z + ((f a).2.2.length + tk.length + 1) = z + tk.length + (f a).2.2.length + 1 from by omega], hlo3, hg3⟩)
        · replace c14 := b2i_0.mp c14
          refine s_iconst (v := 0) dX7_allOf_17 (by decide) ?_
          exact e_zret dX7_allOf_18 rfl (by first | rfl | exact b2i_z | decide) (by rw [← g6, lpR, if_neg c14]; exact ⟨(b2i_f (by simp)).symm, g2, by rw [List.length_append, show z + ((f a).2.2.length + tk.length) = z + tk.length + (f a).2.2.length from by omega], hlo, hg⟩)
  refine s_locals [1, 2, 3, 0] rfl ?_
  exact LP 101 100 0 a0 [] g0 (by decide) (by rfl) ha0 (by show z + 0 + 0 ≤ a0; omega) trivial (fun _ _ => rfl) (by rw [hR]; rfl)

set_option maxRecDepth 100000 in
set_option maxHeartbeats 800000 in
theorem x_anyOf (d : Nat) (X : XZ) (M : MZ) (D : HP) (c : Nat) (hc : c < 6) (T : Nat → Int32) (N : Nat) (hT : TX X T N) (m : Nat) (dp : Int32) (f : Nat → Bool × Nat × List Int32) (hbd : ∀ a, a ≤ N → (f a).2.2.length + a ≤ (f a).2.1 ∧ (f a).2.1 ≤ N) (a0 z : Nat) (g0 : Nat → Int32) (ha0 : a0 ≤ N) (hz0 : z ≤ a0) (hF : ∀ (d a z : Nat) (g : Nat → Int32), a ≤ N → z ≤ a → Con (d + m + 6) qX7_allOf 0 0 [.ref 34, .ref (53 + 5 * c), .int dp] (xh (rdx X c a z g) M D) (RES X M D c (f a) z g)) (R : Bool × Nat × List Int32) (hR : R = lpR T N f 124 (-124) 100 true a0 []) : Con (d + m + 7) qX7_anyOf 0 0 [.ref 34, .ref (53 + 5 * c), .int dp] (xh (rdx X c a0 z g0) M D) (RES X M D c R z g0) := by
  refine Con.of (by decide +kernel) (Nat.le_of_ble_eq_true rfl) ?_
  show Sem (d + m + 7) qX7_anyOf 0 0 0 [(0, .ref 34), (1, .ref (53 + 5 * c)), (2, .int dp)] [] (xh (rdx X c a0 z g0) M D) _
  have hN1 := hT.2.1
  unfold RES
  refine s_iconst (v := 0) dX7_anyOf_0 (by decide) ?_
  refine s_istore_n dX7_anyOf_1 (by decide) rfl ?_
  have LP : ∀ (fu : Nat) (r j a : Nat) (tk : List Int32) (g : Nat → Int32), r < fu → j + r = 100 → a ≤ N → z + tk.length + cond (decide (j = 0)) 0 1 ≤ a → GDL g z tk → (∀ i, i < z → g i = g0 i) → lpR T N f 124 (-124) r (decide (j = 0)) a tk = R → Sem (d + m + 7) qX7_anyOf 0 0 2 [(0, .ref 34), (1, .ref (53 + 5 * c)), (2, .int dp), (3, .int (nI j))] [] (xh (rdx X c a (z + tk.length) g) M D) (RES X M D c R z g0) := by
    intro fu
    induction fu with
    | zero => intro r j a tk g hm; exact absurd hm (Nat.not_lt_zero _)
    | succ fu ih =>
      intro r j a tk g hm g1 g2a g3 g4 g5 g6
      refine s_iload_n (j := 3) dX7_anyOf_2 rfl ?_
      refine s_bipush (v := 100) dX7_anyOf_3 (by decide) ?_
      refine s_icmp_ge dX7_anyOf_5 (tgt := 46) (by decide) (fun c5 => ?_) (fun c5 => ?_)
      · obtain rfl : r = 0 := by have h9 : ¬ j < 100 := fun w => absurd (nI_lt (b := 100) w (by decide)) (Int32.not_lt.mpr c5); omega
        refine s_iconst (v := 0) dX7_anyOf_46 (by decide) ?_
        exact e_zret dX7_anyOf_47 rfl (by first | rfl | exact b2i_z | decide) (by rw [← g6]; exact ⟨(b2i_f (by simp [lpR])).symm, g, rfl, g5, g4⟩)
      · have hk9 : j < 100 := Nat.not_le.mp fun w => c5 (nI_le (a := 100) w (by omega))
        obtain ⟨r, rfl⟩ : ∃ x, r = x + 1 := ⟨r - 1, by omega⟩
        have hb1 := hbd a g2a
        refine s_aload_nr (j := 0) dX7_anyOf_8 rfl ?_
        refine s_aload_nr (j := 1) dX7_anyOf_9 rfl ?_
        refine s_iload_n (j := 2) dX7_anyOf_10 rfl ?_
        refine s_V2i cv_X7_69 rfl dX7_anyOf_11 xg_X7 rfl (Nat.le_of_ble_eq_true rfl) (hF _ a (z + tk.length) g g2a (by omega)) (fun y11 h11 q11 => ?_)
        obtain ⟨rfl, g2, rfl, hlo1, hg1⟩ := q11
        have hlo : ∀ i, i < z → g2 i = g0 i := fun i hi => (hlo1 i (by omega)).trans (g5 i hi)
        have hg : GDL g2 z ((f a).2.2 ++ tk) := hg1.app (g4.cg (fun i hi => hlo1 i hi))
        refine s_if_ne dX7_anyOf_14 (tgt := 19) (by decide) (fun c14 => ?_) (fun c14 => ?_)
        · replace c14 := b2i_n0.mp c14
          refine s_iload_n (j := 3) dX7_anyOf_19 rfl ?_
          refine s_if_le dX7_anyOf_20 (tgt := 29) (by decide) (fun c20 => ?_) (fun c20 => ?_)
          · obtain rfl : j = 0 := by by_cases e : j = 0; (exact e); (exact absurd c20 (nI_nle (by omega) (by omega)))
            skip
            · skip
              refine s_aload_nr (j := 0) dX7_anyOf_29 rfl ?_
              refine s_bipush (v := 124) dX7_anyOf_30 (by decide) ?_
              refine s_V1i cv_X7_35 rfl dX7_anyOf_32 xg_X7 rfl (Nat.le_of_ble_eq_true rfl) (x_took _ X M D c hc T N hT (f a).2.1 (z + tk.length + (f a).2.2.length) _ (hbd a g2a).2 124 (by decide)) (fun y32 h32 q32 => ?_)
              obtain ⟨rfl, rfl⟩ := q32
              refine s_if_ne dX7_anyOf_35 (tgt := 40) (by decide) (fun c35 => ?_) (fun c35 => ?_)
              · replace c35 := b2i_n0.mp c35
                refine s_iinc (j := 3) (v := _ + (1)) dX7_anyOf_40 rfl rfl (by decide) rfl ?_
                refine s_goto dX7_anyOf_43 (tgt := 2) (by decide) ?_
                refine s_locals [1, 2, 3, 0] rfl ?_
                simp only [nI_1]
                rw [tkA, if_pos c35]
                have e8 := ih r (0 + 1) ((f a).2.1 + 1) ((f a).2.2 ++ tk) g2 (by omega) (by omega) (by have := sg_lt (T := T) (N := N) (a := (f a).2.1) (fun w => by rw [w] at c35; exact absurd c35 (by decide)); omega) (by rw [List.length_append]; show z + _ + 1 ≤ _; omega) hg hlo (by rw [← g6]; rw [lpR, if_pos c14, if_pos c35]; rfl)
                rw [List.length_append, show z + ((f a).2.2.length + tk.length) = z + tk.length + (f a).2.2.length from by omega] at e8
                exact e8
              · replace c35 := b2i_0.mp c35
                refine s_iconst (v := 1) dX7_anyOf_38 (by decide) ?_
                exact e_zret dX7_anyOf_39 rfl (by first | rfl | exact b2i_z | decide) (by rw [← g6, lpR, if_pos c14, if_neg c35]; exact ⟨(b2i_t rfl).symm, g2, by rw [tkA, if_neg c35]; show _ = xh (rdx X c _ (z + ((f a).2.2 ++ tk).length) _) M D; rw [List.length_append, show z + ((f a).2.2.length + tk.length) = z + tk.length + (f a).2.2.length from by omega], hlo, hg⟩)
          · have hj0 : ¬ j = 0 := fun e => c20 (by rw [e]; decide)
            rw [decide_eq_false hj0] at g3
            have g3x : z + tk.length + 1 ≤ a := g3
            refine s_aload_nr (j := 1) dX7_anyOf_23 rfl ?_
            refine s_bipush (v := -3) dX7_anyOf_24 (by decide) ?_
            refine s_V1v cv_X7_72 rfl dX7_anyOf_26 (xg_X0 (c := c) hc) rfl (Nat.le_of_ble_eq_true rfl) (x_add _ X M D c hc T N hT _ (z + tk.length + (f a).2.2.length) g2 (-3) (by have := hbd a g2a; omega)) (fun h26 q26 => ?_)
            obtain rfl := q26
            have hg3 : GDL (upd g2 (z + tk.length + (f a).2.2.length) (-3)) z (-124 :: ((f a).2.2 ++ tk)) := by
              have e9 := GDL.put (t := -124) hg
              rw [List.length_append, show z + ((f a).2.2.length + tk.length) = z + tk.length + (f a).2.2.length from by omega] at e9
              exact e9
            have hlo3 : ∀ i, i < z → upd g2 (z + tk.length + (f a).2.2.length) (-3) i = g0 i := fun i hi => (if_neg (by omega)).trans (hlo i hi)
            · skip
              refine s_aload_nr (j := 0) dX7_anyOf_29 rfl ?_
              refine s_bipush (v := 124) dX7_anyOf_30 (by decide) ?_
              refine s_V1i cv_X7_35 rfl dX7_anyOf_32 xg_X7 rfl (Nat.le_of_ble_eq_true rfl) (x_took _ X M D c hc T N hT (f a).2.1 (z + tk.length + (f a).2.2.length + 1) _ (hbd a g2a).2 124 (by decide)) (fun y32 h32 q32 => ?_)
              obtain ⟨rfl, rfl⟩ := q32
              refine s_if_ne dX7_anyOf_35 (tgt := 40) (by decide) (fun c35 => ?_) (fun c35 => ?_)
              · replace c35 := b2i_n0.mp c35
                refine s_iinc (j := 3) (v := _ + (1)) dX7_anyOf_40 rfl rfl (by decide) rfl ?_
                refine s_goto dX7_anyOf_43 (tgt := 2) (by decide) ?_
                refine s_locals [1, 2, 3, 0] rfl ?_
                simp only [nI_1]
                rw [tkA, if_pos c35]
                have e8 := ih r (j + 1) ((f a).2.1 + 1) (-124 :: ((f a).2.2 ++ tk)) _ (by omega) (by omega) (by have := sg_lt (T := T) (N := N) (a := (f a).2.1) (fun w => by rw [w] at c35; exact absurd c35 (by decide)); omega) (by rw [List.length_cons, List.length_append]; show z + _ + 1 ≤ _; omega) hg3 hlo3 (by rw [← g6, lpR, if_pos c14, if_pos c35, decide_eq_false hj0]; rfl)
                rw [List.length_cons, List.length_append, show z + ((f a).2.2.length + tk.length + 1) = z + tk.length + (f a).2.2.length + 1 from by omega] at e8
                exact e8
              · replace c35 := b2i_0.mp c35
                refine s_iconst (v := 1) dX7_anyOf_38 (by decide) ?_
                exact e_zret dX7_anyOf_39 rfl (by first | rfl | exact b2i_z | decide) (by rw [← g6, lpR, if_pos c14, if_neg c35, decide_eq_false hj0]; exact ⟨(b2i_t rfl).symm, _, by rw [tkA, if_neg c35]; show _ = xh (rdx X c _ (z + (-124 :: ((f a).2.2 ++ tk)).length) _) M D; rw [List.length_cons, List.length_append, show z + ((f a).2.2.length + tk.length + 1) = z + tk.length + (f a).2.2.length + 1 from by omega], hlo3, hg3⟩)
        · replace c14 := b2i_0.mp c14
          refine s_iconst (v := 0) dX7_anyOf_17 (by decide) ?_
          exact e_zret dX7_anyOf_18 rfl (by first | rfl | exact b2i_z | decide) (by rw [← g6, lpR, if_neg c14]; exact ⟨(b2i_f (by simp)).symm, g2, by rw [List.length_append, show z + ((f a).2.2.length + tk.length) = z + tk.length + (f a).2.2.length from by omega], hlo, hg⟩)
  refine s_locals [1, 2, 3, 0] rfl ?_
  exact LP 101 100 0 a0 [] g0 (by decide) (by rfl) ha0 (by show z + 0 + 0 ≤ a0; omega) trivial (fun _ _ => rfl) (by rw [hR]; rfl)
