theorem fE_bd {T : Nat → Int32} {N n a : Nat} (ha : a ≤ N) : (fE T N n a).2.2.length + a ≤ (fE T N n a).2.1 ∧ (fE T N n a).2.1 ≤ N := by
  have hT : ∀ b, b ≤ N → (fT T N n b).2.2.length + b ≤ (fT T N n b).2.1 ∧ (fT T N n b).2.1 ≤ N := fun b hb => by
    have := lpR_bd (T := T) (s := 38) (op := -38) (by decide) (fF_bd (T := T) (N := N) n) 100 true b b [] hb (by simp)
    exact ⟨by rw [Nat.add_comm]; exact this.1, this.2⟩
  have h4 := lpR_bd (T := T) (s := 124) (op := -124) (by decide) hT 100 true a a [] ha (by simp)
  exact ⟨by rw [Nat.add_comm]; exact h4.1, h4.2⟩
theorem fT_bd {T : Nat → Int32} {N n a : Nat} (ha : a ≤ N) : (fT T N n a).2.2.length + a ≤ (fT T N n a).2.1 ∧ (fT T N n a).2.1 ≤ N := by
  have := lpR_bd (T := T) (s := 38) (op := -38) (by decide) (fF_bd (T := T) (N := N) n) 100 true a a [] ha (by simp)
  exact ⟨by rw [Nat.add_comm]; exact this.1, this.2⟩

set_option maxRecDepth 100000 in
set_option maxHeartbeats 800000 in
theorem x_factor0 (d : Nat) (X : XZ) (M : MZ) (D : HP) (c : Nat) (hc : c < 6) (T : Nat → Int32) (N : Nat) (hT : TX X T N) (a z : Nat) (g : Nat → Int32) (ha : a ≤ N) (hz : z ≤ a) : Con (d + 5) qX7_factor 0 0 [.ref 34, .ref (53 + 5 * c), .int 4] (xh (rdx X c a z g) M D) (RES X M D c (teR T N a) z g) := by
  refine Con.of (by decide +kernel) (Nat.le_of_ble_eq_true rfl) ?_
  show Sem (d + 5) qX7_factor 0 0 0 [(0, .ref 34), (1, .ref (53 + 5 * c)), (2, .int 4)] [] (xh (rdx X c a z g) M D) _
  unfold RES
  refine s_iload_n (j := 2) dX7_factor_0 rfl ?_
  refine s_iconst (v := 4) dX7_factor_1 (by decide) ?_
  refine s_icmp_ge dX7_factor_2 (tgt := 40) (by decide) (fun c2 => ?_) (fun c2 => ?_)
  · refine s_iload_n (j := 2) dX7_factor_40 rfl ?_
    refine s_iconst (v := 4) dX7_factor_41 (by decide) ?_
    refine s_icmp_ge dX7_factor_42 (tgt := 70) (by decide) (fun c42 => ?_) (fun c42 => ?_)
    · refine s_aload_nr (j := 0) dX7_factor_70 rfl ?_
      refine s_aload_nr (j := 1) dX7_factor_71 rfl ?_
      refine s_V1i cv_X7_79 rfl dX7_factor_72 xg_X7 rfl (Nat.le_of_ble_eq_true rfl) (x_test _ X M D c hc T N hT a z g ha hz) (fun y72 h72 q72 => ?_)
      obtain ⟨rfl, q72b⟩ := q72
      exact e_zret dX7_factor_75 rfl (by first | rfl | exact b2i_z | decide) (by exact ⟨rfl, q72b⟩)
    · exact absurd (by decide) c42
  · exact absurd (by decide) c2

set_option maxRecDepth 100000 in
set_option maxHeartbeats 800000 in
theorem x_factorS (d : Nat) (X : XZ) (M : MZ) (D : HP) (c : Nat) (hc : c < 6) (T : Nat → Int32) (N : Nat) (hT : TX X T N) (a z : Nat) (g : Nat → Int32) (ha : a ≤ N) (hz : z ≤ a) (n : Nat) (hn : n < 4) (hF : ∀ (d a z : Nat) (g : Nat → Int32), a ≤ N → z ≤ a → Con (d + 3 * n + 5) qX7_factor 0 0 [.ref 34, .ref (53 + 5 * c), .int (nI (4 - n))] (xh (rdx X c a z g) M D) (RES X M D c (fF T N n a) z g)) (hE : ∀ (d a z : Nat) (g : Nat → Int32), a ≤ N → z ≤ a → Con (d + 3 * n + 7) qX7_anyOf 0 0 [.ref 34, .ref (53 + 5 * c), .int (nI (4 - n))] (xh (rdx X c a z g) M D) (RES X M D c (fE T N n a) z g)) : Con (d + 3 * n + 8) qX7_factor 0 0 [.ref 34, .ref (53 + 5 * c), .int (nI (4 - (n + 1)))] (xh (rdx X c a z g) M D) (RES X M D c (fF T N (n + 1) a) z g) := by
  refine Con.of (by decide +kernel) (Nat.le_of_ble_eq_true rfl) ?_
  show Sem (d + 3 * n + 8) qX7_factor 0 0 0 [(0, .ref 34), (1, .ref (53 + 5 * c)), (2, .int (nI (4 - (n + 1))))] [] (xh (rdx X c a z g) M D) _
  have hF2 : ∀ (a z : Nat) (g : Nat → Int32), a ≤ N → z ≤ a → Con (d + 3 * n + 7) qX7_factor 0 0 [.ref 34, .ref (53 + 5 * c), .int (nI (4 - n))] (xh (rdx X c a z g) M D) (RES X M D c (fF T N n a) z g) := fun a z g h1 h2 => by
    have e := hF (d + 2) a z g h1 h2
    rw [show d + 2 + 3 * n + 5 = d + 3 * n + 7 from by omega] at e
    exact e
  have hE2 := fun a z g h1 h2 => hE d a z g h1 h2
  clear hF hE
  unfold RES
  unfold RES at hF2 hE2
  have hN1 := hT.2.1
  refine s_iload_n (j := 2) dX7_factor_0 rfl ?_
  refine s_iconst (v := 4) dX7_factor_1 (by decide) ?_
  refine s_icmp_ge dX7_factor_2 (tgt := 40) (by decide) (fun c2 => ?_) (fun c2 => ?_)
  · exact absurd (show nI (4 - (n + 1)) < 4 from nI_lt (b := 4) (by omega) (by decide)) (Int32.not_lt.mpr c2)
  · refine s_aload_nr (j := 0) dX7_factor_5 rfl ?_
    refine s_bipush (v := 40) dX7_factor_6 (by decide) ?_
    refine s_V1i cv_X7_35 rfl dX7_factor_8 xg_X7 rfl (Nat.le_of_ble_eq_true rfl) (x_took _ X M D c hc T N hT a z g ha 40 (by decide)) (fun y8 h8 q8 => ?_)
    obtain ⟨rfl, rfl⟩ := q8
    refine s_if_eq dX7_factor_11 (tgt := 40) (by decide) (fun c11 => ?_) (fun c11 => ?_)
    · replace c11 := b2i_0.mp c11
      rw [tkA, if_neg c11]
      · skip
        refine s_iload_n (j := 2) dX7_factor_40 rfl ?_
        refine s_iconst (v := 4) dX7_factor_41 (by decide) ?_
        refine s_icmp_ge dX7_factor_42 (tgt := 70) (by decide) (fun c42 => ?_) (fun c42 => ?_)
        · exact absurd (show nI (4 - (n + 1)) < 4 from nI_lt (b := 4) (by omega) (by decide)) (Int32.not_lt.mpr c42)
        · refine s_aload_nr (j := 0) dX7_factor_45 rfl ?_
          refine s_bipush (v := 33) dX7_factor_46 (by decide) ?_
          refine s_V1i cv_X7_35 rfl dX7_factor_48 xg_X7 rfl (Nat.le_of_ble_eq_true rfl) (x_took _ X M D c hc T N hT a z g ha 33 (by decide)) (fun y48 h48 q48 => ?_)
          obtain ⟨rfl, rfl⟩ := q48
          refine s_if_eq dX7_factor_51 (tgt := 70) (by decide) (fun c51 => ?_) (fun c51 => ?_)
          · replace c51 := b2i_0.mp c51
            rw [tkA, if_neg c51]
            · skip
              refine s_aload_nr (j := 0) dX7_factor_70 rfl ?_
              refine s_aload_nr (j := 1) dX7_factor_71 rfl ?_
              refine s_V1i cv_X7_79 rfl dX7_factor_72 xg_X7 rfl (Nat.le_of_ble_eq_true rfl) (x_test _ X M D c hc T N hT a z g ha hz) (fun y72 h72 q72 => ?_)
              obtain ⟨rfl, q72b⟩ := q72
              exact e_zret dX7_factor_75 rfl (by first | rfl | exact b2i_z | decide) (by rw [fF_s]; rw [if_neg c11, if_neg c51]; exact ⟨rfl, q72b⟩)
          · have c51x := b2i_n0.mp c51
            have hlt : a < N := sg_lt (fun w => by rw [w] at c51x; exact absurd c51x (by decide))
            replace c51 := b2i_n0.mp c51
            rw [tkA, if_pos c51]
            refine s_aload_nr (j := 0) dX7_factor_54 rfl ?_
            refine s_aload_nr (j := 1) dX7_factor_55 rfl ?_
            refine s_iload_n (j := 2) dX7_factor_56 rfl ?_
            refine s_iconst (v := 1) dX7_factor_57 (by decide) ?_
            refine s_iadd dX7_factor_58 ?_
            rw [nI_1, show 4 - (n + 1) + 1 = 4 - n from by omega]
            refine s_V2i cv_X7_76 rfl dX7_factor_59 xg_X7 rfl (Nat.le_of_ble_eq_true rfl) (hF2 (a + 1) z g (by omega) (by omega)) (fun y59 h59 q59 => ?_)
            obtain ⟨rfl, g2, rfl, hlo, hg⟩ := q59
            refine s_istore_n dX7_factor_62 (by decide) rfl ?_
            refine s_aload_nr (j := 2) dX7_factor_63 rfl ?_
            refine s_iconst (v := -1) dX7_factor_64 (by decide) ?_
            refine s_V1v cv_X7_72 rfl dX7_factor_65 (xg_X0 (c := c) hc) rfl (Nat.le_of_ble_eq_true rfl) (x_add _ X M D c hc T N hT _ (z + (fF T N n (a + 1)).2.2.length) g2 (-1) (by have := fF_bd (T := T) (N := N) n (a + 1) (by omega); omega)) (fun h65 q65 => ?_)
            obtain rfl := q65
            refine s_iload_n (j := 0) dX7_factor_68 rfl ?_
            exact e_zret dX7_factor_69 rfl (by first | rfl | exact b2i_z | decide) (by rw [fF_s]; rw [if_neg c11, if_pos c51]; exact ⟨rfl, _, rfl, fun i hi => (if_neg (by omega)).trans (hlo i hi), GDL.put (t := -33) hg⟩)
    · have c11x := b2i_n0.mp c11
      have hlt : a < N := sg_lt (fun w => by rw [w] at c11x; exact absurd c11x (by decide))
      replace c11 := b2i_n0.mp c11
      rw [tkA, if_pos c11]
      refine s_aload_nr (j := 0) dX7_factor_14 rfl ?_
      refine s_aload_nr (j := 1) dX7_factor_15 rfl ?_
      refine s_iload_n (j := 2) dX7_factor_16 rfl ?_
      refine s_iconst (v := 1) dX7_factor_17 (by decide) ?_
      refine s_iadd dX7_factor_18 ?_
      rw [nI_1, show 4 - (n + 1) + 1 = 4 - n from by omega]
      refine s_V2i cv_X7_61 rfl dX7_factor_19 xg_X7 rfl (Nat.le_of_ble_eq_true rfl) (hE2 (a + 1) z g (by omega) (by omega)) (fun y19 h19 q19 => ?_)
      obtain ⟨rfl, g2, rfl, hlo, hg⟩ := q19
      refine s_if_eq dX7_factor_22 (tgt := 38) (by decide) (fun c22 => ?_) (fun c22 => ?_)
      · replace c22 := b2i_0.mp c22
        refine s_iconst (v := 0) dX7_factor_38 (by decide) ?_
        exact e_zret dX7_factor_39 rfl (by first | rfl | exact b2i_z | decide) (by rw [fF_s]; rw [if_pos c11, if_neg (fun w => c22 w.1)]; exact ⟨(b2i_f (by simp)).symm, g2, rfl, hlo, hg⟩)
      · replace c22 := b2i_n0.mp c22
        refine s_aload_nr (j := 0) dX7_factor_25 rfl ?_
        refine s_bipush (v := 41) dX7_factor_26 (by decide) ?_
        refine s_V1i cv_X7_35 rfl dX7_factor_28 xg_X7 rfl (Nat.le_of_ble_eq_true rfl) (x_took _ X M D c hc T N hT _ _ g2 (fE_bd (by omega)).2 41 (by decide)) (fun y28 h28 q28 => ?_)
        obtain ⟨rfl, rfl⟩ := q28
        refine s_if_eq dX7_factor_31 (tgt := 38) (by decide) (fun c31 => ?_) (fun c31 => ?_)
        · replace c31 := b2i_0.mp c31
          refine s_iconst (v := 0) dX7_factor_38 (by decide) ?_
          exact e_zret dX7_factor_39 rfl (by first | rfl | exact b2i_z | decide) (by rw [fF_s]; rw [if_pos c11, if_neg (fun w => c31 w.2)]; exact ⟨(b2i_f (by simp)).symm, g2, by rw [tkA, if_neg c31], hlo, hg⟩)
        · replace c31 := b2i_n0.mp c31
          refine s_iconst (v := 1) dX7_factor_34 (by decide) ?_
          refine s_goto dX7_factor_35 (tgt := 39) (by decide) ?_
          exact e_zret dX7_factor_39 rfl (by first | rfl | exact b2i_z | decide) (by rw [fF_s]; rw [if_pos c11, if_pos ⟨c22, c31⟩]; exact ⟨(b2i_t rfl).symm, g2, by rw [tkA, if_pos c31], hlo, hg⟩)

theorem x_factor (X : XZ) (M : MZ) (D : HP) (c : Nat) (hc : c < 6) (T : Nat → Int32) (N : Nat) (hT : TX X T N) : ∀ (n : Nat), n ≤ 4 → ∀ (d a z : Nat) (g : Nat → Int32), a ≤ N → z ≤ a → Con (d + 3 * n + 5) qX7_factor 0 0 [.ref 34, .ref (53 + 5 * c), .int (nI (4 - n))] (xh (rdx X c a z g) M D) (RES X M D c (fF T N n a) z g)
  | 0, _, d, a, z, g, ha, hz => x_factor0 d X M D c hc T N hT a z g ha hz
  | n + 1, hn, d, a, z, g, ha, hz => by
    have hF := x_factor X M D c hc T N hT n (by omega)
    have hE : ∀ (d a z : Nat) (g : Nat → Int32), a ≤ N → z ≤ a → Con (d + 3 * n + 7) qX7_anyOf 0 0 [.ref 34, .ref (53 + 5 * c), .int (nI (4 - n))] (xh (rdx X c a z g) M D) (RES X M D c (fE T N n a) z g) := fun d a z g ha hz =>
      x_anyOf d X M D c hc T N hT (3 * n) _ (fT T N n) (fun b hb => fT_bd hb) a z g ha hz (fun d a z g ha hz => x_allOf d X M D c hc T N hT (3 * n) _ (fF T N n) (fun b hb => fF_bd n b hb) a z g ha hz hF _ rfl) _ rfl
    have e : d + 3 * (n + 1) + 5 = d + 3 * n + 8 := by omega
    rw [e]
    exact x_factorS d X M D c hc T N hT a z g ha hz n (by omega) hF hE
theorem x_E (d : Nat) (X : XZ) (M : MZ) (D : HP) (c : Nat) (hc : c < 6) (T : Nat → Int32) (N : Nat) (hT : TX X T N) (a z : Nat) (g : Nat → Int32) (ha : a ≤ N) (hz : z ≤ a) : Con (d + 19) qX7_anyOf 0 0 [.ref 34, .ref (53 + 5 * c), .int 0] (xh (rdx X c a z g) M D) (RES X M D c (fE T N 4 a) z g) :=
  x_anyOf d X M D c hc T N hT (3 * 4) _ (fT T N 4) (fun b hb => fT_bd hb) a z g ha hz (fun d a z g ha hz => x_allOf d X M D c hc T N hT (3 * 4) _ (fF T N 4) (fun b hb => fF_bd 4 b hb) a z g ha hz (x_factor X M D c hc T N hT 4 (by decide)) _ rfl) _ rfl
