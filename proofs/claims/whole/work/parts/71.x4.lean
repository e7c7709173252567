theorem xa_lt (X : XZ) (w : Nat) (g : Nat → Int32) (i : Nat) (v : Int32) : xa (xlt X w g) (9 * w + 8) i v = xlt X w (upd g i v) := by
  unfold xa xlt
  dsimp only
  rw [va_up_up, show va_up X.2.1 (9 * w + 8) g (9 * w + 8) = g from if_pos rfl]
theorem XCC.lt {X : XZ} {w c : Nat} (hw : w < 3) {g : Nat → Int32} : ∀ {cl : CLs} {fr i : Nat}, XCC X c fr i cl → XCC (xlt X w g) c fr i cl
  | [], _, _, _ => trivial
  | r :: cl, fr, i, h => by
    obtain ⟨⟨a1, a2, a3, a4, a5⟩, a6⟩ := h
    refine ⟨⟨?_, ?_, ?_, a4, fun j hj => ?_⟩, XCC.lt hw a6⟩
    · rw [xlt_a (by omega)]; exact a1
    · rw [xlt_a (by omega)]; exact a2
    · rw [xlt_a (by omega)]; exact a3
    · rw [xlt_a (by omega)]; exact a5 j hj
theorem XC.lt {X : XZ} {w c : Nat} (hw : w < 3) {g : Nat → Int32} {cl : CLs} (h : XC X c cl) : XC (xlt X w g) c cl := ⟨h.1, XCC.lt hw h.2⟩

set_option maxRecDepth 100000 in
set_option maxHeartbeats 800000 in
theorem x_together (d : Nat) (X : XZ) (M : MZ) (D : HP) {w : Nat} (hw : w < 3) {c : Nat} (hc : c < 6) (K : MZ) (p f s : Int32) (hL : LTR (X.2.1 (9 * w + 8)) K p f) (cl : CLs) (hX : XC X c cl) (hcl : CLW cl) : Con (d + 2) qX0_together 0 0 [.ref (53 + 5 * c), .int s, .ref (1 + 11 * w + 10)] (xh X M D) (XI (tog K s p f cl 0) (xh X M D)) := by
  refine Con.of (by decide +kernel) (Nat.le_of_ble_eq_true rfl) ?_
  show Sem (d + 2) qX0_together 0 0 0 [(0, .ref (53 + 5 * c)), (1, .int s), (2, .ref (1 + 11 * w + 10))] [] (xh X M D) _
  have h10 := hcl.1
  refine s_iconst (v := 0) dX0_together_0 (by decide) ?_
  refine s_istore_n dX0_together_1 (by decide) rfl ?_
  refine s_iconst (v := 0) dX0_together_2 (by decide) ?_
  refine s_istore dX0_together_3 (by decide) rfl ?_
  refine s_iconst (v := 0) dX0_together_5 (by decide) ?_
  refine s_istore dX0_together_6 (by decide) rfl ?_
  have LP : ∀ (n : Nat) (r : Nat) (acc : Int32) (fr i : Nat) (us : CLs), r < n → us.length = r → i + us.length = cl.length → XCC X c fr i us → (∀ r, r ∈ us → (r.1 = 0 ∨ r.1 = 1 ∨ r.1 = 2) ∧ wfs r.2.2 0 ∧ ∀ t, t ∈ r.2.2 → tkf t) → tog K s p f us acc = tog K s p f cl 0 → Sem (d + 2) qX0_together 0 0 8 [(0, .ref (53 + 5 * c)), (1, .int s), (2, .ref (1 + 11 * w + 10)), (3, .int acc), (4, .int (nI fr)), (5, .int (nI i))] [] (xh X M D) (XI (tog K s p f cl 0) (xh X M D)) := by
    intro n
    induction n with
    | zero => intro r acc fr i us hm; exact absurd hm (Nat.not_lt_zero _)
    | succ n ih =>
      intro r acc fr i us hm g1 g2 g3 g4 g5
      refine s_iload (j := 5) dX0_together_8 rfl ?_
      refine s_aload_nr (j := 0) dX0_together_10 rfl ?_
      refine gX_X0_28 (c := c) hc dX0_together_11 rfl ?_
      rw [hX.1]
      refine s_icmp_ge dX0_together_14 (tgt := 70) (by decide) (fun c14 => ?_) (fun c14 => ?_)
      · have e0 : us = [] := List.eq_nil_of_length_eq_zero (by have h9 : ¬ i < cl.length := fun z => absurd (nI_lt z (by omega)) (Int32.not_lt.mpr c14); omega)
        subst e0
        refine s_iload_n (j := 3) dX0_together_70 rfl ?_
        exact e_iret dX0_together_71 rfl (by exact ⟨g5, rfl⟩)
      · obtain ⟨q, us, rfl⟩ : ∃ a b, us = a :: b := by
          cases us with
          | nil => exact absurd (nI_le (a := cl.length) (b := i) (by rw [List.length_nil] at g2; omega) (by omega)) c14
          | cons a b => exact ⟨a, b, rfl⟩
        rw [List.length_cons] at g1 g2
        subst g1
        obtain ⟨hx1, hx2⟩ := g3
        refine s_aload_nr (j := 0) dX0_together_17 rfl ?_
        refine gX_X0_15 (c := c) hc dX0_together_18 rfl ?_
        refine s_iload (j := 5) dX0_together_21 rfl ?_
        refine lX_X0_sums (c := c) hc dX0_together_23 (by exact vp_in_nI (by omega) (by decide)) ?_
        rw [show pz (nI i) = i from nI_clamp (by omega), hx1.1]
        refine s_iload_n (j := 1) dX0_together_24 rfl ?_
        refine s_icmp_ne dX0_together_25 (tgt := 55) (by decide) (fun c25 => ?_) (fun c25 => ?_)
        · refine s_aload_nr (j := 0) dX0_together_55 rfl ?_
          refine gX_X0_21 (c := c) hc dX0_together_56 rfl ?_
          refine s_iload (j := 5) dX0_together_59 rfl ?_
          refine lX_X0_ends (c := c) hc dX0_together_61 (by exact vp_in_nI (by omega) (by decide)) ?_
          rw [show pz (nI i) = i from nI_clamp (by omega), hx1.2.2.1]
          refine s_istore dX0_together_62 (by decide) rfl ?_
          refine s_iinc (j := 5) (v := _ + (1)) dX0_together_64 rfl rfl (by decide) rfl ?_
          refine s_goto dX0_together_67 (tgt := 8) (by decide) ?_
          refine s_locals [2, 3, 4, 5, 1, 0] rfl ?_
          simp only [nI_1]
          exact ih us.length _ _ _ us (by omega) rfl (by omega) hx2 (fun z hz => g4 z (List.mem_cons_of_mem _ hz)) (by rw [← g5, tog, if_neg c25])
        · refine s_aload_nr (j := 0) dX0_together_28 rfl ?_
          refine s_iload (j := 4) dX0_together_29 rfl ?_
          refine s_aload_nr (j := 0) dX0_together_31 rfl ?_
          refine gX_X0_21 (c := c) hc dX0_together_32 rfl ?_
          refine s_iload (j := 5) dX0_together_35 rfl ?_
          refine lX_X0_ends (c := c) hc dX0_together_37 (by exact vp_in_nI (by omega) (by decide)) ?_
          rw [show pz (nI i) = i from nI_clamp (by omega), hx1.2.2.1]
          refine s_aload_nr (j := 2) dX0_together_38 rfl ?_
          refine s_V3i cv_X0_31 rfl dX0_together_39 (xg_X0 (c := c) hc) rfl (Nat.le_of_ble_eq_true rfl) (x_holds _ X M D hw hc K p f hL fr q.2.2 hx1.2.2.2.1 (g4 q List.mem_cons_self).2.1 (g4 q List.mem_cons_self).2.2 hx1.2.2.2.2) (fun y39 h39 q39 => ?_)
          obtain ⟨rfl, rfl⟩ := q39
          refine s_if_eq dX0_together_42 (tgt := 55) (by decide) (fun c42 => ?_) (fun c42 => ?_)
          · replace c42 := b2i_0.mp c42
            refine s_aload_nr (j := 0) dX0_together_55 rfl ?_
            refine gX_X0_21 (c := c) hc dX0_together_56 rfl ?_
            refine s_iload (j := 5) dX0_together_59 rfl ?_
            refine lX_X0_ends (c := c) hc dX0_together_61 (by exact vp_in_nI (by omega) (by decide)) ?_
            rw [show pz (nI i) = i from nI_clamp (by omega), hx1.2.2.1]
            refine s_istore dX0_together_62 (by decide) rfl ?_
            refine s_iinc (j := 5) (v := _ + (1)) dX0_together_64 rfl rfl (by decide) rfl ?_
            refine s_goto dX0_together_67 (tgt := 8) (by decide) ?_
            refine s_locals [2, 3, 4, 5, 1, 0] rfl ?_
            simp only [nI_1]
            exact ih us.length _ _ _ us (by omega) rfl (by omega) hx2 (fun z hz => g4 z (List.mem_cons_of_mem _ hz)) (by rw [← g5, tog, if_pos (show _ = s from c25), if_neg c42])
          · replace c42 := b2i_n0.mp c42
            refine s_iload_n (j := 3) dX0_together_45 rfl ?_
            refine s_aload_nr (j := 0) dX0_together_46 rfl ?_
            refine gX_X0_18 (c := c) hc dX0_together_47 rfl ?_
            refine s_iload (j := 5) dX0_together_50 rfl ?_
            refine lX_X0_amounts (c := c) hc dX0_together_52 (by exact vp_in_nI (by omega) (by decide)) ?_
            rw [show pz (nI i) = i from nI_clamp (by omega), hx1.2.1]
            refine s_iadd dX0_together_53 ?_
            refine s_istore_n dX0_together_54 (by decide) rfl ?_
            refine s_aload_nr (j := 1) dX0_together_55 rfl ?_
            refine gX_X0_21 (c := c) hc dX0_together_56 rfl ?_
            refine s_iload (j := 5) dX0_together_59 rfl ?_
            refine lX_X0_ends (c := c) hc dX0_together_61 (by exact vp_in_nI (by omega) (by decide)) ?_
            rw [show pz (nI i) = i from nI_clamp (by omega), hx1.2.2.1]
            refine s_istore dX0_together_62 (by decide) rfl ?_
            refine s_iinc (j := 5) (v := _ + (1)) dX0_together_64 rfl rfl (by decide) rfl ?_
            refine s_goto dX0_together_67 (tgt := 8) (by decide) ?_
            refine s_locals [3, 4, 5, 2, 1, 0] rfl ?_
            simp only [nI_1]
            exact ih us.length _ _ _ us (by omega) rfl (by omega) hx2 (fun z hz => g4 z (List.mem_cons_of_mem _ hz)) (by rw [← g5, tog, if_pos (show _ = s from c25), if_pos c42])
  refine s_locals [3, 4, 5, 2, 1, 0] rfl ?_
  exact LP (cl.length + 1) cl.length 0 0 0 cl (Nat.lt_succ_self _) rfl (Nat.zero_add _) hX.2 hcl.2 rfl

set_option maxRecDepth 100000 in
set_option maxHeartbeats 800000 in
theorem x_letters (d : Nat) (X : XZ) (M : MZ) (D : HP) {w : Nat} (hw : w < 3) {K : MZ} (hR : SR X D w K) {n : Nat} {p v : Int32} (hs : SV D n (K.2.1 0 (pz p)) p v) (f : Int32) : Con d qX4_lettersOf 0 0 [.ref (1 + 11 * w), .ref n, .int f] (xh X M D) (PR fun y h => y = .ref (1 + 11 * w + 10) ∧ ∃ g, LTR g K p f ∧ h = xh (xlt X w g) M D) := by
  refine Con.of (by decide +kernel) (Nat.le_of_ble_eq_true rfl) ?_
  show Sem d qX4_lettersOf 0 0 0 [(0, .ref (1 + 11 * w)), (1, .ref n), (2, .int f)] [] (xh X M D) _
  refine s_heq (congrArg (fun z => xh z M D) (xlt_id X w).symm) ?_
  refine s_aload_nr (j := 0) dX4_lettersOf_0 rfl ?_
  refine gX_X4_56 (w := w) hw dX4_lettersOf_1 rfl ?_
  refine s_iconst (v := 0) dX4_lettersOf_4 (by decide) ?_
  refine s_aload_nr (j := 1) dX4_lettersOf_5 rfl ?_
  refine gS_X4_84 hs dX4_lettersOf_6 rfl ?_
  refine sX_X4_letters (w := w) hw dX4_lettersOf_9 (by unfold vp_in; decide) ?_
  rw [xa_lt]
  refine s_aload_nr (j := 0) dX4_lettersOf_10 rfl ?_
  refine gX_X4_56 (w := w) hw dX4_lettersOf_11 rfl ?_
  refine s_iconst (v := 1) dX4_lettersOf_14 (by decide) ?_
  refine s_aload_nr (j := 1) dX4_lettersOf_15 rfl ?_
  refine gS_X4_117 hs dX4_lettersOf_16 rfl ?_
  refine sX_X4_letters (w := w) hw dX4_lettersOf_19 (by unfold vp_in; decide) ?_
  rw [xa_lt]
  refine s_aload_nr (j := 0) dX4_lettersOf_20 rfl ?_
  refine gX_X4_56 (w := w) hw dX4_lettersOf_21 rfl ?_
  refine s_iconst (v := 2) dX4_lettersOf_24 (by decide) ?_
  refine s_iload_n (j := 2) dX4_lettersOf_25 rfl ?_
  refine sX_X4_letters (w := w) hw dX4_lettersOf_26 (by unfold vp_in; decide) ?_
  rw [xa_lt]
  refine s_aload_nr (j := 0) dX4_lettersOf_27 rfl ?_
  refine gX_X4_56 (w := w) hw dX4_lettersOf_28 rfl ?_
  refine s_iconst (v := 3) dX4_lettersOf_31 (by decide) ?_
  refine s_aload_nr (j := 0) dX4_lettersOf_32 rfl ?_
  refine gX_X4_30 (w := w) hw dX4_lettersOf_33 rfl ?_
  refine sX_X4_letters (w := w) hw dX4_lettersOf_36 (by unfold vp_in; decide) ?_
  rw [xa_lt]
  refine s_aload_nr (j := 0) dX4_lettersOf_37 rfl ?_
  refine gX_X4_56 (w := w) hw dX4_lettersOf_38 rfl ?_
  refine s_iconst (v := 4) dX4_lettersOf_41 (by decide) ?_
  refine s_aload_nr (j := 0) dX4_lettersOf_42 rfl ?_
  refine gX_X4_68 (w := w) hw dX4_lettersOf_43 rfl ?_
  refine sX_X4_letters (w := w) hw dX4_lettersOf_46 (by unfold vp_in; decide) ?_
  rw [xa_lt]
  refine s_aload_nr (j := 0) dX4_lettersOf_47 rfl ?_
  refine gX_X4_56 (w := w) hw dX4_lettersOf_48 rfl ?_
  refine s_iconst (v := 5) dX4_lettersOf_51 (by decide) ?_
  refine s_aload_nr (j := 0) dX4_lettersOf_52 rfl ?_
  refine gX_X4_71 (w := w) hw dX4_lettersOf_53 rfl ?_
  refine sX_X4_letters (w := w) hw dX4_lettersOf_56 (by unfold vp_in; decide) ?_
  rw [xa_lt]
  refine s_aload_nr (j := 0) dX4_lettersOf_57 rfl ?_
  refine gX_X4_56 (w := w) hw dX4_lettersOf_58 rfl ?_
  exact e_aret dX4_lettersOf_61 rfl (Or.inr ⟨_, rfl⟩) (by first | exact Or.inl rfl | exact Or.inr (Or.inl ⟨_, rfl⟩)) (by exact ⟨rfl, _, ⟨rfl, rfl, rfl, hR.1.2.2.2.1, hR.1.2.1, hR.1.2.2.1⟩, rfl⟩)
