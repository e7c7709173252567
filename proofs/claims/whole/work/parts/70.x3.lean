set_option maxRecDepth 100000 in
set_option maxHeartbeats 800000 in
theorem x_holds (d : Nat) (X : XZ) (M : MZ) (D : HP) {w : Nat} (hw : w < 3) {c : Nat} (hc : c < 6) (K : MZ) (p f : Int32) (hL : LTR (X.2.1 (9 * w + 8)) K p f) (fr : Nat) (ts : List Int32) (hfr : fr + ts.length ≤ 100) (hw0 : wfs ts 0) (ht : ∀ t, t ∈ ts → tkf t) (hcd : ∀ i, i < ts.length → X.2.1 (40 + 4 * c + 0) (fr + i) = tkX (ts.getD i 0)) : Con (d + 1) qX0_holds 0 0 [.ref (53 + 5 * c), .int (nI fr), .int (nI (fr + ts.length)), .ref (1 + 11 * w + 10)] (xh X M D) (XI (b2i (hol K p f ts = true)) (xh X M D)) := by
  refine Con.of (by decide +kernel) (Nat.le_of_ble_eq_true rfl) ?_
  show Sem (d + 1) qX0_holds 0 0 0 [(0, .ref (53 + 5 * c)), (1, .int (nI fr)), (2, .int (nI (fr + ts.length))), (3, .ref (1 + 11 * w + 10))] [] (xh X M D) _
  refine s_iconst (v := 0) dX0_holds_0 (by decide) ?_
  refine s_istore dX0_holds_1 (by decide) rfl ?_
  refine s_iload_n (j := 2) dX0_holds_3 rfl ?_
  refine s_istore dX0_holds_4 (by decide) rfl ?_
  have LP : ∀ (n : Nat) (r : Nat) (x : Int32) (j : Nat) (us : List Int32) (sk : List Bool), r < n → us.length = r → j + us.length = fr + ts.length → BT x sk → wfs us sk.length → (∀ t, t ∈ us → tkf t) → (∀ i, i < us.length → X.2.1 (40 + 4 * c + 0) (j + i) = tkX (us.getD i 0)) → evs K p f us sk = evs K p f ts [] → sk.length ≤ 31 → Sem (d + 1) qX0_holds 0 0 6 [(0, .ref (53 + 5 * c)), (1, .int (nI fr)), (2, .int (nI (fr + ts.length))), (3, .ref (1 + 11 * w + 10)), (4, .int x), (5, .int (nI j))] [] (xh X M D) (XI (b2i (hol K p f ts = true)) (xh X M D)) := by
    intro n
    induction n with
    | zero => intro r x j us sk hm; exact absurd hm (Nat.not_lt_zero _)
    | succ n ih =>
      intro r x j us sk hm g1 g2 g3 g4 g5 g6 g8 g7
      refine s_iload (j := 5) dX0_holds_6 rfl ?_
      refine s_iload_n (j := 2) dX0_holds_8 rfl ?_
      refine s_icmp_ge dX0_holds_9 (tgt := 121) (by decide) (fun c9 => ?_) (fun c9 => ?_)
      · have e0 : us = [] := List.eq_nil_of_length_eq_zero (by have h9 : ¬ j < fr + ts.length := fun z => absurd (nI_lt z (by omega)) (Int32.not_lt.mpr c9); omega)
        subst e0
        refine s_iload (j := 4) dX0_holds_121 rfl ?_
        refine s_iconst (v := 1) dX0_holds_123 (by decide) ?_
        refine s_iand dX0_holds_124 ?_
        refine s_iconst (v := 1) dX0_holds_125 (by decide) ?_
        refine s_icmp_ne dX0_holds_126 (tgt := 133) (by decide) (fun c126 => ?_) (fun c126 => ?_)
        · refine s_iconst (v := 0) dX0_holds_133 (by decide) ?_
          exact e_zret dX0_holds_134 rfl (by first | rfl | exact b2i_z | decide) (by exact ⟨(b2i_f (fun z => c126 ((g3.fin g4).mpr (by rw [← z]; show _ = (evs K p f ts []).headD false; rw [← g8]; rfl)))).symm, rfl⟩)
        · refine s_iconst (v := 1) dX0_holds_129 (by decide) ?_
          refine s_goto dX0_holds_130 (tgt := 134) (by decide) ?_
          exact e_zret dX0_holds_134 rfl (by first | rfl | exact b2i_z | decide) (by exact ⟨(b2i_t (by show (evs K p f ts []).headD false = true; rw [← g8]; exact (g3.fin g4).mp c126)).symm, rfl⟩)
      · obtain ⟨t, us, rfl⟩ : ∃ a b, us = a :: b := by
          cases us with
          | nil => exact absurd (nI_le (a := fr + ts.length) (b := j) (by rw [List.length_nil] at g2; omega) (by omega)) c9
          | cons a b => exact ⟨a, b, rfl⟩
        rw [List.length_cons] at g1 g2
        have hcode : X.2.1 (40 + 4 * c + 0) (pz (nI j)) = tkX t := by rw [show pz (nI j) = j from nI_clamp (by omega)]; exact g6 0 (by simp)
        subst g1
        have ht9 := g5 t List.mem_cons_self
        have hq := tkX_c ht9
        refine s_iload (j := 4) dX0_holds_12 rfl ?_
        refine s_iconst (v := 1) dX0_holds_14 (by decide) ?_
        refine s_iand dX0_holds_15 ?_
        refine s_istore dX0_holds_16 (by decide) rfl ?_
        refine s_aload_nr (j := 1) dX0_holds_18 rfl ?_
        refine gX_X0_9 (c := c) hc dX0_holds_19 rfl ?_
        refine s_iload (j := 6) dX0_holds_22 rfl ?_
        refine lX_X0_code (c := c) hc dX0_holds_24 (by exact vp_in_nI (by omega) (by decide)) ?_
        rw [hcode]
        refine s_iconst (v := -1) dX0_holds_25 (by decide) ?_
        refine s_icmp_ne dX0_holds_26 (tgt := 38) (by decide) (fun c26 => ?_) (fun c26 => ?_)
        · refine s_aload_nr (j := 1) dX0_holds_38 rfl ?_
          refine gX_X0_9 (c := c) hc dX0_holds_39 rfl ?_
          refine s_iload (j := 6) dX0_holds_42 rfl ?_
          refine lX_X0_code (c := c) hc dX0_holds_44 (by exact vp_in_nI (by omega) (by decide)) ?_
          rw [hcode]
          refine s_bipush (v := -2) dX0_holds_45 (by decide) ?_
          refine s_icmp_ne dX0_holds_47 (tgt := 65) (by decide) (fun c47 => ?_) (fun c47 => ?_)
          · refine s_aload_nr (j := 1) dX0_holds_65 rfl ?_
            refine gX_X0_9 (c := c) hc dX0_holds_66 rfl ?_
            refine s_iload (j := 6) dX0_holds_69 rfl ?_
            refine lX_X0_code (c := c) hc dX0_holds_71 (by exact vp_in_nI (by omega) (by decide)) ?_
            rw [hcode]
            refine s_bipush (v := -3) dX0_holds_72 (by decide) ?_
            refine s_icmp_ne dX0_holds_74 (tgt := 89) (by decide) (fun c74 => ?_) (fun c74 => ?_)
            · obtain ⟨m, tf, tc, tn, hf9, hc9, hn9, em, rfl⟩ : ∃ m tf tc tn : Nat, tf < 6 ∧ tc < 3 ∧ tn < 100 ∧ m = 1000 * tf + 100 * tc + tn ∧ t = nI m := by
                rcases ht9 with z | z | z | ⟨a1, a2, a3, a4, a5, a6, a7⟩
                · exact absurd (hq.1.mpr z) c26
                · exact absurd (hq.2.1.mpr z) c47
                · exact absurd (hq.2.2.mpr z) c74
                · exact ⟨_, a1, a2, a3, a4, a5, a6, rfl, a7⟩
              have e2 := st_push (by omega) g4
              refine s_iload (j := 5) dX0_holds_89 rfl ?_
              refine s_iconst (v := 1) dX0_holds_91 (by decide) ?_
              refine s_ishl dX0_holds_92 ?_
              refine s_aload_nr (j := 1) dX0_holds_93 rfl ?_
              refine gX_X0_9 (c := c) hc dX0_holds_94 rfl ?_
              refine s_iload (j := 6) dX0_holds_97 rfl ?_
              refine lX_X0_code (c := c) hc dX0_holds_99 (by exact vp_in_nI (by omega) (by decide)) ?_
              rw [hcode, em, tkX_n hf9 hc9 hn9]
              refine s_aload_nr (j := 4) dX0_holds_100 rfl ?_
              refine s_S2i cs_X0_35 rfl dX0_holds_101 (Nat.le_of_ble_eq_true rfl) (x_passes _ X M D hw K p f hL tf tc tn hf9 hc9 hn9) (fun y101 h101 q101 => ?_)
              obtain ⟨rfl, rfl⟩ := q101
              refine s_if_eq dX0_holds_104 (tgt := 111) (by decide) (fun c104 => ?_) (fun c104 => ?_)
              · replace c104 := b2i_0.mp c104
                refine s_iconst (v := 0) dX0_holds_111 (by decide) ?_
                refine s_ior dX0_holds_112 ?_
                refine s_istore dX0_holds_113 (by decide) rfl ?_
                refine s_iinc (j := 6) (v := _ + (1)) dX0_holds_115 rfl rfl (by decide) rfl ?_
                refine s_goto dX0_holds_118 (tgt := 6) (by decide) ?_
                refine s_locals [3, 4, 5, 6, 1, 0] rfl ?_
                simp only [nI_1]
                exact ih us.length _ (j + 1) us (tst K p f (nI m) :: sk) (by omega) rfl (by omega) (g3.push (by omega) (show (0 : Int32) = bz (tst K p f (nI m)) from by rw [em, Bool.eq_false_iff.mpr c104]; rfl)) e2.2 (fun u hu => g5 u (List.mem_cons_of_mem _ hu)) (fun i hi => by rw [show j + 1 + i = j + (i + 1) by omega]; exact g6 (i + 1) (by rw [List.length_cons]; omega)) (by rw [← g8]; show _ = evs K p f us (stp K p f (nI m) sk); rw [stp_n K p f (by omega)]) (by rw [List.length_cons]; omega)
              · replace c104 := b2i_n0.mp c104
                refine s_iconst (v := 1) dX0_holds_107 (by decide) ?_
                refine s_goto dX0_holds_108 (tgt := 112) (by decide) ?_
                refine s_ior dX0_holds_112 ?_
                refine s_istore dX0_holds_113 (by decide) rfl ?_
                refine s_iinc (j := 6) (v := _ + (1)) dX0_holds_115 rfl rfl (by decide) rfl ?_
                refine s_goto dX0_holds_118 (tgt := 6) (by decide) ?_
                refine s_locals [3, 4, 5, 6, 1, 0] rfl ?_
                simp only [nI_1]
                exact ih us.length _ (j + 1) us (tst K p f (nI m) :: sk) (by omega) rfl (by omega) (g3.push (by omega) (show (1 : Int32) = bz (tst K p f (nI m)) from by rw [em, c104]; rfl)) e2.2 (fun u hu => g5 u (List.mem_cons_of_mem _ hu)) (fun i hi => by rw [show j + 1 + i = j + (i + 1) by omega]; exact g6 (i + 1) (by rw [List.length_cons]; omega)) (by rw [← g8]; show _ = evs K p f us (stp K p f (nI m) sk); rw [stp_n K p f (by omega)]) (by rw [List.length_cons]; omega)
            · refine s_iload (j := 5) dX0_holds_77 rfl ?_
              refine s_iconst (v := 1) dX0_holds_79 (by decide) ?_
              refine s_ishr dX0_holds_80 ?_
              refine s_iload (j := 0) dX0_holds_81 rfl ?_
              refine s_ior dX0_holds_83 ?_
              refine s_istore dX0_holds_84 (by decide) rfl ?_
              refine s_goto dX0_holds_86 (tgt := 115) (by decide) ?_
              refine s_iinc (j := 6) (v := _ + (1)) dX0_holds_115 rfl rfl (by decide) rfl ?_
              refine s_goto dX0_holds_118 (tgt := 6) (by decide) ?_
              refine s_locals [3, 4, 5, 6, 1, 0] rfl ?_
              obtain rfl := hq.2.2.mp c74
              obtain ⟨a, b, s, rfl, e2⟩ := st_two (by decide) (by decide) g4
              simp only [nI_1]
              exact ih us.length _ (j + 1) us ((b || a) :: s) (by omega) rfl (by omega) (g3.or (by rw [List.length_cons, List.length_cons] at g7; omega)) e2 (fun u hu => g5 u (List.mem_cons_of_mem _ hu)) (fun i hi => by rw [show j + 1 + i = j + (i + 1) by omega]; exact g6 (i + 1) (by rw [List.length_cons]; omega)) (by rw [← g8]; rfl) (by rw [List.length_cons] at *; rw [List.length_cons] at g7; omega)
          · refine s_iload (j := 5) dX0_holds_50 rfl ?_
            refine s_iconst (v := 1) dX0_holds_52 (by decide) ?_
            refine s_ishr dX0_holds_53 ?_
            refine s_iload (j := 0) dX0_holds_54 rfl ?_
            refine s_bipush (v := -2) dX0_holds_56 (by decide) ?_
            refine s_ior dX0_holds_58 ?_
            refine s_iand dX0_holds_59 ?_
            refine s_istore dX0_holds_60 (by decide) rfl ?_
            refine s_goto dX0_holds_62 (tgt := 115) (by decide) ?_
            refine s_iinc (j := 6) (v := _ + (1)) dX0_holds_115 rfl rfl (by decide) rfl ?_
            refine s_goto dX0_holds_118 (tgt := 6) (by decide) ?_
            refine s_locals [3, 4, 5, 6, 1, 0] rfl ?_
            obtain rfl := hq.2.1.mp c47
            obtain ⟨a, b, s, rfl, e2⟩ := st_two (by decide) (by decide) g4
            simp only [nI_1]
            exact ih us.length _ (j + 1) us ((b && a) :: s) (by omega) rfl (by omega) (g3.and (by rw [List.length_cons, List.length_cons] at g7; omega)) e2 (fun u hu => g5 u (List.mem_cons_of_mem _ hu)) (fun i hi => by rw [show j + 1 + i = j + (i + 1) by omega]; exact g6 (i + 1) (by rw [List.length_cons]; omega)) (by rw [← g8]; rfl) (by rw [List.length_cons] at *; rw [List.length_cons] at g7; omega)
        · refine s_iload (j := 5) dX0_holds_29 rfl ?_
          refine s_iconst (v := 1) dX0_holds_31 (by decide) ?_
          refine s_ixor dX0_holds_32 ?_
          refine s_istore dX0_holds_33 (by decide) rfl ?_
          refine s_goto dX0_holds_35 (tgt := 115) (by decide) ?_
          refine s_iinc (j := 6) (v := _ + (1)) dX0_holds_115 rfl rfl (by decide) rfl ?_
          refine s_goto dX0_holds_118 (tgt := 6) (by decide) ?_
          refine s_locals [3, 4, 5, 6, 1, 0] rfl ?_
          obtain rfl := hq.1.mp c26
          obtain ⟨b, s, rfl, e1, e2⟩ := st_not K p f g4
          simp only [nI_1]
          exact ih us.length _ (j + 1) us _ (by omega) rfl (by omega) (g3.not (by rw [List.length_cons] at g7; omega)) e2 (fun u hu => g5 u (List.mem_cons_of_mem _ hu)) (fun i hi => by rw [show j + 1 + i = j + (i + 1) by omega]; exact g6 (i + 1) (by rw [List.length_cons]; omega)) (by rw [← g8]; show _ = evs K p f us (stp K p f (-33) (b :: s)); rw [e1]) (by rw [List.length_cons] at *; omega)
  refine s_locals [2, 3, 4, 5, 1, 0] rfl ?_
  exact LP (ts.length + 1) ts.length 0 fr ts [] (Nat.lt_succ_self _) rfl rfl (BT.nil _) hw0 ht hcd rfl (by decide)
