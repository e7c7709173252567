theorem mra_2 (M : MZ) (k : Nat) (f g : Nat → Int32) : mra (mra M k f) k g = mra M k g := by
  unfold mra
  rw [va_up_up]
theorem nI_m1 (n : Nat) : nI (n + 1) + -1 = nI n := by
  rw [← nI_1, Int32.add_assoc, show (1 : Int32) + -1 = 0 from by decide, Int32.add_zero]
set_option maxRecDepth 100000 in
set_option maxHeartbeats 4000000 in
theorem m_factOf (d : Nat) (P D : HP) (M s : MZ) (hP : P.length = 95) (t p f : Int32) (hp : vp_in p 4) : Con d qX12_factOf 0 0 [.ref 95, .int t, .int p, .int f] (mh P (scr M s) D) (XI (fct M p f t) (mh P (scr M s) D)) := by
  refine Con.of (by decide +kernel) (Nat.le_of_ble_eq_true rfl) ?_
  show Sem d qX12_factOf 0 0 0 [(0, .ref 95), (1, .int t), (2, .int p), (3, .int f)] [] (mh P (scr M s) D) _
  refine s_iload_n (j := 1) dX12_factOf_0 rfl ?_
  refine s_topi (fun x1 ex1 => ?_)
  by_cases k1_0 : x1 = 0
  · refine s_tswIn dX12_factOf_1 (tgt := 36) (by rw [k1_0]; decide) (by rw [k1_0]; decide) (off := 35) (by rw [k1_0]; decide) (by decide) ?_
    replace ex1 := ex1.symm.trans k1_0
    clear k1_0
    refine s_iload_n (j := 2) dX12_factOf_36 rfl ?_
    exact e_iret dX12_factOf_37 rfl (by exact ⟨by simp [fct, pz, *], rfl⟩)
  by_cases k1_1 : x1 = 1
  · refine s_tswIn dX12_factOf_1 (tgt := 38) (by rw [k1_1]; decide) (by rw [k1_1]; decide) (off := 37) (by rw [k1_1]; decide) (by decide) ?_
    replace ex1 := ex1.symm.trans k1_1
    clear k1_1 k1_0
    refine s_aload_nr (j := 0) dX12_factOf_38 rfl ?_
    refine gS_kind dX12_factOf_39 rfl hP ?_
    refine s_iload_n (j := 2) dX12_factOf_42 rfl ?_
    refine lS_kind dX12_factOf_43 hP (by exact hp) ?_
    exact e_iret dX12_factOf_44 rfl (by exact ⟨by simp [fct, pz, *], rfl⟩)
  by_cases k1_2 : x1 = 2
  · refine s_tswIn dX12_factOf_1 (tgt := 45) (by rw [k1_2]; decide) (by rw [k1_2]; decide) (off := 44) (by rw [k1_2]; decide) (by decide) ?_
    replace ex1 := ex1.symm.trans k1_2
    clear k1_2 k1_1 k1_0
    refine s_iload_n (j := 3) dX12_factOf_45 rfl ?_
    exact e_iret dX12_factOf_46 rfl (by exact ⟨by simp [fct, pz, *], rfl⟩)
  by_cases k1_3 : x1 = 3
  · refine s_tswIn dX12_factOf_1 (tgt := 47) (by rw [k1_3]; decide) (by rw [k1_3]; decide) (off := 46) (by rw [k1_3]; decide) (by decide) ?_
    replace ex1 := ex1.symm.trans k1_3
    clear k1_3 k1_2 k1_1 k1_0
    refine s_aload_nr (j := 0) dX12_factOf_47 rfl ?_
    refine gS_stance dX12_factOf_48 rfl hP ?_
    exact e_iret dX12_factOf_51 rfl (by exact ⟨by simp [fct, pz, *], rfl⟩)
  by_cases k1_4 : x1 = 4
  · refine s_tswIn dX12_factOf_1 (tgt := 52) (by rw [k1_4]; decide) (by rw [k1_4]; decide) (off := 51) (by rw [k1_4]; decide) (by decide) ?_
    replace ex1 := ex1.symm.trans k1_4
    clear k1_4 k1_3 k1_2 k1_1 k1_0
    refine s_aload_nr (j := 0) dX12_factOf_52 rfl ?_
    refine gS_won dX12_factOf_53 rfl hP ?_
    exact e_iret dX12_factOf_56 rfl (by exact ⟨by simp [fct, pz, *], rfl⟩)
  refine s_tswOut dX12_factOf_1 (tgt := 57) (by have a0 := lv_neT (a := 0) k1_0 rfl; have a1 := lv_neT (a := 1) k1_1 rfl; have a2 := lv_neT (a := 2) k1_2 rfl; have a3 := lv_neT (a := 3) k1_3 rfl; have a4 := lv_neT (a := 4) k1_4 rfl; omega) (by decide) ?_
  replace k1_0 : ¬ _ = _ := fun z => k1_0 (ex1.trans z)
  replace k1_1 : ¬ _ = _ := fun z => k1_1 (ex1.trans z)
  replace k1_2 : ¬ _ = _ := fun z => k1_2 (ex1.trans z)
  replace k1_3 : ¬ _ = _ := fun z => k1_3 (ex1.trans z)
  replace k1_4 : ¬ _ = _ := fun z => k1_4 (ex1.trans z)
  clear ex1
  refine s_aload_nr (j := 0) dX12_factOf_57 rfl ?_
  refine gS_lost dX12_factOf_58 rfl hP ?_
  exact e_iret dX12_factOf_61 rfl (by exact ⟨by simp [fct, pz, *], rfl⟩)

set_option maxRecDepth 100000 in
set_option maxHeartbeats 4000000 in
theorem m_holds (d : Nat) (P D : HP) (M s : MZ) (hP : P.length = 95) (c p f : Int32) (hp : vp_in p 4) (hc : vp_in c 60) (ts : List Int32) (ht : CT M (pz c) ts) : Con (d + 1) qX12_holds 0 0 [.ref 95, .int c, .int p, .int f] (mh P (scr M s) D) (PI fun y h => y = b2i (hol M p f ts = true) ∧ ∃ g, h = mh P (scr M (mra s 15 g)) D) := by
  refine Con.of (by decide +kernel) (Nat.le_of_ble_eq_true rfl) ?_
  show Sem (d + 1) qX12_holds 0 0 0 [(0, .ref 95), (1, .int c), (2, .int p), (3, .int f)] [] (mh P (scr M s) D) _
  rw [show mh P (scr M s) D = mh P (scr M (mra s 15 (s.2.1 15))) D by rw [mra_id]]
  generalize s.2.1 15 = g0
  refine s_iconst (v := 0) dX12_holds_0 (by decide) ?_
  refine s_istore dX12_holds_1 (by decide) rfl ?_
  obtain ⟨a0, e6, e10, e11, e12, ew⟩ := ht
  refine s_aload_nr (j := 1) dX12_holds_3 rfl ?_
  refine gS_from dX12_holds_4 rfl hP ?_
  refine s_iload_n (j := 2) dX12_holds_7 rfl ?_
  refine lS_from dX12_holds_8 hP (by exact hc) ?_
  refine s_istore dX12_holds_9 (by decide) rfl ?_
  have LP : ∀ (n : Nat) (rest : List Int32) (sk : List Bool) (i : Nat) (g : Nat → Int32), rest.length < n → i + rest.length ≤ 600 → M.2.1 11 (pz c) = nI (i + rest.length) → (∀ j, j < rest.length → M.2.1 12 (i + j) = rest.getD j 0) → wfs rest sk.length → sk.length ≤ 31 → TB g sk → (evs M p f rest sk).headD false = hol M p f ts → Sem (d + 1) qX12_holds 0 0 11 [(0, .ref 95), (1, .int c), (2, .int p), (3, .int f), (4, .int (nI sk.length)), (5, .int (nI i))] [] (mh P (scr M (mra s 15 g)) D) (PI fun y h => y = b2i (hol M p f ts = true) ∧ ∃ g, h = mh P (scr M (mra s 15 g)) D) := by
    intro n
    induction n with
    | zero => intro rest sk i g hm; exact absurd hm (Nat.not_lt_zero _)
    | succ n ih =>
      intro rest sk i g hm h1 h2 h3 h4 h5 h6 h7
      refine s_iload (j := 5) dX12_holds_11 rfl ?_
      refine s_aload_nr (j := 0) dX12_holds_13 rfl ?_
      refine gS_to dX12_holds_14 rfl hP ?_
      refine s_iload_n (j := 1) dX12_holds_17 rfl ?_
      refine lS_to dX12_holds_18 hP (by exact hc) ?_
      refine s_icmp_ge dX12_holds_19 (tgt := 253) (by decide) (fun c19 => ?_) (fun c19 => ?_)
      · obtain rfl : rest = [] := by
          cases rest with
          | nil => rfl
          | cons t r => rw [h2, List.length_cons] at c19; rw [List.length_cons] at h1; exact absurd c19 (nI_ge (by omega) (by omega))
        obtain ⟨b, rfl⟩ : ∃ b, sk = [b] := by
          match sk, h4 with
          | [b], _ => exact ⟨b, rfl⟩
        refine s_aload_nr (j := 0) dX12_holds_253 rfl ?_
        refine gS_pile dX12_holds_254 rfl hP ?_
        refine s_iconst (v := 0) dX12_holds_257 (by decide) ?_
        refine lS_pile dX12_holds_258 hP (by rw [vp_in_iff]; decide) ?_
        exact e_zret dX12_holds_259 rfl (by rw [show (mra s 15 g).2.1 15 (pz 0) = bz b from h6.1]; exact bz_n b) (by exact ⟨by rw [← h7]; exact h6.1.trans (bz_i b), g, rfl⟩)
      · obtain ⟨t, r, rfl⟩ : ∃ t r, rest = t :: r := by
          cases rest with
          | nil => exact absurd (show M.2.1 11 (pz c) ≤ nI i by rw [h2]; exact nI_le (Nat.le_refl _) (by omega)) c19
          | cons t r => exact ⟨t, r, rfl⟩
        rw [List.length_cons] at h1 h2 hm
        have hi6 : i < 600 := by omega
        have ht : M.2.1 12 (pz (nI i)) = t := by rw [show pz (nI i) = i from nI_clamp (by omega)]; exact h3 0 (Nat.zero_lt_succ _)
        have h2x : M.2.1 11 (pz c) = nI (i + 1 + r.length) := h2.trans (by congr 1; omega)
        have h3x : ∀ j, j < r.length → M.2.1 12 (i + 1 + j) = r.getD j 0 := fun j hj => by have := h3 (j + 1) (Nat.succ_lt_succ hj); rwa [show i + (j + 1) = i + 1 + j by omega] at this
        have hlr : i + 1 + r.length ≤ 600 := by omega
        refine s_aload_nr (j := 0) dX12_holds_22 rfl ?_
        refine gS_sign dX12_holds_23 rfl hP ?_
        refine s_iload (j := 5) dX12_holds_26 rfl ?_
        refine lS_sign dX12_holds_28 hP (by exact vp_in_nI hi6 (by decide)) ?_
        refine s_topi (fun t6 et6 => ?_)
        obtain rfl : t6 = t := et6.trans ht
        refine s_istore dX12_holds_29 (by decide) rfl ?_
        refine s_iload (j := 0) dX12_holds_31 rfl ?_
        refine s_bipush (v := -33) dX12_holds_33 (by decide) ?_
        refine s_icmp_ne dX12_holds_35 (tgt := 67) (by decide) (fun c35 => ?_) (fun c35 => ?_)
        · refine s_iload (j := 0) dX12_holds_67 rfl ?_
          refine s_if_ge dX12_holds_69 (tgt := 151) (by decide) (fun c69 => ?_) (fun c69 => ?_)
          · have hlt : ¬ t6 < 0 := Int32.not_lt.mpr c69
            obtain ⟨hw1, hw2⟩ : sk.length < 31 ∧ wfs r (sk.length + 1) := by have h4x := h4; rw [wfs, if_neg c35, if_neg hlt] at h4x; exact h4x
            refine s_aload_nr (j := 1) dX12_holds_151 rfl ?_
            refine s_iload (j := 0) dX12_holds_152 rfl ?_
            refine s_sipush (v := 1000) dX12_holds_154 (by decide) ?_
            refine s_idiv dX12_holds_157 (by decide) ?_
            refine s_iload_n (j := 3) dX12_holds_158 rfl ?_
            refine s_iload_n (j := 4) dX12_holds_159 rfl ?_
            refine s_V3i cv_X12_261 rfl dX12_holds_160 (mh_get (k := 0) hP rfl) rfl (Nat.le_of_ble_eq_true rfl) (m_factOf _ P D M _ hP _ _ _ hp) (fun y160 h160 q160 => ?_)
            obtain ⟨rfl, rfl⟩ := q160
            refine s_istore dX12_holds_163 (by decide) rfl ?_
            refine s_iload (j := 1) dX12_holds_165 rfl ?_
            refine s_bipush (v := 100) dX12_holds_167 (by decide) ?_
            refine s_idiv dX12_holds_169 (by decide) ?_
            refine s_bipush (v := 10) dX12_holds_170 (by decide) ?_
            refine s_irem dX12_holds_172 (by decide) ?_
            refine s_istore dX12_holds_173 (by decide) rfl ?_
            refine s_aload_nr (j := 3) dX12_holds_175 rfl ?_
            refine gS_pile dX12_holds_176 rfl hP ?_
            refine s_iload (j := 7) dX12_holds_179 rfl ?_
            refine s_iload (j := 0) dX12_holds_181 rfl ?_
            refine s_if_ne dX12_holds_183 (tgt := 204) (by decide) (fun c183 => ?_) (fun c183 => ?_)
            · refine s_iload (j := 0) dX12_holds_204 rfl ?_
              refine s_iconst (v := 1) dX12_holds_206 (by decide) ?_
              refine s_icmp_ne dX12_holds_207 (tgt := 228) (by decide) (fun c207 => ?_) (fun c207 => ?_)
              · refine s_iload (j := 1) dX12_holds_228 rfl ?_
                refine s_iload (j := 2) dX12_holds_230 rfl ?_
                refine s_bipush (v := 100) dX12_holds_232 (by decide) ?_
                refine s_irem dX12_holds_234 (by decide) ?_
                refine s_icmp_le dX12_holds_235 (tgt := 242) (by decide) (fun c235 => ?_) (fun c235 => ?_)
                · refine s_iconst (v := 0) dX12_holds_242 (by decide) ?_
                  refine sS_pile dX12_holds_243 hP (by exact vp_in_nI (by omega) (by decide)) (by first | rfl | exact b2i_z | decide) ?_
                  rw [mra_sa]
                  refine s_iinc (j := 7) (v := _ + (1)) dX12_holds_244 rfl rfl (by decide) rfl ?_
                  refine s_iinc (j := 8) (v := _ + (1)) dX12_holds_247 rfl rfl (by decide) rfl ?_
                  refine s_goto dX12_holds_250 (tgt := 11) (by decide) ?_
                  refine s_locals [5, 6, 7, 8, 1, 0] rfl ?_
                  rw [nI_1, nI_1]
                  exact ih r (tst M p f t6 :: sk) (i + 1) _ (by simpa using hm) hlr h2x h3x hw2 hw1 (by rw [show pz (nI sk.length) = sk.length from nI_clamp (by omega)]; exact h6.put (by rw [tst, if_neg c183, if_neg c207, decide_eq_false (Int32.not_lt.mpr c235)]; rfl)) (by have h7x := h7; simp only [evs, stp, if_neg c35, if_neg hlt] at h7x; exact h7x)
                · refine s_iconst (v := 1) dX12_holds_238 (by decide) ?_
                  refine s_goto dX12_holds_239 (tgt := 243) (by decide) ?_
                  refine sS_pile dX12_holds_243 hP (by exact vp_in_nI (by omega) (by decide)) (by first | rfl | exact b2i_z | decide) ?_
                  rw [mra_sa]
                  refine s_iinc (j := 7) (v := _ + (1)) dX12_holds_244 rfl rfl (by decide) rfl ?_
                  refine s_iinc (j := 8) (v := _ + (1)) dX12_holds_247 rfl rfl (by decide) rfl ?_
                  refine s_goto dX12_holds_250 (tgt := 11) (by decide) ?_
                  refine s_locals [5, 6, 7, 8, 1, 0] rfl ?_
                  rw [nI_1, nI_1]
                  exact ih r (tst M p f t6 :: sk) (i + 1) _ (by simpa using hm) hlr h2x h3x hw2 hw1 (by rw [show pz (nI sk.length) = sk.length from nI_clamp (by omega)]; exact h6.put (by rw [tst, if_neg c183, if_neg c207, decide_eq_true (Int32.not_le.mp c235)]; rfl)) (by have h7x := h7; simp only [evs, stp, if_neg c35, if_neg hlt] at h7x; exact h7x)
              · refine s_iload (j := 1) dX12_holds_210 rfl ?_
                refine s_iload (j := 2) dX12_holds_212 rfl ?_
                refine s_bipush (v := 100) dX12_holds_214 (by decide) ?_
                refine s_irem dX12_holds_216 (by decide) ?_
                refine s_icmp_ne dX12_holds_217 (tgt := 224) (by decide) (fun c217 => ?_) (fun c217 => ?_)
                · refine s_iconst (v := 0) dX12_holds_224 (by decide) ?_
                  refine s_goto dX12_holds_225 (tgt := 243) (by decide) ?_
                  refine sS_pile dX12_holds_243 hP (by exact vp_in_nI (by omega) (by decide)) (by first | rfl | exact b2i_z | decide) ?_
                  rw [mra_sa]
                  refine s_iinc (j := 7) (v := _ + (1)) dX12_holds_244 rfl rfl (by decide) rfl ?_
                  refine s_iinc (j := 8) (v := _ + (1)) dX12_holds_247 rfl rfl (by decide) rfl ?_
                  refine s_goto dX12_holds_250 (tgt := 11) (by decide) ?_
                  refine s_locals [5, 6, 7, 8, 1, 0] rfl ?_
                  rw [nI_1, nI_1]
                  exact ih r (tst M p f t6 :: sk) (i + 1) _ (by simpa using hm) hlr h2x h3x hw2 hw1 (by rw [show pz (nI sk.length) = sk.length from nI_clamp (by omega)]; exact h6.put (by rw [tst, if_neg c183, if_pos c207, decide_eq_false c217]; rfl)) (by have h7x := h7; simp only [evs, stp, if_neg c35, if_neg hlt] at h7x; exact h7x)
                · refine s_iconst (v := 1) dX12_holds_220 (by decide) ?_
                  refine s_goto dX12_holds_221 (tgt := 243) (by decide) ?_
                  refine sS_pile dX12_holds_243 hP (by exact vp_in_nI (by omega) (by decide)) (by first | rfl | exact b2i_z | decide) ?_
                  rw [mra_sa]
                  refine s_iinc (j := 7) (v := _ + (1)) dX12_holds_244 rfl rfl (by decide) rfl ?_
                  refine s_iinc (j := 8) (v := _ + (1)) dX12_holds_247 rfl rfl (by decide) rfl ?_
                  refine s_goto dX12_holds_250 (tgt := 11) (by decide) ?_
                  refine s_locals [5, 6, 7, 8, 1, 0] rfl ?_
                  rw [nI_1, nI_1]
                  exact ih r (tst M p f t6 :: sk) (i + 1) _ (by simpa using hm) hlr h2x h3x hw2 hw1 (by rw [show pz (nI sk.length) = sk.length from nI_clamp (by omega)]; exact h6.put (by rw [tst, if_neg c183, if_pos c207, decide_eq_true c217]; rfl)) (by have h7x := h7; simp only [evs, stp, if_neg c35, if_neg hlt] at h7x; exact h7x)
            · refine s_iload (j := 1) dX12_holds_186 rfl ?_
              refine s_iload (j := 2) dX12_holds_188 rfl ?_
              refine s_bipush (v := 100) dX12_holds_190 (by decide) ?_
              refine s_irem dX12_holds_192 (by decide) ?_
              refine s_icmp_ge dX12_holds_193 (tgt := 200) (by decide) (fun c193 => ?_) (fun c193 => ?_)
              · refine s_iconst (v := 0) dX12_holds_200 (by decide) ?_
                refine s_goto dX12_holds_201 (tgt := 243) (by decide) ?_
                refine sS_pile dX12_holds_243 hP (by exact vp_in_nI (by omega) (by decide)) (by first | rfl | exact b2i_z | decide) ?_
                rw [mra_sa]
                refine s_iinc (j := 7) (v := _ + (1)) dX12_holds_244 rfl rfl (by decide) rfl ?_
                refine s_iinc (j := 8) (v := _ + (1)) dX12_holds_247 rfl rfl (by decide) rfl ?_
                refine s_goto dX12_holds_250 (tgt := 11) (by decide) ?_
                refine s_locals [5, 6, 7, 8, 1, 0] rfl ?_
                rw [nI_1, nI_1]
                exact ih r (tst M p f t6 :: sk) (i + 1) _ (by simpa using hm) hlr h2x h3x hw2 hw1 (by rw [show pz (nI sk.length) = sk.length from nI_clamp (by omega)]; exact h6.put (by rw [tst, if_pos c183, decide_eq_false (Int32.not_lt.mpr c193)]; rfl)) (by have h7x := h7; simp only [evs, stp, if_neg c35, if_neg hlt] at h7x; exact h7x)
              · refine s_iconst (v := 1) dX12_holds_196 (by decide) ?_
                refine s_goto dX12_holds_197 (tgt := 243) (by decide) ?_
                refine sS_pile dX12_holds_243 hP (by exact vp_in_nI (by omega) (by decide)) (by first | rfl | exact b2i_z | decide) ?_
                rw [mra_sa]
                refine s_iinc (j := 7) (v := _ + (1)) dX12_holds_244 rfl rfl (by decide) rfl ?_
                refine s_iinc (j := 8) (v := _ + (1)) dX12_holds_247 rfl rfl (by decide) rfl ?_
                refine s_goto dX12_holds_250 (tgt := 11) (by decide) ?_
                refine s_locals [5, 6, 7, 8, 1, 0] rfl ?_
                rw [nI_1, nI_1]
                exact ih r (tst M p f t6 :: sk) (i + 1) _ (by simpa using hm) hlr h2x h3x hw2 hw1 (by rw [show pz (nI sk.length) = sk.length from nI_clamp (by omega)]; exact h6.put (by rw [tst, if_pos c183, decide_eq_true (Int32.not_le.mp c193)]; rfl)) (by have h7x := h7; simp only [evs, stp, if_neg c35, if_neg hlt] at h7x; exact h7x)
          · have hlt : t6 < 0 := Int32.not_le.mp c69
            obtain ⟨hw1, hw2⟩ : 2 ≤ sk.length ∧ wfs r (sk.length - 1) := by have h4x := h4; rw [wfs, if_neg c35, if_pos hlt] at h4x; exact h4x
            obtain ⟨b1, b2, k2, rfl⟩ : ∃ b1 b2 k2, sk = b1 :: b2 :: k2 := by
              match sk, hw1 with
              | b1 :: b2 :: k2, _ => exact ⟨b1, b2, k2, rfl⟩
            have h5x : k2.length + 1 + 1 ≤ 31 := h5
            have en : pz (nI (b2 :: k2).length - 1) = k2.length := by rw [List.length_cons, nI_pred]; exact nI_clamp (by omega)
            have hb2 : (mra s 15 g).2.1 15 (pz (nI (b2 :: k2).length - 1)) = bz b2 := by rw [en]; exact h6.2.1
            have hb1 : (mra s 15 g).2.1 15 (pz (nI (b2 :: k2).length)) = bz b1 := by rw [show pz (nI (b2 :: k2).length) = k2.length + 1 from nI_clamp (by rw [List.length_cons]; omega)]; exact h6.1
            have hin : vp_in (nI (b2 :: k2).length - 1) 100 := by rw [List.length_cons, nI_pred]; exact vp_in_nI (by omega) (by decide)
            have hin1 : vp_in (nI (b2 :: k2).length) 100 := vp_in_nI (by rw [List.length_cons]; omega) (by decide)
            refine s_iinc (j := 5) (v := _ + (-1)) dX12_holds_72 rfl rfl (by decide) rfl ?_
            rw [show nI (b1 :: b2 :: k2).length + -1 = nI (b2 :: k2).length from nI_m1 _]
            refine s_aload_nr (j := 2) dX12_holds_75 rfl ?_
            refine gS_pile dX12_holds_76 rfl hP ?_
            refine s_iload (j := 0) dX12_holds_79 rfl ?_
            refine s_iconst (v := 1) dX12_holds_81 (by decide) ?_
            refine s_isub dX12_holds_82 ?_
            refine s_iload (j := 1) dX12_holds_83 rfl ?_
            refine s_bipush (v := -38) dX12_holds_85 (by decide) ?_
            refine s_icmp_ne dX12_holds_87 (tgt := 120) (by decide) (fun c87 => ?_) (fun c87 => ?_)
            · refine s_aload_nr (j := 2) dX12_holds_120 rfl ?_
              refine gS_pile dX12_holds_121 rfl hP ?_
              refine s_iload (j := 0) dX12_holds_124 rfl ?_
              refine s_iconst (v := 1) dX12_holds_126 (by decide) ?_
              refine s_isub dX12_holds_127 ?_
              refine lS_pile dX12_holds_128 hP (by exact hin) ?_
              refine s_if_ne dX12_holds_129 (tgt := 142) (by decide) (fun c129 => ?_) (fun c129 => ?_)
              · refine s_iconst (v := 1) dX12_holds_142 (by decide) ?_
                refine s_goto dX12_holds_143 (tgt := 147) (by decide) ?_
                refine sS_pile dX12_holds_147 hP (by exact hin) (by first | rfl | exact b2i_z | decide) ?_
                rw [mra_sa]
                refine s_goto dX12_holds_148 (tgt := 247) (by decide) ?_
                refine s_iinc (j := 6) (v := _ + (1)) dX12_holds_247 rfl rfl (by decide) rfl ?_
                refine s_goto dX12_holds_250 (tgt := 11) (by decide) ?_
                refine s_locals [3, 4, 5, 6, 1, 0] rfl ?_
                rw [nI_1]
                exact ih r ((b2 || b1) :: k2) (i + 1) _ (by simpa using hm) hlr h2x h3x hw2 (Nat.le_of_succ_le h5) (by rw [en]; exact h6.2.2.put (by rw [hb2, bz_n0] at c129; rw [c129]; (try cases b1) <;> rfl)) (by have h7x := h7; simp only [evs, stp, if_neg c35, if_pos hlt, if_neg c87] at h7x; exact h7x)
              · refine s_aload_nr (j := 2) dX12_holds_132 rfl ?_
                refine gS_pile dX12_holds_133 rfl hP ?_
                refine s_iload (j := 0) dX12_holds_136 rfl ?_
                refine lS_pile dX12_holds_138 hP (by exact hin1) ?_
                refine s_if_eq dX12_holds_139 (tgt := 146) (by decide) (fun c139 => ?_) (fun c139 => ?_)
                · refine s_iconst (v := 0) dX12_holds_146 (by decide) ?_
                  refine sS_pile dX12_holds_147 hP (by exact hin) (by first | rfl | exact b2i_z | decide) ?_
                  rw [mra_sa]
                  refine s_goto dX12_holds_148 (tgt := 247) (by decide) ?_
                  refine s_iinc (j := 6) (v := _ + (1)) dX12_holds_247 rfl rfl (by decide) rfl ?_
                  refine s_goto dX12_holds_250 (tgt := 11) (by decide) ?_
                  refine s_locals [3, 4, 5, 6, 1, 0] rfl ?_
                  rw [nI_1]
                  exact ih r ((b2 || b1) :: k2) (i + 1) _ (by simpa using hm) hlr h2x h3x hw2 (Nat.le_of_succ_le h5) (by rw [en]; exact h6.2.2.put (by rw [hb2, bz_0] at c129; rw [c129]; rw [hb1, bz_0] at c139; rw [c139]; rfl)) (by have h7x := h7; simp only [evs, stp, if_neg c35, if_pos hlt, if_neg c87] at h7x; exact h7x)
                · refine s_iconst (v := 1) dX12_holds_142 (by decide) ?_
                  refine s_goto dX12_holds_143 (tgt := 147) (by decide) ?_
                  refine sS_pile dX12_holds_147 hP (by exact hin) (by first | rfl | exact b2i_z | decide) ?_
                  rw [mra_sa]
                  refine s_goto dX12_holds_148 (tgt := 247) (by decide) ?_
                  refine s_iinc (j := 6) (v := _ + (1)) dX12_holds_247 rfl rfl (by decide) rfl ?_
                  refine s_goto dX12_holds_250 (tgt := 11) (by decide) ?_
                  refine s_locals [3, 4, 5, 6, 1, 0] rfl ?_
                  rw [nI_1]
                  exact ih r ((b2 || b1) :: k2) (i + 1) _ (by simpa using hm) hlr h2x h3x hw2 (Nat.le_of_succ_le h5) (by rw [en]; exact h6.2.2.put (by rw [hb2, bz_0] at c129; rw [c129]; rw [hb1, bz_n0] at c139; rw [c139]; rfl)) (by have h7x := h7; simp only [evs, stp, if_neg c35, if_pos hlt, if_neg c87] at h7x; exact h7x)
            · refine s_aload_nr (j := 2) dX12_holds_90 rfl ?_
              refine gS_pile dX12_holds_91 rfl hP ?_
              refine s_iload (j := 0) dX12_holds_94 rfl ?_
              refine s_iconst (v := 1) dX12_holds_96 (by decide) ?_
              refine s_isub dX12_holds_97 ?_
              refine lS_pile dX12_holds_98 hP (by exact hin) ?_
              refine s_if_eq dX12_holds_99 (tgt := 116) (by decide) (fun c99 => ?_) (fun c99 => ?_)
              · refine s_iconst (v := 0) dX12_holds_116 (by decide) ?_
                refine s_goto dX12_holds_117 (tgt := 147) (by decide) ?_
                refine sS_pile dX12_holds_147 hP (by exact hin) (by first | rfl | exact b2i_z | decide) ?_
                rw [mra_sa]
                refine s_goto dX12_holds_148 (tgt := 247) (by decide) ?_
                refine s_iinc (j := 6) (v := _ + (1)) dX12_holds_247 rfl rfl (by decide) rfl ?_
                refine s_goto dX12_holds_250 (tgt := 11) (by decide) ?_
                refine s_locals [3, 4, 5, 6, 1, 0] rfl ?_
                rw [nI_1]
                exact ih r ((b2 && b1) :: k2) (i + 1) _ (by simpa using hm) hlr h2x h3x hw2 (Nat.le_of_succ_le h5) (by rw [en]; exact h6.2.2.put (by rw [hb2, bz_0] at c99; rw [c99]; (try cases b1) <;> rfl)) (by have h7x := h7; simp only [evs, stp, if_neg c35, if_pos hlt, if_pos c87] at h7x; exact h7x)
              · refine s_aload_nr (j := 2) dX12_holds_102 rfl ?_
                refine gS_pile dX12_holds_103 rfl hP ?_
                refine s_iload (j := 0) dX12_holds_106 rfl ?_
                refine lS_pile dX12_holds_108 hP (by exact hin1) ?_
                refine s_if_eq dX12_holds_109 (tgt := 116) (by decide) (fun c109 => ?_) (fun c109 => ?_)
                · refine s_iconst (v := 0) dX12_holds_116 (by decide) ?_
                  refine s_goto dX12_holds_117 (tgt := 147) (by decide) ?_
                  refine sS_pile dX12_holds_147 hP (by exact hin) (by first | rfl | exact b2i_z | decide) ?_
                  rw [mra_sa]
                  refine s_goto dX12_holds_148 (tgt := 247) (by decide) ?_
                  refine s_iinc (j := 6) (v := _ + (1)) dX12_holds_247 rfl rfl (by decide) rfl ?_
                  refine s_goto dX12_holds_250 (tgt := 11) (by decide) ?_
                  refine s_locals [3, 4, 5, 6, 1, 0] rfl ?_
                  rw [nI_1]
                  exact ih r ((b2 && b1) :: k2) (i + 1) _ (by simpa using hm) hlr h2x h3x hw2 (Nat.le_of_succ_le h5) (by rw [en]; exact h6.2.2.put (by rw [hb2, bz_n0] at c99; rw [c99]; rw [hb1, bz_0] at c109; rw [c109]; rfl)) (by have h7x := h7; simp only [evs, stp, if_neg c35, if_pos hlt, if_pos c87] at h7x; exact h7x)
                · refine s_iconst (v := 1) dX12_holds_112 (by decide) ?_
                  refine s_goto dX12_holds_113 (tgt := 147) (by decide) ?_
                  refine sS_pile dX12_holds_147 hP (by exact hin) (by first | rfl | exact b2i_z | decide) ?_
                  rw [mra_sa]
                  refine s_goto dX12_holds_148 (tgt := 247) (by decide) ?_
                  refine s_iinc (j := 6) (v := _ + (1)) dX12_holds_247 rfl rfl (by decide) rfl ?_
                  refine s_goto dX12_holds_250 (tgt := 11) (by decide) ?_
                  refine s_locals [3, 4, 5, 6, 1, 0] rfl ?_
                  rw [nI_1]
                  exact ih r ((b2 && b1) :: k2) (i + 1) _ (by simpa using hm) hlr h2x h3x hw2 (Nat.le_of_succ_le h5) (by rw [en]; exact h6.2.2.put (by rw [hb2, bz_n0] at c99; rw [c99]; rw [hb1, bz_n0] at c109; rw [c109]; rfl)) (by have h7x := h7; simp only [evs, stp, if_neg c35, if_pos hlt, if_pos c87] at h7x; exact h7x)
        · obtain ⟨hw1, hw2⟩ : 1 ≤ sk.length ∧ wfs r sk.length := by have h4x := h4; rw [wfs, if_pos c35] at h4x; exact h4x
          obtain ⟨b, k2, rfl⟩ : ∃ b k2, sk = b :: k2 := by
            cases sk with
            | nil => exact absurd hw1 (by decide)
            | cons b k2 => exact ⟨b, k2, rfl⟩
          have h5x : k2.length + 1 ≤ 31 := h5
          have en : pz (nI (b :: k2).length - 1) = k2.length := by rw [List.length_cons, nI_pred]; exact nI_clamp (by omega)
          have hb : (mra s 15 g).2.1 15 (pz (nI (b :: k2).length - 1)) = bz b := by rw [en]; exact h6.1
          have hin : vp_in (nI (b :: k2).length - 1) 100 := by rw [List.length_cons, nI_pred]; exact vp_in_nI (by omega) (by decide)
          refine s_aload_nr (j := 1) dX12_holds_38 rfl ?_
          refine gS_pile dX12_holds_39 rfl hP ?_
          refine s_iload (j := 5) dX12_holds_42 rfl ?_
          refine s_iconst (v := 1) dX12_holds_44 (by decide) ?_
          refine s_isub dX12_holds_45 ?_
          refine s_aload_nr (j := 1) dX12_holds_46 rfl ?_
          refine gS_pile dX12_holds_47 rfl hP ?_
          refine s_iload (j := 5) dX12_holds_50 rfl ?_
          refine s_iconst (v := 1) dX12_holds_52 (by decide) ?_
          refine s_isub dX12_holds_53 ?_
          refine lS_pile dX12_holds_54 hP (by exact hin) ?_
          refine s_if_ne dX12_holds_55 (tgt := 62) (by decide) (fun c55 => ?_) (fun c55 => ?_)
          · refine s_iconst (v := 0) dX12_holds_62 (by decide) ?_
            refine sS_pile dX12_holds_63 hP (by exact hin) (by first | rfl | exact b2i_z | decide) ?_
            rw [mra_sa]
            refine s_goto dX12_holds_64 (tgt := 247) (by decide) ?_
            refine s_iinc (j := 6) (v := _ + (1)) dX12_holds_247 rfl rfl (by decide) rfl ?_
            refine s_goto dX12_holds_250 (tgt := 11) (by decide) ?_
            refine s_locals [2, 3, 4, 5, 6, 0] rfl ?_
            rw [nI_1]
            exact ih r ((!b) :: k2) (i + 1) _ (by simpa using hm) hlr h2x h3x hw2 h5 (by rw [en]; exact h6.2.put (by rw [hb, bz_n0] at c55; rw [c55]; rfl)) (by have h7x := h7; simp only [evs, stp, if_pos c35] at h7x; exact h7x)
          · refine s_iconst (v := 1) dX12_holds_58 (by decide) ?_
            refine s_goto dX12_holds_59 (tgt := 63) (by decide) ?_
            refine sS_pile dX12_holds_63 hP (by exact hin) (by first | rfl | exact b2i_z | decide) ?_
            rw [mra_sa]
            refine s_goto dX12_holds_64 (tgt := 247) (by decide) ?_
            refine s_iinc (j := 6) (v := _ + (1)) dX12_holds_247 rfl rfl (by decide) rfl ?_
            refine s_goto dX12_holds_250 (tgt := 11) (by decide) ?_
            refine s_locals [2, 3, 4, 5, 6, 0] rfl ?_
            rw [nI_1]
            exact ih r ((!b) :: k2) (i + 1) _ (by simpa using hm) hlr h2x h3x hw2 h5 (by rw [en]; exact h6.2.put (by rw [hb, bz_0] at c55; rw [c55]; rfl)) (by have h7x := h7; simp only [evs, stp, if_pos c35] at h7x; exact h7x)
  refine s_locals [2, 3, 4, 5, 1, 0] rfl ?_
  rw [show M.2.1 10 (pz c) = nI a0 from e10]
  exact LP (ts.length + 1) ts [] a0 g0 (Nat.lt_succ_self _) e6 e11 e12 ew (Nat.zero_le _) trivial rfl

theorem n_begin (d : Nat) (P D : HP) (M s : MZ) (hP : P.length = 95) : Con (d + 0) qX12_begin 0 0 [.ref 95] (mh P (scr M s) D) (XI (if M.1 5 < 0 then 0 else 10 * M.1 5) (mh P (scr M s) D)) := m_begin d P D (scr M s) hP

theorem n_isServer (d : Nat) (P D : HP) (M s : MZ) (hP : P.length = 95) (p : Int32) : Con (d + 1) qX12_isServer 0 0 [.ref 95, .int p] (mh P (scr M s) D) (XI (b2i (isS M p)) (mh P (scr M s) D)) := m_isServer d P D (scr M s) hP p

theorem n_isOver (d : Nat) (P D : HP) (M s : MZ) (hP : P.length = 95) : Con (d + 0) qX12_isOver 0 0 [.ref 95] (mh P (scr M s) D) (XI (b2i (M.1 1 = 4 ∨ M.1 2 = 4)) (mh P (scr M s) D)) := m_isOver d P D (scr M s) hP

theorem n_percent (d : Nat) (P D : HP) (M s : MZ) (hP : P.length = 95) (n : Int32) : Con (d + 0) qX12_percent 0 0 [.ref 95, .int n] (mh P (scr M s) D) (XI (pct n) (mh P (scr M s) D)) := m_percent d P D (scr M s) hP n

theorem n_firstOf (d : Nat) (P D : HP) (M s : MZ) (hP : P.length = 95) (p : Int32) (hp : vp_in p 4) (hs : ∀ i, i < 4 → 0 ≤ M.2.1 4 i) : Con (d + 0) qX12_firstOf 0 0 [.ref 95, .int p] (mh P (scr M s) D) (XI (mFirst M p) (mh P (scr M s) D)) := m_firstOf d P D (scr M s) hP p hp hs

theorem n_secondOf (d : Nat) (P D : HP) (M s : MZ) (hP : P.length = 95) (p : Int32) (hp : vp_in p 4) : Con (d + 0) qX12_secondOf 0 0 [.ref 95, .int p] (mh P (scr M s) D) (XI (mSecond M p) (mh P (scr M s) D)) := m_secondOf d P D (scr M s) hP p hp

set_option maxRecDepth 100000 in
set_option maxHeartbeats 4000000 in
theorem m_behind (d : Nat) (P D : HP) (M s : MZ) (hP : P.length = 95) (h5 : ¬ M.1 5 < 0 → vp_in (M.1 5) 6) : Con d qX12_behind 0 0 [.ref 95] (mh P (scr M s) D) (XI (if M.1 5 < 0 then 0 else 10 * M.1 5 + M.2.1 7 (pz (M.1 5))) (mh P (scr M s) D)) := by
  refine Con.of (by decide +kernel) (Nat.le_of_ble_eq_true rfl) ?_
  show Sem d qX12_behind 0 0 0 [(0, .ref 95)] [] (mh P (scr M s) D) _
  refine s_aload_nr (j := 0) dX12_behind_0 rfl ?_
  refine gS_the dX12_behind_1 rfl hP ?_
  refine s_if_ge dX12_behind_4 (tgt := 11) (by decide) (fun c4 => ?_) (fun c4 => ?_)
  · refine s_bipush (v := 10) dX12_behind_11 (by decide) ?_
    refine s_aload_nr (j := 0) dX12_behind_13 rfl ?_
    refine gS_the dX12_behind_14 rfl hP ?_
    refine s_imul dX12_behind_17 ?_
    refine s_aload_nr (j := 0) dX12_behind_18 rfl ?_
    refine gS_clauses dX12_behind_19 rfl hP ?_
    refine s_aload_nr (j := 0) dX12_behind_22 rfl ?_
    refine gS_the dX12_behind_23 rfl hP ?_
    refine lS_clauses dX12_behind_26 hP (by exact h5 (Int32.not_lt.mpr c4)) ?_
    refine s_iadd dX12_behind_27 ?_
    exact e_iret dX12_behind_28 rfl (by first | exact ⟨(if_pos (Int32.not_le.mp c4)).symm, rfl⟩ | exact ⟨(if_neg (Int32.not_lt.mpr c4)).symm, rfl⟩)
  · refine s_iconst (v := 0) dX12_behind_7 (by decide) ?_
    refine s_goto dX12_behind_8 (tgt := 28) (by decide) ?_
    exact e_iret dX12_behind_28 rfl (by first | exact ⟨(if_pos (Int32.not_le.mp c4)).symm, rfl⟩ | exact ⟨(if_neg (Int32.not_lt.mpr c4)).symm, rfl⟩)

set_option maxRecDepth 100000 in
set_option maxHeartbeats 4000000 in
theorem m_sumOf (d : Nat) (P D : HP) (M s : MZ) (hP : P.length = 95) (w p f : Int32) (hp : vp_in p 4) (cl : CLs) (hcl : CN M cl) : Con (d + 2) qX12_sumOf 0 0 [.ref 95, .int w, .int p, .int f] (mh P (scr M s) D) (XS P D (sms M w p f cl 0) M s) := by
  refine Con.of (by decide +kernel) (Nat.le_of_ble_eq_true rfl) ?_
  show Sem (d + 2) qX12_sumOf 0 0 0 [(0, .ref 95), (1, .int w), (2, .int p), (3, .int f)] [] (mh P (scr M s) D) _
  rw [show mh P (scr M s) D = mh P (scr M (mra s 15 (s.2.1 15))) D by rw [mra_id]]
  generalize s.2.1 15 = g0
  refine s_iconst (v := 0) dX12_sumOf_0 (by decide) ?_
  refine s_istore dX12_sumOf_1 (by decide) rfl ?_
  obtain ⟨c0, e0, e1, e2, e3⟩ := hcl.ends
  refine s_aload_nr (j := 1) dX12_sumOf_3 rfl ?_
  refine s_V0i cv_X12_265 rfl dX12_sumOf_4 (mh_get (k := 0) hP rfl) rfl (Nat.le_of_ble_eq_true rfl) (n_begin _ P D M _ hP) (fun y4 h4 q4 => ?_)
  obtain ⟨rfl, rfl⟩ := q4
  refine s_istore dX12_sumOf_7 (by decide) rfl ?_
  have LP : ∀ (n : Nat) (k : CLs) (c : Nat) (a : Int32) (g : Nat → Int32), k.length < n → c + k.length ≤ 60 → CC M c k → (if M.1 5 < 0 then (0 : Int32) else 10 * M.1 5 + M.2.1 7 (pz (M.1 5))) = nI (c + k.length) → sms M w p f k a = sms M w p f cl 0 → Sem (d + 2) qX12_sumOf 0 0 9 [(0, .ref 95), (1, .int w), (2, .int p), (3, .int f), (4, .int a), (5, .int (nI c))] [] (mh P (scr M (mra s 15 g)) D) (XS P D (sms M w p f cl 0) M s) := by
    intro n
    induction n with
    | zero => intro k c a g hm; exact absurd hm (Nat.not_lt_zero _)
    | succ n ih =>
      intro k c a g hm h1 hcc h3 h4
      refine s_iload (j := 5) dX12_sumOf_9 rfl ?_
      refine s_aload_nr (j := 0) dX12_sumOf_11 rfl ?_
      refine s_V0i cv_X12_268 rfl dX12_sumOf_12 (mh_get (k := 0) hP rfl) rfl (Nat.le_of_ble_eq_true rfl) (m_behind _ P D M _ hP (CN.in6 hcl)) (fun y12 h12 q12 => ?_)
      obtain ⟨rfl, rfl⟩ := q12
      refine s_icmp_ge dX12_sumOf_15 (tgt := 62) (by decide) (fun c15 => ?_) (fun c15 => ?_)
      · obtain rfl : k = [] := by
          cases k with
          | nil => rfl
          | cons t r => rw [h3, List.length_cons] at c15; rw [List.length_cons] at h1; exact absurd c15 (nI_ge (by omega) (by omega))
        refine s_iload (j := 4) dX12_sumOf_62 rfl ?_
        exact e_iret dX12_sumOf_64 rfl (by exact ⟨h4, g, rfl⟩)
      · obtain ⟨r, k2, rfl⟩ : ∃ r k2, k = r :: k2 := by
          cases k with
          | nil => exact absurd (show (if M.1 5 < 0 then (0 : Int32) else 10 * M.1 5 + M.2.1 7 (pz (M.1 5))) ≤ nI c by rw [h3]; exact nI_le (Nat.le_refl _) (by omega)) c15
          | cons t r => exact ⟨t, r, rfl⟩
        rw [List.length_cons] at h1 h3 hm
        have hc6 : vp_in (nI c) 60 := vp_in_nI (by omega) (by decide)
        have ec : pz (nI c) = c := nI_clamp (by omega)
        have hw8 : M.2.1 8 (pz (nI c)) = r.1 := by rw [ec]; exact hcc.1.1
        have hw9 : M.2.1 9 (pz (nI c)) = r.2.1 := by rw [ec]; exact hcc.1.2.1
        have hct : CT M (pz (nI c)) r.2.2 := by rw [ec]; exact hcc.1.2.2
        refine s_iload (j := 4) dX12_sumOf_18 rfl ?_
        refine s_aload_nr (j := 0) dX12_sumOf_20 rfl ?_
        refine gS_word dX12_sumOf_21 rfl hP ?_
        refine s_iload (j := 5) dX12_sumOf_24 rfl ?_
        refine lS_word dX12_sumOf_26 hP (by exact hc6) ?_
        refine s_iload_n (j := 1) dX12_sumOf_27 rfl ?_
        refine s_icmp_ne dX12_sumOf_28 (tgt := 52) (by decide) (fun c28 => ?_) (fun c28 => ?_)
        · refine s_iconst (v := 0) dX12_sumOf_52 (by decide) ?_
          refine s_iadd dX12_sumOf_53 ?_
          refine s_istore dX12_sumOf_54 (by decide) rfl ?_
          refine s_iinc (j := 5) (v := _ + (1)) dX12_sumOf_56 rfl rfl (by decide) rfl ?_
          refine s_goto dX12_sumOf_59 (tgt := 9) (by decide) ?_
          refine s_locals [2, 3, 4, 5, 1, 0] rfl ?_
          rw [nI_1]
          exact ih k2 (c + 1) (a + 0) g (by omega) (by omega) hcc.2 (h3.trans (by congr 1; omega)) (by have h4x := h4; rw [sms, if_neg (show ¬ r.1 = w by rw [← hw8]; exact c28)] at h4x; exact h4x)
        · refine s_aload_nr (j := 0) dX12_sumOf_31 rfl ?_
          refine s_iload (j := 5) dX12_sumOf_32 rfl ?_
          refine s_iload_n (j := 2) dX12_sumOf_34 rfl ?_
          refine s_iload_n (j := 3) dX12_sumOf_35 rfl ?_
          refine s_V3i cv_X12_271 rfl dX12_sumOf_36 (mh_get (k := 0) hP rfl) rfl (Nat.le_of_ble_eq_true rfl) (m_holds _ P D M _ hP (nI c) p f hp hc6 r.2.2 hct) (fun y36 h36 q36 => ?_)
          obtain ⟨rfl, g36, rfl⟩ := q36
          try rw [mra_2]
          refine s_if_eq dX12_sumOf_39 (tgt := 52) (by decide) (fun c39 => ?_) (fun c39 => ?_)
          · replace c39 := b2i_0.mp c39
            refine s_iconst (v := 0) dX12_sumOf_52 (by decide) ?_
            refine s_iadd dX12_sumOf_53 ?_
            refine s_istore dX12_sumOf_54 (by decide) rfl ?_
            refine s_iinc (j := 5) (v := _ + (1)) dX12_sumOf_56 rfl rfl (by decide) rfl ?_
            refine s_goto dX12_sumOf_59 (tgt := 9) (by decide) ?_
            refine s_locals [2, 3, 4, 5, 1, 0] rfl ?_
            rw [nI_1]
            exact ih k2 (c + 1) (a + 0) g36 (by omega) (by omega) hcc.2 (h3.trans (by congr 1; omega)) (by have h4x := h4; rw [sms, if_pos (hw8.symm.trans c28), if_neg c39] at h4x; exact h4x)
          · replace c39 := b2i_n0.mp c39
            refine s_aload_nr (j := 0) dX12_sumOf_42 rfl ?_
            refine gS_number dX12_sumOf_43 rfl hP ?_
            refine s_iload (j := 5) dX12_sumOf_46 rfl ?_
            refine lS_number dX12_sumOf_48 hP (by exact hc6) ?_
            refine s_goto dX12_sumOf_49 (tgt := 53) (by decide) ?_
            refine s_iadd dX12_sumOf_53 ?_
            refine s_istore dX12_sumOf_54 (by decide) rfl ?_
            refine s_iinc (j := 5) (v := _ + (1)) dX12_sumOf_56 rfl rfl (by decide) rfl ?_
            refine s_goto dX12_sumOf_59 (tgt := 9) (by decide) ?_
            refine s_locals [2, 3, 4, 5, 1, 0] rfl ?_
            rw [nI_1]
            rw [hw9]
            exact ih k2 (c + 1) (a + r.2.1) g36 (by omega) (by omega) hcc.2 (h3.trans (by congr 1; omega)) (by have h4x := h4; rw [sms, if_pos (hw8.symm.trans c28), if_pos c39] at h4x; exact h4x)
  refine s_locals [2, 3, 4, 5, 1, 0] rfl ?_
  rw [e1]
  exact LP (cl.length + 1) cl c0 0 g0 (Nat.lt_succ_self _) e0 e3 e2 rfl

set_option maxRecDepth 100000 in
set_option maxHeartbeats 4000000 in
theorem m_inOf (d : Nat) (P D : HP) (M s : MZ) (hP : P.length = 95) (p f : Int32) (hp : vp_in p 4) (cl : CLs) (hcl : CN M cl) : Con (d + 3) qX12_inOf 0 0 [.ref 95, .int p, .int f] (mh P (scr M s) D) (XS P D (sIn M cl p f) M s) := by
  refine Con.of (by decide +kernel) (Nat.le_of_ble_eq_true rfl) ?_
  show Sem (d + 3) qX12_inOf 0 0 0 [(0, .ref 95), (1, .int p), (2, .int f)] [] (mh P (scr M s) D) _
  rw [show mh P (scr M s) D = mh P (scr M (mra s 15 (s.2.1 15))) D by rw [mra_id]]
  generalize s.2.1 15 = g0
  refine s_aload_nr (j := 0) dX12_inOf_0 rfl ?_
  refine s_bipush (v := 95) dX12_inOf_1 (by decide) ?_
  refine s_bipush (v := 6) dX12_inOf_3 (by decide) ?_
  refine s_iload_n (j := 2) dX12_inOf_5 rfl ?_
  refine s_imul dX12_inOf_6 ?_
  refine s_isub dX12_inOf_7 ?_
  refine s_aload_nr (j := 0) dX12_inOf_8 rfl ?_
  refine s_iconst (v := 0) dX12_inOf_9 (by decide) ?_
  refine s_iload_n (j := 1) dX12_inOf_10 rfl ?_
  refine s_iload_n (j := 2) dX12_inOf_11 rfl ?_
  refine s_V3i cv_X12_274 rfl dX12_inOf_12 (mh_get (k := 0) hP rfl) rfl (Nat.le_of_ble_eq_true rfl) (m_sumOf _ P D M _ hP 0 p f hp cl hcl) (fun y12 h12 q12 => ?_)
  obtain ⟨rfl, g12, rfl⟩ := q12
  try rw [mra_2]
  refine s_iadd dX12_inOf_15 ?_
  refine s_aload_nr (j := 0) dX12_inOf_16 rfl ?_
  refine s_iconst (v := 2) dX12_inOf_17 (by decide) ?_
  refine s_iload_n (j := 1) dX12_inOf_18 rfl ?_
  refine s_iload_n (j := 2) dX12_inOf_19 rfl ?_
  refine s_V3i cv_X12_274 rfl dX12_inOf_20 (mh_get (k := 0) hP rfl) rfl (Nat.le_of_ble_eq_true rfl) (m_sumOf _ P D M _ hP 2 p f hp cl hcl) (fun y20 h20 q20 => ?_)
  obtain ⟨rfl, g20, rfl⟩ := q20
  try rw [mra_2]
  refine s_isub dX12_inOf_23 ?_
  refine s_V1i cv_X12_277 rfl dX12_inOf_24 (mh_get (k := 0) hP rfl) rfl (Nat.le_of_ble_eq_true rfl) (n_percent _ P D M _ hP _) (fun y24 h24 q24 => ?_)
  obtain ⟨rfl, rfl⟩ := q24
  exact e_iret dX12_inOf_27 rfl (by exact ⟨rfl, _, rfl⟩)

set_option maxRecDepth 100000 in
set_option maxHeartbeats 4000000 in
theorem m_winsOf (d : Nat) (P D : HP) (M s : MZ) (hP : P.length = 95) (p f : Int32) (hp : vp_in p 4) (cl : CLs) (hcl : CN M cl) : Con (d + 3) qX12_winsOf 0 0 [.ref 95, .int p, .int f] (mh P (scr M s) D) (XS P D (sWn M cl p f) M s) := by
  refine Con.of (by decide +kernel) (Nat.le_of_ble_eq_true rfl) ?_
  show Sem (d + 3) qX12_winsOf 0 0 0 [(0, .ref 95), (1, .int p), (2, .int f)] [] (mh P (scr M s) D) _
  rw [show mh P (scr M s) D = mh P (scr M (mra s 15 (s.2.1 15))) D by rw [mra_id]]
  generalize s.2.1 15 = g0
  refine s_aload_nr (j := 0) dX12_winsOf_0 rfl ?_
  refine s_bipush (v := 40) dX12_winsOf_1 (by decide) ?_
  refine s_iconst (v := 5) dX12_winsOf_3 (by decide) ?_
  refine s_iload_n (j := 2) dX12_winsOf_4 rfl ?_
  refine s_imul dX12_winsOf_5 ?_
  refine s_iadd dX12_winsOf_6 ?_
  refine s_aload_nr (j := 0) dX12_winsOf_7 rfl ?_
  refine s_iconst (v := 1) dX12_winsOf_8 (by decide) ?_
  refine s_iload_n (j := 1) dX12_winsOf_9 rfl ?_
  refine s_iload_n (j := 2) dX12_winsOf_10 rfl ?_
  refine s_V3i cv_X12_274 rfl dX12_winsOf_11 (mh_get (k := 0) hP rfl) rfl (Nat.le_of_ble_eq_true rfl) (m_sumOf _ P D M _ hP 1 p f hp cl hcl) (fun y11 h11 q11 => ?_)
  obtain ⟨rfl, g11, rfl⟩ := q11
  try rw [mra_2]
  refine s_iadd dX12_winsOf_14 ?_
  refine s_V1i cv_X12_277 rfl dX12_winsOf_15 (mh_get (k := 0) hP rfl) rfl (Nat.le_of_ble_eq_true rfl) (n_percent _ P D M _ hP _) (fun y15 h15 q15 => ?_)
  obtain ⟨rfl, rfl⟩ := q15
  refine s_istore_n dX12_winsOf_18 (by decide) rfl ?_
  refine s_aload_nr (j := 1) dX12_winsOf_19 rfl ?_
  refine gS_kind dX12_winsOf_20 rfl hP ?_
  refine s_iload_n (j := 2) dX12_winsOf_23 rfl ?_
  refine lS_kind dX12_winsOf_24 hP (by exact hp) ?_
  refine s_iconst (v := 4) dX12_winsOf_25 (by decide) ?_
  refine s_icmp_ne dX12_winsOf_26 (tgt := 44) (by decide) (fun c26 => ?_) (fun c26 => ?_)
  · refine s_iload_n (j := 0) dX12_winsOf_44 rfl ?_
    exact e_iret dX12_winsOf_45 rfl (by exact ⟨by unfold sWn; first | exact (if_pos c26).symm | exact (if_neg c26).symm, _, rfl⟩)
  · refine s_aload_nr (j := 1) dX12_winsOf_29 rfl ?_
    refine s_iload_n (j := 0) dX12_winsOf_30 rfl ?_
    refine s_aload_nr (j := 1) dX12_winsOf_31 rfl ?_
    refine gS_v dX12_winsOf_32 rfl hP ?_
    refine s_iload_n (j := 2) dX12_winsOf_35 rfl ?_
    refine lS_v dX12_winsOf_36 hP (by exact hp) ?_
    refine s_isub dX12_winsOf_37 ?_
    refine s_V1i cv_X12_277 rfl dX12_winsOf_38 (mh_get (k := 0) hP rfl) rfl (Nat.le_of_ble_eq_true rfl) (n_percent _ P D M _ hP _) (fun y38 h38 q38 => ?_)
    obtain ⟨rfl, rfl⟩ := q38
    refine s_goto dX12_winsOf_41 (tgt := 45) (by decide) ?_
    exact e_iret dX12_winsOf_45 rfl (by exact ⟨by unfold sWn; first | exact (if_pos c26).symm | exact (if_neg c26).symm, _, rfl⟩)
