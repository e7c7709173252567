theorem cO_le : ∀ (l : List Int32), cO l ≤ l.length
  | [] => Nat.le_refl _
  | b :: r => by
    have := cO_le r
    unfold cO
    rw [List.length_cons]
    split <;> omega
set_option maxRecDepth 100000 in
set_option maxHeartbeats 800000 in
theorem m_takesE (d : Nat) (P D : HP) (M : MZ) (hP : P.length = 95) (a0 : Nat) (dg0 wt0 op0 : Int32) (bs : Nat) (Sg0 W0 : Nat → Int32) (N : Nat) (hN : M.1 6 = nI N) (hN1 : N ≤ 100) (ha : a0 ≤ N) (hbs : bs + 1 ≤ 500 + a0) (c : Int32) (hc : vp_in c 60) : Con (d + 4) qX12_takesE 0 0 [.ref 95, .int c] (mh P (pst M (nI a0) dg0 (nI bs) wt0 op0 Sg0 W0) D) (PI fun y h => EO M P D bs c Sg0 (mrun (M.2.1 6) N (N + 1) true a0 [] []) y h) := by
  refine Con.of (by decide +kernel) (Nat.le_of_ble_eq_true rfl) ?_
  show Sem (d + 4) qX12_takesE 0 0 0 [(0, .ref 95), (1, .int c)] [] (mh P (pst M (nI a0) dg0 (nI bs) wt0 op0 Sg0 W0) D) _
  refine s_aload_nr (j := 0) dX12_takesE_0 rfl ?_
  refine s_iconst (v := 0) dX12_takesE_1 (by decide) ?_
  refine pP_waiting dX12_takesE_2 rfl hP ?_
  refine s_aload_nr (j := 0) dX12_takesE_5 rfl ?_
  refine s_iconst (v := 0) dX12_takesE_6 (by decide) ?_
  refine pP_open dX12_takesE_7 rfl hP ?_
  refine s_aload_nr (j := 0) dX12_takesE_10 rfl ?_
  refine gP_from dX12_takesE_11 rfl hP ?_
  refine s_iload_n (j := 1) dX12_takesE_14 rfl ?_
  refine s_aload_nr (j := 0) dX12_takesE_15 rfl ?_
  refine gP_signs dX12_takesE_16 rfl hP ?_
  refine sP_from dX12_takesE_19 hP (by first | exact hc | exact vp_in_nI (by omega) (by decide)) ?_
  refine s_iconst (v := 1) dX12_takesE_20 (by decide) ?_
  refine s_istore_n dX12_takesE_21 (by decide) rfl ?_
  have LP : ∀ (n : Nat) (f : Nat) (w : Bool) (a : Nat) (Wl tk : List Int32) (dg v : Int32) (Sg W : Nat → Int32), f < n → N + 1 ≤ a + f → a ≤ N → mrun (M.2.1 6) N f w a Wl tk = (mrun (M.2.1 6) N (N + 1) true a0 [] []) → SGL Sg bs tk → (∀ j, j < bs → Sg j = Sg0 j) → TWL W Wl → bs + tk.length + Wl.length + 1 ≤ 500 + a → Wl.length ≤ a → (∀ b, b ∈ Wl → wsg b) → Sem (d + 4) qX12_takesE 0 0 22 [(0, .ref 95), (1, .int c), (2, .int (bz w))] [] (mh P (pst (msa (msa M 10 (pz c) (nI bs)) 11 (pz c) v) (nI a) dg (nI (bs + tk.length)) (nI Wl.length) (nI (cO Wl)) Sg W) D) (PI fun y h => EO M P D bs c Sg0 (mrun (M.2.1 6) N (N + 1) true a0 [] []) y h) := by
    intro n
    induction n with
    | zero => intro f w a Wl tk dg v Sg W hm; exact absurd hm (Nat.not_lt_zero _)
    | succ n ih =>
      intro f w a Wl tk dg v Sg W hm g1 g2 g3 g4 g5 g6 g7 g8 g9
      obtain ⟨f, rfl⟩ : ∃ x, f = x + 1 := ⟨f - 1, by omega⟩
      refine s_aload_nr (j := 0) dX12_takesE_22 rfl ?_
      refine s_V0i cv_X12_214 rfl dX12_takesE_23 (mh_get (k := 0) hP rfl) rfl (Nat.le_of_ble_eq_true rfl) (m_next _ P D (msa (msa M 10 (pz c) (nI bs)) 11 (pz c) v) hP a _ _ _ _ _ _ N hN hN1 (by omega)) (fun y23 h23 q23 => ?_)
      obtain ⟨rfl, rfl⟩ := q23
      refine s_topi (fun b3 eb3 => ?_)
      obtain rfl : b3 = sg (M.2.1 6) N a := eb3
      refine s_istore_n dX12_takesE_26 (by decide) rfl ?_
      refine s_iload_n (j := 3) dX12_takesE_27 rfl ?_
      refine s_if_eq dX12_takesE_28 (tgt := 110) (by decide) (fun c28 => ?_) (fun c28 => ?_)
      · obtain rfl : w = false := bz_0.mp c28
        refine s_iload_n (j := 0) dX12_takesE_110 rfl ?_
        refine s_bipush (v := 38) dX12_takesE_111 (by decide) ?_
        refine s_icmp_eq dX12_takesE_113 (tgt := 122) (by decide) (fun c113 => ?_) (fun c113 => ?_)
        · have hb2 : sg (M.2.1 6) N a = 38 ∨ sg (M.2.1 6) N a = 124 := by first | exact Or.inl c113 | exact Or.inr c119
          refine s_aload_nr (j := 1) dX12_takesE_122 rfl ?_
          refine s_iload_n (j := 0) dX12_takesE_123 rfl ?_
          refine s_V1v cv_X12_242 rfl dX12_takesE_124 (mh_get (k := 0) hP rfl) rfl (Nat.le_of_ble_eq_true rfl) (m_settle _ P D (msa (msa M 10 (pz c) (nI bs)) 11 (pz c) v) hP a dg bs Sg W Wl tk (sg (M.2.1 6) N a) g4 g6 (by omega) (by omega)) (fun h124 q124 => ?_)
          obtain ⟨Sg2, k1, k2, rfl⟩ := q124
          refine s_aload_nr (j := 1) dX12_takesE_127 rfl ?_
          refine gP_waits dX12_takesE_128 rfl hP ?_
          refine s_aload_nr (j := 1) dX12_takesE_131 rfl ?_
          refine gP_waiting dX12_takesE_132 rfl hP ?_
          refine s_iload_n (j := 0) dX12_takesE_135 rfl ?_
          refine sP_waits dX12_takesE_136 hP (by exact vp_in_nI (by have := st_le (sg (M.2.1 6) N a) Wl; omega) (by decide)) ?_
          refine s_aload_nr (j := 1) dX12_takesE_137 rfl ?_
          refine s_dup dX12_takesE_138 rfl ?_
          refine gP_waiting dX12_takesE_139 rfl hP ?_
          refine s_iconst (v := 1) dX12_takesE_142 (by decide) ?_
          refine s_iadd dX12_takesE_143 ?_
          refine pP_waiting dX12_takesE_144 rfl hP ?_
          refine s_iconst (v := 1) dX12_takesE_147 (by decide) ?_
          refine s_istore_n dX12_takesE_148 (by decide) rfl ?_
          refine s_aload_nr (j := 2) dX12_takesE_149 rfl ?_
          refine s_dup dX12_takesE_150 rfl ?_
          refine gP_at dX12_takesE_151 rfl hP ?_
          refine s_iconst (v := 1) dX12_takesE_154 (by decide) ?_
          refine s_iadd dX12_takesE_155 ?_
          refine pP_at dX12_takesE_156 rfl hP ?_
          refine s_goto dX12_takesE_159 (tgt := 22) (by decide) ?_
          refine s_locals [2, 3, 0] rfl ?_
          have haN : a < N := sg_lt (fun z => by rw [z] at hb2; exact absurd hb2 (by decide))
          simp only [nI_1]
          have e9 : cO (sg (M.2.1 6) N a :: stW (sg (M.2.1 6) N a) Wl) = cO (stW (sg (M.2.1 6) N a) Wl) := by rw [cO, if_neg (by rcases hb2 with z | z <;> rw [z] <;> decide)]
          have hl := st_le (sg (M.2.1 6) N a) Wl
          have hl2 := st_len (sg (M.2.1 6) N a) Wl tk
          rw [← e9, show pz (nI (stW (sg (M.2.1 6) N a) Wl).length) = (stW (sg (M.2.1 6) N a) Wl).length from nI_clamp (by omega)]
          exact ih f true (a + 1) (sg (M.2.1 6) N a :: stW (sg (M.2.1 6) N a) Wl) (stT (sg (M.2.1 6) N a) Wl tk) dg v Sg2 _ (by omega) (by omega) (by omega) (by rw [← g3, mrun, if_pos hb2]) k1 (fun j hj => (k2 j hj).trans (g5 j hj)) ((st_TWL g6).put _) (by rw [List.length_cons]; omega) (by rw [List.length_cons]; omega) (fun b hb9 => by rcases List.mem_cons.mp hb9 with z | z; (rw [z]; rcases hb2 with y | y; exact Or.inr (Or.inr (Or.inl y)); exact Or.inr (Or.inr (Or.inr y))); exact st_all g9 b z)
        · refine s_iload_n (j := 0) dX12_takesE_116 rfl ?_
          refine s_bipush (v := 124) dX12_takesE_117 (by decide) ?_
          refine s_icmp_ne dX12_takesE_119 (tgt := 162) (by decide) (fun c119 => ?_) (fun c119 => ?_)
          · have hnb2 : ¬ (sg (M.2.1 6) N a = 38 ∨ sg (M.2.1 6) N a = 124) := fun z => z.elim c113 c119
            refine s_aload_nr (j := 1) dX12_takesE_162 rfl ?_
            refine s_bipush (v := 124) dX12_takesE_163 (by decide) ?_
            refine s_V1v cv_X12_242 rfl dX12_takesE_165 (mh_get (k := 0) hP rfl) rfl (Nat.le_of_ble_eq_true rfl) (m_settle _ P D (msa (msa M 10 (pz c) (nI bs)) 11 (pz c) v) hP a dg bs Sg W Wl tk 124 g4 g6 (by omega) (by omega)) (fun h165 q165 => ?_)
            obtain ⟨Sg2, k1, k2, rfl⟩ := q165
            have sl := st_le 124 Wl
            have sl2 := st_len 124 Wl tk
            refine s_aload_nr (j := 1) dX12_takesE_168 rfl ?_
            refine gP_to dX12_takesE_169 rfl hP ?_
            refine s_iload_n (j := 2) dX12_takesE_172 rfl ?_
            refine s_aload_nr (j := 1) dX12_takesE_173 rfl ?_
            refine gP_signs dX12_takesE_174 rfl hP ?_
            refine sP_to dX12_takesE_177 hP (by first | exact hc | exact vp_in_nI (by omega) (by decide)) ?_
            rw [msa_2]
            refine s_aload_nr (j := 1) dX12_takesE_178 rfl ?_
            refine gP_waiting dX12_takesE_179 rfl hP ?_
            refine s_if_ne dX12_takesE_182 (tgt := 187) (by decide) (fun c182 => ?_) (fun c182 => ?_)
            · obtain ⟨x, r, exr⟩ : ∃ x r, stW 124 Wl = x :: r := by
                cases e : stW 124 Wl with
                | nil => exact absurd (by rw [e]; exact nI_0) c182
                | cons x r => exact ⟨x, r, rfl⟩
              refine s_iload_n (j := 0) dX12_takesE_187 rfl ?_
              refine s_bipush (v := 41) dX12_takesE_188 (by decide) ?_
              refine s_icmp_eq dX12_takesE_190 (tgt := 195) (by decide) (fun c190 => ?_) (fun c190 => ?_)
              · rw [exr, List.length_cons] at sl sl2
                have hTr : TWL W r := by have := st_TWL (s := 124) g6; rw [exr] at this; exact this.2
                have e7 : cO (x :: r) = cO r + 1 := by rw [cO, if_pos (st_top g9 exr)]
                refine s_aload_nr (j := 1) dX12_takesE_195 rfl ?_
                refine s_dup dX12_takesE_196 rfl ?_
                refine gP_waiting dX12_takesE_197 rfl hP ?_
                refine s_iconst (v := 1) dX12_takesE_200 (by decide) ?_
                refine s_isub dX12_takesE_201 ?_
                refine pP_waiting dX12_takesE_202 rfl hP ?_
                rw [exr, show nI (x :: r).length - 1 = nI r.length from nI_pred _]
                refine s_aload_nr (j := 1) dX12_takesE_205 rfl ?_
                refine s_dup dX12_takesE_206 rfl ?_
                refine gP_open dX12_takesE_207 rfl hP ?_
                refine s_iconst (v := 1) dX12_takesE_210 (by decide) ?_
                refine s_isub dX12_takesE_211 ?_
                refine pP_open dX12_takesE_212 rfl hP ?_
                rw [show nI (cO (x :: r)) - 1 = nI (cO r) by rw [e7, nI_pred]]
                refine s_aload_nr (j := 1) dX12_takesE_215 rfl ?_
                refine s_dup dX12_takesE_216 rfl ?_
                refine gP_at dX12_takesE_217 rfl hP ?_
                refine s_iconst (v := 1) dX12_takesE_220 (by decide) ?_
                refine s_iadd dX12_takesE_221 ?_
                refine pP_at dX12_takesE_222 rfl hP ?_
                rw [nI_1]
                refine s_aload_nr (j := 1) dX12_takesE_225 rfl ?_
                refine s_V0v cv_X12_236 rfl dX12_takesE_226 (mh_get (k := 0) hP rfl) rfl (Nat.le_of_ble_eq_true rfl) (m_whole _ P D (msa (msa M 10 (pz c) (nI bs)) 11 (pz c) (nI (bs + (stT 124 Wl tk).length))) hP (a + 1) dg bs Sg2 W r (stT 124 Wl tk) k1 hTr (by omega) (by omega)) (fun h226 q226 => ?_)
                obtain ⟨Sg3, k3, k4, rfl⟩ := q226
                refine s_goto dX12_takesE_229 (tgt := 22) (by decide) ?_
                refine s_locals [1, 2, 3] rfl ?_
                have haN : a < N := sg_lt (fun z => by rw [z] at c190; exact absurd c190 (by decide))
                have hw := wh_len r (stT 124 Wl tk)
                have hw2 := wh_le r
                have al2 : ∀ b, b ∈ r → wsg b := fun b hb9 => st_all (s := 124) g9 b (by rw [exr]; exact List.mem_cons_of_mem _ hb9)
                exact ih f false (a + 1) (whW r) (whT r (stT 124 Wl tk)) dg _ Sg3 W (by omega) (by omega) (by omega) (by rw [← g3, mrun, if_neg hnb2, if_neg (by rw [exr]; exact List.cons_ne_nil _ _), if_pos c190, exr]; rfl) k3 (fun j hj => (k4 j hj).trans ((k2 j hj).trans (g5 j hj))) (wh_TWL hTr) (by omega) (by omega) (wh_all al2)
              · refine s_iconst (v := 0) dX12_takesE_193 (by decide) ?_
                exact e_zret dX12_takesE_194 rfl (by first | rfl | exact b2i_z | decide) (by rw [← g3, mrun, if_neg hnb2, if_neg (by rw [exr]; exact List.cons_ne_nil _ _), if_neg c190]; exact ⟨(b2i_f (by simp)).symm, dg, _, _, _, Sg2, _, k1, (fun j hj => (k2 j hj).trans (g5 j hj)), (fun z => absurd z (by simp)), rfl⟩)
            · refine s_iconst (v := 1) dX12_takesE_185 (by decide) ?_
              exact e_zret dX12_takesE_186 rfl (by first | rfl | exact b2i_z | decide) (by have ew : stW 124 Wl = [] := (by cases e : stW 124 Wl with | nil => rfl | cons x r => rw [e] at c182; exact absurd c182 (nI_ne0 (Nat.succ_pos _) (by rw [e] at sl; omega))); rw [← g3, mrun, if_neg hnb2, if_pos ew]; exact ⟨(b2i_t rfl).symm, dg, _, _, _, Sg2, _, k1, (fun j hj => (k2 j hj).trans (g5 j hj)), (fun _ => rfl), rfl⟩)
          · have hb2 : sg (M.2.1 6) N a = 38 ∨ sg (M.2.1 6) N a = 124 := by first | exact Or.inl c113 | exact Or.inr c119
            refine s_aload_nr (j := 1) dX12_takesE_122 rfl ?_
            refine s_iload_n (j := 0) dX12_takesE_123 rfl ?_
            refine s_V1v cv_X12_242 rfl dX12_takesE_124 (mh_get (k := 0) hP rfl) rfl (Nat.le_of_ble_eq_true rfl) (m_settle _ P D (msa (msa M 10 (pz c) (nI bs)) 11 (pz c) v) hP a dg bs Sg W Wl tk (sg (M.2.1 6) N a) g4 g6 (by omega) (by omega)) (fun h124 q124 => ?_)
            obtain ⟨Sg2, k1, k2, rfl⟩ := q124
            refine s_aload_nr (j := 1) dX12_takesE_127 rfl ?_
            refine gP_waits dX12_takesE_128 rfl hP ?_
            refine s_aload_nr (j := 1) dX12_takesE_131 rfl ?_
            refine gP_waiting dX12_takesE_132 rfl hP ?_
            refine s_iload_n (j := 0) dX12_takesE_135 rfl ?_
            refine sP_waits dX12_takesE_136 hP (by exact vp_in_nI (by have := st_le (sg (M.2.1 6) N a) Wl; omega) (by decide)) ?_
            refine s_aload_nr (j := 1) dX12_takesE_137 rfl ?_
            refine s_dup dX12_takesE_138 rfl ?_
            refine gP_waiting dX12_takesE_139 rfl hP ?_
            refine s_iconst (v := 1) dX12_takesE_142 (by decide) ?_
            refine s_iadd dX12_takesE_143 ?_
            refine pP_waiting dX12_takesE_144 rfl hP ?_
            refine s_iconst (v := 1) dX12_takesE_147 (by decide) ?_
            refine s_istore_n dX12_takesE_148 (by decide) rfl ?_
            refine s_aload_nr (j := 2) dX12_takesE_149 rfl ?_
            refine s_dup dX12_takesE_150 rfl ?_
            refine gP_at dX12_takesE_151 rfl hP ?_
            refine s_iconst (v := 1) dX12_takesE_154 (by decide) ?_
            refine s_iadd dX12_takesE_155 ?_
            refine pP_at dX12_takesE_156 rfl hP ?_
            refine s_goto dX12_takesE_159 (tgt := 22) (by decide) ?_
            refine s_locals [2, 3, 0] rfl ?_
            have haN : a < N := sg_lt (fun z => by rw [z] at hb2; exact absurd hb2 (by decide))
            simp only [nI_1]
            have e9 : cO (sg (M.2.1 6) N a :: stW (sg (M.2.1 6) N a) Wl) = cO (stW (sg (M.2.1 6) N a) Wl) := by rw [cO, if_neg (by rcases hb2 with z | z <;> rw [z] <;> decide)]
            have hl := st_le (sg (M.2.1 6) N a) Wl
            have hl2 := st_len (sg (M.2.1 6) N a) Wl tk
            rw [← e9, show pz (nI (stW (sg (M.2.1 6) N a) Wl).length) = (stW (sg (M.2.1 6) N a) Wl).length from nI_clamp (by omega)]
            exact ih f true (a + 1) (sg (M.2.1 6) N a :: stW (sg (M.2.1 6) N a) Wl) (stT (sg (M.2.1 6) N a) Wl tk) dg v Sg2 _ (by omega) (by omega) (by omega) (by rw [← g3, mrun, if_pos hb2]) k1 (fun j hj => (k2 j hj).trans (g5 j hj)) ((st_TWL g6).put _) (by rw [List.length_cons]; omega) (by rw [List.length_cons]; omega) (fun b hb9 => by rcases List.mem_cons.mp hb9 with z | z; (rw [z]; rcases hb2 with y | y; exact Or.inr (Or.inr (Or.inl y)); exact Or.inr (Or.inr (Or.inr y))); exact st_all g9 b z)
      · obtain rfl : w = true := bz_n0.mp c28
        refine s_iload_n (j := 0) dX12_takesE_31 rfl ?_
        refine s_bipush (v := 33) dX12_takesE_32 (by decide) ?_
        refine s_icmp_eq dX12_takesE_34 (tgt := 43) (by decide) (fun c34 => ?_) (fun c34 => ?_)
        · have hb : sg (M.2.1 6) N a = 33 ∨ sg (M.2.1 6) N a = 40 := by first | exact Or.inl c34 | exact Or.inr c40
          refine s_aload_nr (j := 1) dX12_takesE_43 rfl ?_
          refine gP_open dX12_takesE_44 rfl hP ?_
          refine s_iconst (v := 4) dX12_takesE_47 (by decide) ?_
          refine s_icmp_ne dX12_takesE_48 (tgt := 53) (by decide) (fun c48 => ?_) (fun c48 => ?_)
          · refine s_aload_nr (j := 1) dX12_takesE_53 rfl ?_
            refine s_dup dX12_takesE_54 rfl ?_
            refine gP_open dX12_takesE_55 rfl hP ?_
            refine s_iconst (v := 1) dX12_takesE_58 (by decide) ?_
            refine s_iadd dX12_takesE_59 ?_
            refine pP_open dX12_takesE_60 rfl hP ?_
            refine s_aload_nr (j := 1) dX12_takesE_63 rfl ?_
            refine gP_waits dX12_takesE_64 rfl hP ?_
            refine s_aload_nr (j := 1) dX12_takesE_67 rfl ?_
            refine gP_waiting dX12_takesE_68 rfl hP ?_
            refine s_iload_n (j := 0) dX12_takesE_71 rfl ?_
            refine sP_waits dX12_takesE_72 hP (by first | exact hc | exact vp_in_nI (by omega) (by decide)) ?_
            refine s_aload_nr (j := 1) dX12_takesE_73 rfl ?_
            refine s_dup dX12_takesE_74 rfl ?_
            refine gP_waiting dX12_takesE_75 rfl hP ?_
            refine s_iconst (v := 1) dX12_takesE_78 (by decide) ?_
            refine s_iadd dX12_takesE_79 ?_
            refine pP_waiting dX12_takesE_80 rfl hP ?_
            refine s_aload_nr (j := 1) dX12_takesE_83 rfl ?_
            refine s_dup dX12_takesE_84 rfl ?_
            refine gP_at dX12_takesE_85 rfl hP ?_
            refine s_iconst (v := 1) dX12_takesE_88 (by decide) ?_
            refine s_iadd dX12_takesE_89 ?_
            refine pP_at dX12_takesE_90 rfl hP ?_
            refine s_goto dX12_takesE_93 (tgt := 22) (by decide) ?_
            refine s_locals [1, 2, 3] rfl ?_
            have haN : a < N := sg_lt (fun z => by rw [z] at hb; exact absurd hb (by decide))
            simp only [nI_1]
            have e9 : cO (sg (M.2.1 6) N a :: Wl) = cO Wl + 1 := by rw [cO, if_pos hb]
            rw [← e9, show pz (nI Wl.length) = Wl.length from nI_clamp (by omega)]
            have n4 : ¬ cO Wl = 4 := fun z => c48 (by rw [z]; rfl)
            exact ih f true (a + 1) (sg (M.2.1 6) N a :: Wl) tk dg v Sg _ (by omega) (by omega) (by omega) (by rw [← g3, mrun, if_pos hb, if_neg n4]) g4 g5 (g6.put _) (by rw [List.length_cons]; omega) (by rw [List.length_cons]; omega) (fun b hb9 => by rcases List.mem_cons.mp hb9 with z | z; (rw [z]; rcases hb with y | y; exact Or.inl y; exact Or.inr (Or.inl y)); exact g9 b z)
          · refine s_iconst (v := 0) dX12_takesE_51 (by decide) ?_
            exact e_zret dX12_takesE_52 rfl (by first | rfl | exact b2i_z | decide) (by rw [← g3, mrun, if_pos hb, if_pos (show cO Wl = 4 from (nI_eq (by have : cO Wl ≤ Wl.length := cO_le Wl; omega) (by decide)).mp c48)]; exact ⟨(b2i_f (by simp)).symm, dg, _, _, _, Sg, _, g4, g5, (fun z => absurd z (by simp)), rfl⟩)
        · refine s_iload_n (j := 0) dX12_takesE_37 rfl ?_
          refine s_bipush (v := 40) dX12_takesE_38 (by decide) ?_
          refine s_icmp_ne dX12_takesE_40 (tgt := 96) (by decide) (fun c40 => ?_) (fun c40 => ?_)
          · have hnb : ¬ (sg (M.2.1 6) N a = 33 ∨ sg (M.2.1 6) N a = 40) := fun z => z.elim c34 c40
            refine s_aload_nr (j := 1) dX12_takesE_96 rfl ?_
            refine s_V0i cv_X12_239 rfl dX12_takesE_97 (mh_get (k := 0) hP rfl) rfl (Nat.le_of_ble_eq_true rfl) (m_takesTest _ P D (msa (msa M 10 (pz c) (nI bs)) 11 (pz c) v) hP a dg bs Sg W Wl tk N hN hN1 (by omega) g4 g6 (by omega) (by omega)) (fun y97 h97 q97 => ?_)
            refine s_if_eq dX12_takesE_100 (tgt := 108) (by decide) (fun c100 => ?_) (fun c100 => ?_)
            · rcases q97 with ⟨ht, e1, dg2, hr⟩ | ⟨ht, e1, dg2, hr⟩
              · exact absurd (e1.symm.trans c100) (by decide)
              subst hr
              have ht2 : ¬ ttP (M.2.1 6) N a := ht
              unfold ttP at ht2
              refine s_iconst (v := 0) dX12_takesE_108 (by decide) ?_
              exact e_zret dX12_takesE_109 rfl (by first | rfl | exact b2i_z | decide) (by rw [← g3, mrun, if_neg hnb, if_neg ht2]; exact ⟨(b2i_f (by simp)).symm, dg2, _, _, _, Sg, _, g4, g5, (fun z => absurd z (by simp)), rfl⟩)
            · rcases q97 with ⟨ht, e1, dg2, hr⟩ | ⟨ht, e1, dg2, hr⟩
              rotate_left
              · exact absurd e1 c100
              obtain ⟨Sg2, k1, k2, rfl⟩ := hr
              have ht1 : ttP (M.2.1 6) N a := ht
              have ht2 := ht1
              unfold ttP at ht2
              refine s_iconst (v := 0) dX12_takesE_103 (by decide) ?_
              refine s_istore_n dX12_takesE_104 (by decide) rfl ?_
              refine s_goto dX12_takesE_105 (tgt := 22) (by decide) ?_
              refine s_locals [2, 3, 0] rfl ?_
              have hl := ttA_le ht1
              have hw := wh_len Wl (ttV (M.2.1 6) N a :: tk)
              rw [List.length_cons] at hw
              have hw2 := wh_le Wl
              exact ih f false (ttA (M.2.1 6) N a) (whW Wl) (whT Wl (ttV (M.2.1 6) N a :: tk)) dg2 v Sg2 W (by omega) (by omega) hl.2 (by rw [← g3, mrun, if_neg hnb, if_pos ht2]) k1 (fun j hj => (k2 j hj).trans (g5 j hj)) (wh_TWL g6) (by omega) (by omega) (wh_all g9)
          · have hb : sg (M.2.1 6) N a = 33 ∨ sg (M.2.1 6) N a = 40 := by first | exact Or.inl c34 | exact Or.inr c40
            refine s_aload_nr (j := 1) dX12_takesE_43 rfl ?_
            refine gP_open dX12_takesE_44 rfl hP ?_
            refine s_iconst (v := 4) dX12_takesE_47 (by decide) ?_
            refine s_icmp_ne dX12_takesE_48 (tgt := 53) (by decide) (fun c48 => ?_) (fun c48 => ?_)
            · refine s_aload_nr (j := 1) dX12_takesE_53 rfl ?_
              refine s_dup dX12_takesE_54 rfl ?_
              refine gP_open dX12_takesE_55 rfl hP ?_
              refine s_iconst (v := 1) dX12_takesE_58 (by decide) ?_
              refine s_iadd dX12_takesE_59 ?_
              refine pP_open dX12_takesE_60 rfl hP ?_
              refine s_aload_nr (j := 1) dX12_takesE_63 rfl ?_
              refine gP_waits dX12_takesE_64 rfl hP ?_
              refine s_aload_nr (j := 1) dX12_takesE_67 rfl ?_
              refine gP_waiting dX12_takesE_68 rfl hP ?_
              refine s_iload_n (j := 0) dX12_takesE_71 rfl ?_
              refine sP_waits dX12_takesE_72 hP (by first | exact hc | exact vp_in_nI (by omega) (by decide)) ?_
              refine s_aload_nr (j := 1) dX12_takesE_73 rfl ?_
              refine s_dup dX12_takesE_74 rfl ?_
              refine gP_waiting dX12_takesE_75 rfl hP ?_
              refine s_iconst (v := 1) dX12_takesE_78 (by decide) ?_
              refine s_iadd dX12_takesE_79 ?_
              refine pP_waiting dX12_takesE_80 rfl hP ?_
              refine s_aload_nr (j := 1) dX12_takesE_83 rfl ?_
              refine s_dup dX12_takesE_84 rfl ?_
              refine gP_at dX12_takesE_85 rfl hP ?_
              refine s_iconst (v := 1) dX12_takesE_88 (by decide) ?_
              refine s_iadd dX12_takesE_89 ?_
              refine pP_at dX12_takesE_90 rfl hP ?_
              refine s_goto dX12_takesE_93 (tgt := 22) (by decide) ?_
              refine s_locals [1, 2, 3] rfl ?_
              have haN : a < N := sg_lt (fun z => by rw [z] at hb; exact absurd hb (by decide))
              simp only [nI_1]
              have e9 : cO (sg (M.2.1 6) N a :: Wl) = cO Wl + 1 := by rw [cO, if_pos hb]
              rw [← e9, show pz (nI Wl.length) = Wl.length from nI_clamp (by omega)]
              have n4 : ¬ cO Wl = 4 := fun z => c48 (by rw [z]; rfl)
              exact ih f true (a + 1) (sg (M.2.1 6) N a :: Wl) tk dg v Sg _ (by omega) (by omega) (by omega) (by rw [← g3, mrun, if_pos hb, if_neg n4]) g4 g5 (g6.put _) (by rw [List.length_cons]; omega) (by rw [List.length_cons]; omega) (fun b hb9 => by rcases List.mem_cons.mp hb9 with z | z; (rw [z]; rcases hb with y | y; exact Or.inl y; exact Or.inr (Or.inl y)); exact g9 b z)
            · refine s_iconst (v := 0) dX12_takesE_51 (by decide) ?_
              exact e_zret dX12_takesE_52 rfl (by first | rfl | exact b2i_z | decide) (by rw [← g3, mrun, if_pos hb, if_pos (show cO Wl = 4 from (nI_eq (by have : cO Wl ≤ Wl.length := cO_le Wl; omega) (by decide)).mp c48)]; exact ⟨(b2i_f (by simp)).symm, dg, _, _, _, Sg, _, g4, g5, (fun z => absurd z (by simp)), rfl⟩)
  refine s_locals [1, 2, 0] rfl ?_
  have e8 := LP (N + 2) (N + 1) true a0 [] [] dg0 (M.2.1 11 (pz c)) Sg0 W0 (by omega) (by omega) ha rfl trivial (fun _ _ => rfl) trivial (by simp only [List.length_nil]; omega) (Nat.zero_le _) (fun b hb => by cases hb)
  rw [show nI ([] : List Int32).length = 0 from nI_0, show nI (cO []) = 0 from nI_0, show msa (msa M 10 (pz c) (nI bs)) 11 (pz c) (M.2.1 11 (pz c)) = msa M 10 (pz c) (nI bs) from msa_id (msa M 10 (pz c) (nI bs)) 11 (pz c)] at e8
  exact e8
