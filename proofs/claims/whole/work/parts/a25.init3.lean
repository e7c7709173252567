def twFin : List Value := [.ref 1, .ref 12, .ref 23, .int 0, .ref 34, .ref 36, .int 0, .ref 37, .ref 38, .ref 39, .ref 40, .ref 41, .ref 47]
/-- what lies ahead of the courts' row, between it and the tapes' row, behind that -/
def twA : HP := .inr (13, twFin) :: (sitC 1 ++ (sitC 12 ++ (sitC 23 ++ txtC 34)))
def twB : HP := [.inr (1, [.int 0, .float 301, .int 0]), .inl (0, 10, .inl fun _ => 0), .inl (0, 10, .inl fun _ => 0), .inl (7, 5, .inr (.inr fun j => .ref (41 + 1 + j))), .inl (0, 5, .inl fun _ => 0), .inl (0, 5, .inl fun _ => 0), .inl (0, 5, .inl fun _ => 0), .inl (0, 5, .inl fun _ => 0), .inl (0, 5, .inl fun _ => 0), .inl (7, 5, .inr (.inr fun j => .ref (47 + 1 + j))), .inl (0, 5, .inl fun _ => 0), .inl (0, 5, .inl fun _ => 0), .inl (0, 5, .inl fun _ => 0), .inl (0, 5, .inl fun _ => 0), .inl (0, 5, .inl fun _ => 0)]
def cf : Nat → Nat → Value
  | 0 => fun _ => .null
  | i + 1 => va_up (cf i) i (.ref (53 + 5 * i))
def tf : Nat → Nat → Value
  | 0 => fun _ => .null
  | i + 1 => va_up (tf i) i (.ref (83 + 2 * i))
def zCo : Nat → HP
  | 0 => []
  | i + 1 => zCo i ++ crtC (53 + 5 * i)
def zTp : Nat → HP
  | 0 => []
  | i + 1 => zTp i ++ tapC (83 + 2 * i)
def zHc (i : Nat) : HP := twA ++ (.inl (5, 6, .inr (.inr (cf i))) :: ((.inl (6, 6, .inr (.inr (tf 0))) :: twB) ++ zCo i))
def zHt (i : Nat) : HP := (twA ++ [.inl (5, 6, .inr (.inr (cf 6)))]) ++ (.inl (6, 6, .inr (.inr (tf i))) :: ((twB ++ zCo 6) ++ zTp i))
/-- the class as it is made -/
def xz0 : XZ := (fun k => if k = 5 ∨ k = 13 ∨ k = 21 then 1 else if k = 41 ∨ k = 43 ∨ k = 45 ∨ k = 47 ∨ k = 49 ∨ k = 51 then -1 else 0, fun _ _ => 0, fun _ _ => 0, fun k => if k = 3 then .float 301 else .null, fun j => if j = 3 then cf 6 else if j = 4 then tf 6 else if j = 5 then fun a => .ref (41 + 1 + a) else if j = 6 then fun a => .ref (47 + 1 + a) else fun _ => .null)
theorem zCo_len : ∀ i, (zCo i).length = 5 * i
  | 0 => rfl
  | i + 1 => by
    show (zCo i ++ crtC (53 + 5 * i)).length = _
    rw [List.length_append, zCo_len i]
    show 5 * i + 5 = _
    omega
theorem zTp_len : ∀ i, (zTp i).length = 2 * i
  | 0 => rfl
  | i + 1 => by
    show (zTp i ++ tapC (83 + 2 * i)).length = _
    rw [List.length_append, zTp_len i]
    show 2 * i + 2 = _
    omega
theorem zHc_len (i : Nat) : (zHc i).length = 53 + 5 * i := by
  unfold zHc
  rw [pl_len (n := 36) (k := 16 + 5 * i) rfl (by rw [List.length_append, zCo_len]; rfl)]
  omega
theorem zHt_len (i : Nat) : (zHt i).length = 83 + 2 * i := by
  unfold zHt
  rw [pl_len (n := 37) (k := 45 + 2 * i) rfl (by rw [List.length_append, zTp_len]; rfl)]
  omega
theorem zHc_more (i : Nat) : zHc i ++ crtC (53 + 5 * i) = twA ++ (.inl (5, 6, .inr (.inr (cf i))) :: ((.inl (6, 6, .inr (.inr (tf 0))) :: twB) ++ zCo (i + 1))) := by
  unfold zHc
  rw [pl_push, List.append_assoc]
  rfl
theorem zHt_more (i : Nat) : zHt i ++ tapC (83 + 2 * i) = (twA ++ [.inl (5, 6, .inr (.inr (cf 6)))]) ++ (.inl (6, 6, .inr (.inr (tf i))) :: ((twB ++ zCo 6) ++ zTp (i + 1))) := by
  unfold zHt
  rw [pl_push, List.append_assoc]
  rfl
section Init11
variable {d mc ms : Nat} {Qp : PO}
set_option maxRecDepth 100000 in
set_option maxHeartbeats 4000000 in
theorem i_X11a (kk : Sem (d + 4) qX11_init 42 1194 113 [(0, .ref 0)] [] (zHc 0) Qp) : Sem (d + 4) qX11_init 94 1665 0 [(0, .ref 0)] [] ([] ++ (.inr (13, [.null, .null, .null, .int 0, .null, .null, .int 0, .null, .null, .null, .null, .null, .null]) :: [])) Qp := by
  have hF0 : ([.null, .null, .null, .int 0, .null, .null, .int 0, .null, .null, .null, .null, .null, .null] : List Value).length = 13 := rfl
  have hR0 : ([] : HP).length = 0 := rfl
  have hP : ([] : HP).length = 0 := rfl
  refine s_aload_nr (j := 0) dX11_init_0 rfl ?_
  refine s_objInit rfl m106 m107 m108 dX11_init_1 (Nat.le_of_ble_eq_true rfl) ?_
  refine s_aload_nr (j := 0) dX11_init_4 rfl ?_
  refine i_newO (P := []) (N := 17) (fs := [.null, .null, .null, .null, .null, .int 0, .int 0, .int 0, .int 0, .null, .int 0, .null, .null, .null, .int 0, .null, .null]) (ci := 6) hP hR0 tyX4 tyX4_ok dX11_init_5 rfl uw_X4 m109 m110 m73 rfl (fun _ j hj => match j, hj with | 0, _ | 1, _ | 2, _ | 3, _ | 4, _ | 5, _ | 6, _ | 7, _ | 8, _ | 9, _ | 10, _ | 11, _ | 12, _ | 13, _ | 14, _ | 15, _ | 16, _ => rfl | k + 17, hj => absurd hj (by omega)) ?_
  refine s_dup dX11_init_8 rfl ?_
  refine s_I0vm (mc := 83) (ms := 1574) ci_X11_11 rfl dX11_init_9 (Nat.le_of_ble_eq_true rfl) (i_X4 _ _ _ (pl_len (P := []) hP hR0)) rfl rfl (fun h9 q9 => ?_)
  obtain rfl := q9
  refine i_back hR0 (m := 11) rfl (fun R1 r1 hR1 => ?_)
  refine i_put fl_X11_12_13 tyX11 tyX11_ok nmX11 rfl (Or.inr ⟨rfl, rfl, rfl⟩) (fun _ => ⟨rfl, rfl⟩) dX11_init_12 (P := []) hP hF0 (by decide) (fun f1 e1 hF1 => ?_)
  refine s_aload_nr (j := 0) dX11_init_15 rfl ?_
  refine i_newO (P := []) (N := 17) (fs := [.null, .null, .null, .null, .null, .int 0, .int 0, .int 0, .int 0, .null, .int 0, .null, .null, .null, .int 0, .null, .null]) (ci := 6) hP hR1 tyX4 tyX4_ok dX11_init_16 rfl uw_X4 m109 m110 m73 rfl (fun _ j hj => match j, hj with | 0, _ | 1, _ | 2, _ | 3, _ | 4, _ | 5, _ | 6, _ | 7, _ | 8, _ | 9, _ | 10, _ | 11, _ | 12, _ | 13, _ | 14, _ | 15, _ | 16, _ => rfl | k + 17, hj => absurd hj (by omega)) ?_
  refine s_dup dX11_init_19 rfl ?_
  refine s_I0vm (mc := 72) (ms := 1483) ci_X11_11 rfl dX11_init_20 (Nat.le_of_ble_eq_true rfl) (i_X4 _ _ _ (pl_len (P := []) hP hR1)) rfl rfl (fun h9 q9 => ?_)
  obtain rfl := q9
  refine i_back hR1 (m := 11) rfl (fun R2 r2 hR2 => ?_)
  refine i_put fl_X11_18_13 tyX11 tyX11_ok nmX11 rfl (Or.inr ⟨rfl, rfl, rfl⟩) (fun _ => ⟨rfl, rfl⟩) dX11_init_23 (P := []) hP hF1 (by decide) (fun f2 e2 hF2 => ?_)
  refine s_aload_nr (j := 0) dX11_init_26 rfl ?_
  refine i_newO (P := []) (N := 17) (fs := [.null, .null, .null, .null, .null, .int 0, .int 0, .int 0, .int 0, .null, .int 0, .null, .null, .null, .int 0, .null, .null]) (ci := 6) hP hR2 tyX4 tyX4_ok dX11_init_27 rfl uw_X4 m109 m110 m73 rfl (fun _ j hj => match j, hj with | 0, _ | 1, _ | 2, _ | 3, _ | 4, _ | 5, _ | 6, _ | 7, _ | 8, _ | 9, _ | 10, _ | 11, _ | 12, _ | 13, _ | 14, _ | 15, _ | 16, _ => rfl | k + 17, hj => absurd hj (by omega)) ?_
  refine s_dup dX11_init_30 rfl ?_
  refine s_I0vm (mc := 61) (ms := 1392) ci_X11_11 rfl dX11_init_31 (Nat.le_of_ble_eq_true rfl) (i_X4 _ _ _ (pl_len (P := []) hP hR2)) rfl rfl (fun h9 q9 => ?_)
  obtain rfl := q9
  refine i_back hR2 (m := 11) rfl (fun R3 r3 hR3 => ?_)
  refine i_put fl_X11_21_13 tyX11 tyX11_ok nmX11 rfl (Or.inr ⟨rfl, rfl, rfl⟩) (fun _ => ⟨rfl, rfl⟩) dX11_init_34 (P := []) hP hF2 (by decide) (fun f3 e3 hF3 => ?_)
  refine s_aload_nr (j := 0) dX11_init_37 rfl ?_
  refine i_newO (P := []) (N := 3) (fs := [.null, .int 0, .int 0]) (ci := 9) hP hR3 tyX7 tyX7_ok dX11_init_38 rfl uw_X7 m209 m210 m75 rfl (fun _ j hj => match j, hj with | 0, _ | 1, _ | 2, _ => rfl) ?_
  refine s_dup dX11_init_41 rfl ?_
  refine s_I0vm (mc := 59) (ms := 1289) ci_X11_26 rfl dX11_init_42 (Nat.le_of_ble_eq_true rfl) (i_X7 _ _ _ (pl_len (P := []) hP hR3)) rfl rfl (fun h9 q9 => ?_)
  obtain rfl := q9
  refine i_back hR3 (m := 2) rfl (fun R4 r4 hR4 => ?_)
  refine i_put fl_X11_27_13 tyX11 tyX11_ok nmX11 rfl (Or.inr ⟨rfl, rfl, rfl⟩) (fun _ => ⟨rfl, rfl⟩) dX11_init_45 (P := []) hP hF3 (by decide) (fun f4 e4 hF4 => ?_)
  refine s_aload_nr (j := 0) dX11_init_48 rfl ?_
  refine s_bipush (v := 6) dX11_init_49 (by decide) ?_
  refine i_newref (t := 5) (N := 6) (P := []) hP hR4 dX11_init_51 rfl m227 (fun _ _ z => z.2.2.2.2.2.2.2.1) rfl (by decide) (by rfl) (by decide) (fun R5 r5 hR5 => ?_)
  refine i_put fl_X11_33_13 tyX11 tyX11_ok nmX11 rfl (Or.inr ⟨rfl, rfl, rfl⟩) (fun _ => ⟨rfl, rfl⟩) dX11_init_54 (P := []) hP hF4 (by decide) (fun f5 e5 hF5 => ?_)
  refine s_aload_nr (j := 0) dX11_init_57 rfl ?_
  refine s_bipush (v := 6) dX11_init_58 (by decide) ?_
  refine i_newref (t := 6) (N := 6) (P := []) hP hR5 dX11_init_60 rfl m229 (fun _ _ z => z.2.2.2.2.2.2.2.2.1) rfl (by decide) (by rfl) (by decide) (fun R6 r6 hR6 => ?_)
  refine i_put fl_X11_39_13 tyX11 tyX11_ok nmX11 rfl (Or.inr ⟨rfl, rfl, rfl⟩) (fun _ => ⟨rfl, rfl⟩) dX11_init_63 (P := []) hP hF5 (by decide) (fun f6 e6 hF6 => ?_)
  refine s_aload_nr (j := 0) dX11_init_66 rfl ?_
  refine i_newO (P := []) (N := 3) (fs := [.int 0, .null, .int 0]) (ci := 1) hP hR6 tyJx4a65c tyJx4a65c_ok dX11_init_67 rfl uw_Jx4a65c m231 m232 m78 rfl (fun _ j hj => match j, hj with | 0, _ | 1, _ | 2, _ => rfl) ?_
  refine s_dup dX11_init_70 rfl ?_
  refine s_I0v ci_X11_45 rfl dX11_init_71 (Nat.le_of_ble_eq_true rfl) (i_JL _ _ _ (pl_len (P := []) hP hR6)) (fun h9 q9 => ?_)
  obtain rfl := q9
  refine i_back hR6 (m := 1) rfl (fun R7 r7 hR7 => ?_)
  refine i_put fl_X11_46_13 tyX11 tyX11_ok nmX11 rfl (Or.inr ⟨rfl, rfl, rfl⟩) (fun _ => ⟨rfl, rfl⟩) dX11_init_74 (P := []) hP hF6 (by decide) (fun f7 e7 hF7 => ?_)
  refine s_aload_nr (j := 0) dX11_init_77 rfl ?_
  refine s_bipush (v := 10) dX11_init_78 (by decide) ?_
  refine i_newarr (t := 0) (N := 10) (ty := .int) (c0 := .inl fun _ => 0) (P := []) hP hR7 dX11_init_80 rfl m207 rfl (fun _ _ z => z) (by decide) (by rfl) (by decide) (fun _ => rfl) (fun R8 r8 hR8 => ?_)
  refine i_put fl_X11_50_13 tyX11 tyX11_ok nmX11 rfl (Or.inr ⟨rfl, rfl, rfl⟩) (fun _ => ⟨rfl, rfl⟩) dX11_init_82 (P := []) hP hF7 (by decide) (fun f8 e8 hF8 => ?_)
  refine s_aload_nr (j := 0) dX11_init_85 rfl ?_
  refine s_bipush (v := 10) dX11_init_86 (by decide) ?_
  refine i_newarr (t := 0) (N := 10) (ty := .int) (c0 := .inl fun _ => 0) (P := []) hP hR8 dX11_init_88 rfl m207 rfl (fun _ _ z => z) (by decide) (by rfl) (by decide) (fun _ => rfl) (fun R9 r9 hR9 => ?_)
  refine i_put fl_X11_54_13 tyX11 tyX11_ok nmX11 rfl (Or.inr ⟨rfl, rfl, rfl⟩) (fun _ => ⟨rfl, rfl⟩) dX11_init_90 (P := []) hP hF8 (by decide) (fun f9 e9 hF9 => ?_)
  refine s_aload_nr (j := 0) dX11_init_93 rfl ?_
  refine s_iconst (v := 5) dX11_init_94 (by decide) ?_
  refine s_iconst (v := 5) dX11_init_95 (by decide) ?_
  refine i_mna (P := []) hP hR9 dX11_init_96 rfl m257 (fun R10 r10 hR10 => ?_)
  refine i_put fl_X11_59_13 tyX11 tyX11_ok nmX11 rfl (Or.inr ⟨rfl, rfl, rfl⟩) (fun _ => ⟨rfl, rfl⟩) dX11_init_100 (P := []) hP hF9 (by decide) (fun f10 e10 hF10 => ?_)
  refine s_aload_nr (j := 0) dX11_init_103 rfl ?_
  refine s_iconst (v := 5) dX11_init_104 (by decide) ?_
  refine s_iconst (v := 5) dX11_init_105 (by decide) ?_
  refine i_mna (P := []) hP hR10 dX11_init_106 rfl m257 (fun R11 r11 hR11 => ?_)
  refine i_put fl_X11_62_13 tyX11 tyX11_ok nmX11 rfl (Or.inr ⟨rfl, rfl, rfl⟩) (fun _ => ⟨rfl, rfl⟩) dX11_init_110 (P := []) hP hF10 (by decide) (fun f11 e11 hF11 => ?_)
  subst e11; subst e10; subst e9; subst e8; subst e7; subst e6; subst e5; subst e4; subst e3; subst e2; subst e1; subst r11; subst r10; subst r9; subst r8; subst r7; subst r6; subst r5; subst r4; subst r3; subst r2; subst r1; exact kk
set_option maxRecDepth 100000 in
theorem i_cst (i : Nat) (hi : i < 6) (kk : Sem (d + 4) qX11_init mc ms 115 [(0, .ref 0), (1, .int (nI (i + 1)))] [] (zHc (i + 1)) Qp) : Sem (d + 4) qX11_init (mc + 4 + 1) (ms + 130 + 6) 115 [(0, .ref 0), (1, .int (nI i))] [] (zHc i) Qp := by
  refine s_iload_n (j := 1) dX11_init_115 rfl ?_
  refine s_bipush (v := 6) dX11_init_116 (by decide) ?_
  refine s_icmp_ge dX11_init_118 (tgt := 140) (by decide) (fun c9 => ?_) (fun c9 => ?_)
  · exact absurd (nI_lt (b := 6) hi (by decide)) (Int32.not_lt.mpr c9)
  · refine s_aload_nr (j := 0) dX11_init_121 rfl ?_
    refine s_get fl_X11_33_13 rfl dX11_init_122 (show (zHc i)[0]? = some (.inr (13, twFin)) from rfl) rfl ?_
    refine s_iload_n (j := 1) dX11_init_125 rfl ?_
    refine s_new (N := 6) (ci := 2) (fs := [.null, .int 0, .null, .null, .null, .int 0]) tyX0 tyX0_ok dX11_init_126 rfl uw_X0 m227 m259 m79 rfl (fun _ j hj => match j, hj with | 0, _ | 1, _ | 2, _ | 3, _ | 4, _ | 5, _ => rfl) ?_
    rw [zHc_len]
    refine s_dup dX11_init_129 rfl ?_
    refine s_I0vm (mc := mc) (ms := ms) ci_X11_65 rfl dX11_init_130 (Nat.le_of_ble_eq_true rfl) (i_X0 _ (zHc i) (53 + 5 * i) (zHc_len i)) (by omega) (by omega) (fun h9 q9 => ?_)
    obtain rfl := q9
    have hv : (zHc i ++ crtC (53 + 5 * i))[53 + 5 * i]? = (crtC (53 + 5 * i))[0]? := by
      rw [List.getElem?_append_right (by rw [zHc_len]; exact Nat.le_refl _), zHc_len, Nat.sub_self]
    rw [zHc_more] at hv ⊢
    refine s_aast (t := 5) (E := "TwoServes$Court") (ci := 2) dX11_init_133 (pl_get (n := 36) rfl) rfl hv rfl (Or.inl rfl) (vp_in_nI hi (by decide)) ?_
    rw [pl_set (n := 36) rfl, nI_clamp (n := i) (by omega)]
    refine s_iinc (j := 1) (v := _ + (1)) dX11_init_134 rfl rfl (by decide) rfl ?_
    refine s_goto dX11_init_137 (tgt := 115) (by decide) ?_
    refine s_locals [1, 0] rfl ?_
    simp only [nI_1]
    exact kk
set_option maxRecDepth 100000 in
theorem i_tst (i : Nat) (hi : i < 6) (kk : Sem (d + 4) qX11_init mc ms 142 [(0, .ref 0), (1, .int (nI (i + 1)))] [] (zHt (i + 1)) Qp) : Sem (d + 4) qX11_init (mc + 1 + 1) (ms + 60 + 3) 142 [(0, .ref 0), (1, .int (nI i))] [] (zHt i) Qp := by
  refine s_iload_n (j := 1) dX11_init_142 rfl ?_
  refine s_bipush (v := 6) dX11_init_143 (by decide) ?_
  refine s_icmp_ge dX11_init_145 (tgt := 167) (by decide) (fun c9 => ?_) (fun c9 => ?_)
  · exact absurd (nI_lt (b := 6) hi (by decide)) (Int32.not_lt.mpr c9)
  · refine s_aload_nr (j := 0) dX11_init_148 rfl ?_
    refine s_get fl_X11_39_13 rfl dX11_init_149 (show (zHt i)[0]? = some (.inr (13, twFin)) from rfl) rfl ?_
    refine s_iload_n (j := 1) dX11_init_152 rfl ?_
    refine s_new (N := 3) (ci := 8) (fs := [.null, .int 0, .int 0]) tyX6 tyX6_ok dX11_init_153 rfl uw_X6 m229 m283 m80 rfl (fun _ j hj => match j, hj with | 0, _ | 1, _ | 2, _ => rfl) ?_
    rw [zHt_len]
    refine s_dup dX11_init_156 rfl ?_
    refine s_I0vm (mc := mc) (ms := ms) ci_X11_66 rfl dX11_init_157 (Nat.le_of_ble_eq_true rfl) (i_X6 _ (zHt i) (83 + 2 * i) (zHt_len i)) (by omega) (by omega) (fun h9 q9 => ?_)
    obtain rfl := q9
    have hv : (zHt i ++ tapC (83 + 2 * i))[83 + 2 * i]? = (tapC (83 + 2 * i))[0]? := by
      rw [List.getElem?_append_right (by rw [zHt_len]; exact Nat.le_refl _), zHt_len, Nat.sub_self]
    rw [zHt_more] at hv ⊢
    refine s_aast (t := 6) (E := "TwoServes$Tape") (ci := 8) dX11_init_160 (pl_get (n := 37) rfl) rfl hv rfl (Or.inl rfl) (vp_in_nI hi (by decide)) ?_
    rw [pl_set (n := 37) rfl, nI_clamp (n := i) (by omega)]
    refine s_iinc (j := 1) (v := _ + (1)) dX11_init_161 rfl rfl (by decide) rfl ?_
    refine s_goto dX11_init_164 (tgt := 142) (by decide) ?_
    refine s_locals [1, 0] rfl ?_
    simp only [nI_1]
    exact kk
theorem zHt_0 : zHc 6 = zHt 0 := rfl
theorem zHt_6 : zHt 6 = xcells xz0 := rfl
theorem i_X11 : Con (d + 4) qX11_init 94 1665 [.ref 0] [.inr (13, [.null, .null, .null, .int 0, .null, .null, .int 0, .null, .null, .null, .null, .null, .null])] (PV fun h => h = xcells xz0) := by
  refine Con.of (by decide +kernel) (Nat.le_of_ble_eq_true rfl) ?_
  show Sem (d + 4) qX11_init 94 1665 0 [(0, .ref 0)] [] ([] ++ (.inr (13, [.null, .null, .null, .int 0, .null, .null, .int 0, .null, .null, .null, .null, .null, .null]) :: [])) _
  refine i_X11a ?_
  refine s_iconst (v := 0) dX11_init_113 (by decide) ?_
  refine s_istore_n dX11_init_114 (by decide) rfl ?_
  refine s_locals [1, 0] rfl ?_
  refine i_cst (mc := 37) (ms := 1058) 0 (by decide) ?_
  refine i_cst (mc := 32) (ms := 922) 1 (by decide) ?_
  refine i_cst (mc := 27) (ms := 786) 2 (by decide) ?_
  refine i_cst (mc := 22) (ms := 650) 3 (by decide) ?_
  refine i_cst (mc := 17) (ms := 514) 4 (by decide) ?_
  refine i_cst (mc := 12) (ms := 378) 5 (by decide) ?_
  refine s_iload_n (j := 1) dX11_init_115 rfl ?_
  refine s_bipush (v := 6) dX11_init_116 (by decide) ?_
  refine s_icmp_ge dX11_init_118 (tgt := 140) (by decide) (fun c9 => ?_) (fun c9 => absurd (by decide) c9)
  refine s_iconst (v := 0) dX11_init_140 (by decide) ?_
  refine s_istore_n dX11_init_141 (by decide) rfl ?_
  refine s_locals [1, 0] rfl ?_
  rw [show zHc (5 + 1) = zHt 0 from zHt_0]
  refine i_tst (mc := 10) (ms := 315) 0 (by decide) ?_
  refine i_tst (mc := 8) (ms := 252) 1 (by decide) ?_
  refine i_tst (mc := 6) (ms := 189) 2 (by decide) ?_
  refine i_tst (mc := 4) (ms := 126) 3 (by decide) ?_
  refine i_tst (mc := 2) (ms := 63) 4 (by decide) ?_
  refine i_tst (mc := 0) (ms := 0) 5 (by decide) ?_
  refine s_iload_n (j := 1) dX11_init_142 rfl ?_
  refine s_bipush (v := 6) dX11_init_143 (by decide) ?_
  refine s_icmp_ge dX11_init_145 (tgt := 167) (by decide) (fun c9 => ?_) (fun c9 => absurd (by decide) c9)
  exact e_vret dX11_init_167 rfl zHt_6
end Init11
