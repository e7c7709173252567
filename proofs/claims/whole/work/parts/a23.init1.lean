def sitC (n : Nat) : HP := [.inr (6, [.ref (n + 1), .ref (n + 2), .ref (n + 3), .ref (n + 4), .ref (n + 5), .int 0, .int 0, .int 0, .int 1, .ref (n + 6), .int 0, .ref (n + 7), .ref (n + 8), .ref (n + 9), .int 0, .null, .ref (n + 10)]), .inl (4, 4, .inr (.inr fun _ => .null)), .inl (0, 4, .inl fun _ => 0), .inl (0, 4, .inl fun _ => 0), .inl (0, 4, .inl fun _ => 0), .inl (0, 16, .inl fun _ => 0), .inl (0, 6, .inl fun _ => 0), .inl (0, 10, .inl fun _ => 0), .inl (0, 10, .inl fun _ => 0), .inl (0, 10, .inl fun _ => 0), .inl (0, 6, .inl fun _ => 0)]
def crtC (n : Nat) : HP := [.inr (2, [.ref (n + 1), .int 0, .ref (n + 2), .ref (n + 3), .ref (n + 4), .int 0]), .inl (0, 100, .inl fun _ => 0), .inl (0, 10, .inl fun _ => 0), .inl (0, 10, .inl fun _ => 0), .inl (0, 10, .inl fun _ => 0)]
def tapC (n : Nat) : HP := [.inr (8, [.ref (n + 1), .int 0, .int (-1)]), .inl (1, 60, .inr (.inl fun _ => 0))]
def txtC (n : Nat) : HP := [.inr (9, [.ref (n + 1), .int 0, .int 0]), .inl (2, 100, .inl fun _ => 0)]
set_option maxRecDepth 100000 in
theorem i_X4 (d : Nat) (P : HP) (n : Nat) (hP : P.length = n) : Con (d + 2) qX4_init 10 74 [.ref n] (P ++ [.inr (6, [.null, .null, .null, .null, .null, .int 0, .int 0, .int 0, .int 0, .null, .int 0, .null, .null, .null, .int 0, .null, .null])]) (PV fun h => h = P ++ sitC n) := by
  refine Con.of (by decide +kernel) (Nat.le_of_ble_eq_true rfl) ?_
  show Sem (d + 2) qX4_init 10 74 0 [(0, .ref n)] [] (P ++ (.inr (6, [.null, .null, .null, .null, .null, .int 0, .int 0, .int 0, .int 0, .null, .int 0, .null, .null, .null, .int 0, .null, .null]) :: [])) _
  have hF0 : ([.null, .null, .null, .null, .null, .int 0, .int 0, .int 0, .int 0, .null, .int 0, .null, .null, .null, .int 0, .null, .null] : List Value).length = 17 := rfl
  have hR0 : ([] : HP).length = 0 := rfl
  refine s_aload_nr (j := 0) dX4_init_0 rfl ?_
  refine s_objInit rfl m114 m107 m108 dX4_init_1 (Nat.le_of_ble_eq_true rfl) ?_
  refine s_aload_nr (j := 0) dX4_init_4 rfl ?_
  refine s_iconst (v := 4) dX4_init_5 (by decide) ?_
  refine i_newref (t := 4) (N := 4) hP hR0 dX4_init_6 rfl m115 (fun _ _ z => z.2.2.2.2.2.2.1) rfl (by decide) (by rfl) (by decide) (fun R1 r1 hR1 => ?_)
  refine i_put fl_X4_11_6 tyX4 tyX4_ok nmX4 rfl (Or.inr ⟨rfl, rfl, rfl⟩) (fun _ => ⟨rfl, rfl⟩) dX4_init_9 hP hF0 (by decide) (fun f1 e1 hF1 => ?_)
  refine s_aload_nr (j := 0) dX4_init_12 rfl ?_
  refine s_iconst (v := 4) dX4_init_13 (by decide) ?_
  refine i_newarr (t := 0) (N := 4) (ty := .int) (c0 := .inl fun _ => 0) hP hR1 dX4_init_14 rfl m207 rfl (fun _ _ z => z) (by decide) (by rfl) (by decide) (fun _ => rfl) (fun R2 r2 hR2 => ?_)
  refine i_put fl_X4_17_6 tyX4 tyX4_ok nmX4 rfl (Or.inr ⟨rfl, rfl, rfl⟩) (fun _ => ⟨rfl, rfl⟩) dX4_init_16 hP hF1 (by decide) (fun f2 e2 hF2 => ?_)
  refine s_aload_nr (j := 0) dX4_init_19 rfl ?_
  refine s_iconst (v := 4) dX4_init_20 (by decide) ?_
  refine i_newarr (t := 0) (N := 4) (ty := .int) (c0 := .inl fun _ => 0) hP hR2 dX4_init_21 rfl m207 rfl (fun _ _ z => z) (by decide) (by rfl) (by decide) (fun _ => rfl) (fun R3 r3 hR3 => ?_)
  refine i_put fl_X4_21_6 tyX4 tyX4_ok nmX4 rfl (Or.inr ⟨rfl, rfl, rfl⟩) (fun _ => ⟨rfl, rfl⟩) dX4_init_23 hP hF2 (by decide) (fun f3 e3 hF3 => ?_)
  refine s_aload_nr (j := 0) dX4_init_26 rfl ?_
  refine s_iconst (v := 4) dX4_init_27 (by decide) ?_
  refine i_newarr (t := 0) (N := 4) (ty := .int) (c0 := .inl fun _ => 0) hP hR3 dX4_init_28 rfl m207 rfl (fun _ _ z => z) (by decide) (by rfl) (by decide) (fun _ => rfl) (fun R4 r4 hR4 => ?_)
  refine i_put fl_X4_24_6 tyX4 tyX4_ok nmX4 rfl (Or.inr ⟨rfl, rfl, rfl⟩) (fun _ => ⟨rfl, rfl⟩) dX4_init_30 hP hF3 (by decide) (fun f4 e4 hF4 => ?_)
  refine s_aload_nr (j := 0) dX4_init_33 rfl ?_
  refine s_bipush (v := 16) dX4_init_34 (by decide) ?_
  refine i_newarr (t := 0) (N := 16) (ty := .int) (c0 := .inl fun _ => 0) hP hR4 dX4_init_36 rfl m207 rfl (fun _ _ z => z) (by decide) (by rfl) (by decide) (fun _ => rfl) (fun R5 r5 hR5 => ?_)
  refine i_put fl_X4_27_6 tyX4 tyX4_ok nmX4 rfl (Or.inr ⟨rfl, rfl, rfl⟩) (fun _ => ⟨rfl, rfl⟩) dX4_init_38 hP hF4 (by decide) (fun f5 e5 hF5 => ?_)
  refine s_aload_nr (j := 0) dX4_init_41 rfl ?_
  refine s_iconst (v := 1) dX4_init_42 (by decide) ?_
  refine i_put fl_X4_30_6 tyX4 tyX4_ok nmX4 rfl (Or.inl rfl) (fun _ => ⟨rfl, rfl⟩) dX4_init_43 hP hF5 (by decide) (fun f6 e6 hF6 => ?_)
  refine s_aload_nr (j := 0) dX4_init_46 rfl ?_
  refine s_bipush (v := 6) dX4_init_47 (by decide) ?_
  refine i_newarr (t := 0) (N := 6) (ty := .int) (c0 := .inl fun _ => 0) hP hR5 dX4_init_49 rfl m207 rfl (fun _ _ z => z) (by decide) (by rfl) (by decide) (fun _ => rfl) (fun R6 r6 hR6 => ?_)
  refine i_put fl_X4_34_6 tyX4 tyX4_ok nmX4 rfl (Or.inr ⟨rfl, rfl, rfl⟩) (fun _ => ⟨rfl, rfl⟩) dX4_init_51 hP hF6 (by decide) (fun f7 e7 hF7 => ?_)
  refine s_aload_nr (j := 0) dX4_init_54 rfl ?_
  refine s_bipush (v := 10) dX4_init_55 (by decide) ?_
  refine i_newarr (t := 0) (N := 10) (ty := .int) (c0 := .inl fun _ => 0) hP hR6 dX4_init_57 rfl m207 rfl (fun _ _ z => z) (by decide) (by rfl) (by decide) (fun _ => rfl) (fun R7 r7 hR7 => ?_)
  refine i_put fl_X4_37_6 tyX4 tyX4_ok nmX4 rfl (Or.inr ⟨rfl, rfl, rfl⟩) (fun _ => ⟨rfl, rfl⟩) dX4_init_59 hP hF7 (by decide) (fun f8 e8 hF8 => ?_)
  refine s_aload_nr (j := 0) dX4_init_62 rfl ?_
  refine s_bipush (v := 10) dX4_init_63 (by decide) ?_
  refine i_newarr (t := 0) (N := 10) (ty := .int) (c0 := .inl fun _ => 0) hP hR7 dX4_init_65 rfl m207 rfl (fun _ _ z => z) (by decide) (by rfl) (by decide) (fun _ => rfl) (fun R8 r8 hR8 => ?_)
  refine i_put fl_X4_40_6 tyX4 tyX4_ok nmX4 rfl (Or.inr ⟨rfl, rfl, rfl⟩) (fun _ => ⟨rfl, rfl⟩) dX4_init_67 hP hF8 (by decide) (fun f9 e9 hF9 => ?_)
  refine s_aload_nr (j := 0) dX4_init_70 rfl ?_
  refine s_bipush (v := 10) dX4_init_71 (by decide) ?_
  refine i_newarr (t := 0) (N := 10) (ty := .int) (c0 := .inl fun _ => 0) hP hR8 dX4_init_73 rfl m207 rfl (fun _ _ z => z) (by decide) (by rfl) (by decide) (fun _ => rfl) (fun R9 r9 hR9 => ?_)
  refine i_put fl_X4_43_6 tyX4 tyX4_ok nmX4 rfl (Or.inr ⟨rfl, rfl, rfl⟩) (fun _ => ⟨rfl, rfl⟩) dX4_init_75 hP hF9 (by decide) (fun f10 e10 hF10 => ?_)
  refine s_aload_nr (j := 0) dX4_init_78 rfl ?_
  refine s_ldcS (tx := "pkfswl") (j := 3) dX4_init_79 rfl (by decide) ?_
  refine s_VS0 (i := 3) (by decide) cv_X4_50 rfl rfl dX4_init_81 (Nat.le_of_ble_eq_true rfl) (j_len _ _ 3 (by decide)) (fun y81 h81 q81 => ?_)
  obtain ⟨rfl, rfl⟩ := q81
  refine s_topi (fun z9 ez9 => ?_)
  obtain rfl : z9 = 6 := ez9.trans (by rfl)
  refine i_newarr (t := 0) (N := 6) (ty := .int) (c0 := .inl fun _ => 0) hP hR9 dX4_init_84 rfl m207 rfl (fun _ _ z => z) (by decide) (by rfl) (by decide) (fun _ => rfl) (fun R10 r10 hR10 => ?_)
  refine i_put fl_X4_56_6 tyX4 tyX4_ok nmX4 rfl (Or.inr ⟨rfl, rfl, rfl⟩) (fun _ => ⟨rfl, rfl⟩) dX4_init_86 hP hF10 (by decide) (fun f11 e11 hF11 => ?_)
  exact e_vret dX4_init_89 rfl (by subst e11; subst e10; subst e9; subst e8; subst e7; subst e6; subst e5; subst e4; subst e3; subst e2; subst e1; subst r10; subst r9; subst r8; subst r7; subst r6; subst r5; subst r4; subst r3; subst r2; subst r1; rfl)

set_option maxRecDepth 100000 in
theorem i_X0 (d : Nat) (P : HP) (n : Nat) (hP : P.length = n) : Con (d + 1) qX0_init 4 130 [.ref n] (P ++ [.inr (2, [.null, .int 0, .null, .null, .null, .int 0])]) (PV fun h => h = P ++ crtC n) := by
  refine Con.of (by decide +kernel) (Nat.le_of_ble_eq_true rfl) ?_
  show Sem (d + 1) qX0_init 4 130 0 [(0, .ref n)] [] (P ++ (.inr (2, [.null, .int 0, .null, .null, .null, .int 0]) :: [])) _
  have hF0 : ([.null, .int 0, .null, .null, .null, .int 0] : List Value).length = 6 := rfl
  have hR0 : ([] : HP).length = 0 := rfl
  refine s_aload_nr (j := 0) dX0_init_0 rfl ?_
  refine s_objInit rfl m263 m107 m108 dX0_init_1 (Nat.le_of_ble_eq_true rfl) ?_
  refine s_aload_nr (j := 0) dX0_init_4 rfl ?_
  refine s_bipush (v := 100) dX0_init_5 (by decide) ?_
  refine i_newarr (t := 0) (N := 100) (ty := .int) (c0 := .inl fun _ => 0) hP hR0 dX0_init_7 rfl m207 rfl (fun _ _ z => z) (by decide) (by rfl) (by decide) (fun _ => rfl) (fun R1 r1 hR1 => ?_)
  refine i_put fl_X0_9_2 tyX0 tyX0_ok nmX0 rfl (Or.inr ⟨rfl, rfl, rfl⟩) (fun _ => ⟨rfl, rfl⟩) dX0_init_9 hP hF0 (by decide) (fun f1 e1 hF1 => ?_)
  refine s_aload_nr (j := 0) dX0_init_12 rfl ?_
  refine s_bipush (v := 10) dX0_init_13 (by decide) ?_
  refine i_newarr (t := 0) (N := 10) (ty := .int) (c0 := .inl fun _ => 0) hP hR1 dX0_init_15 rfl m207 rfl (fun _ _ z => z) (by decide) (by rfl) (by decide) (fun _ => rfl) (fun R2 r2 hR2 => ?_)
  refine i_put fl_X0_15_2 tyX0 tyX0_ok nmX0 rfl (Or.inr ⟨rfl, rfl, rfl⟩) (fun _ => ⟨rfl, rfl⟩) dX0_init_17 hP hF1 (by decide) (fun f2 e2 hF2 => ?_)
  refine s_aload_nr (j := 0) dX0_init_20 rfl ?_
  refine s_bipush (v := 10) dX0_init_21 (by decide) ?_
  refine i_newarr (t := 0) (N := 10) (ty := .int) (c0 := .inl fun _ => 0) hP hR2 dX0_init_23 rfl m207 rfl (fun _ _ z => z) (by decide) (by rfl) (by decide) (fun _ => rfl) (fun R3 r3 hR3 => ?_)
  refine i_put fl_X0_18_2 tyX0 tyX0_ok nmX0 rfl (Or.inr ⟨rfl, rfl, rfl⟩) (fun _ => ⟨rfl, rfl⟩) dX0_init_25 hP hF2 (by decide) (fun f3 e3 hF3 => ?_)
  refine s_aload_nr (j := 0) dX0_init_28 rfl ?_
  refine s_bipush (v := 10) dX0_init_29 (by decide) ?_
  refine i_newarr (t := 0) (N := 10) (ty := .int) (c0 := .inl fun _ => 0) hP hR3 dX0_init_31 rfl m207 rfl (fun _ _ z => z) (by decide) (by rfl) (by decide) (fun _ => rfl) (fun R4 r4 hR4 => ?_)
  refine i_put fl_X0_21_2 tyX0 tyX0_ok nmX0 rfl (Or.inr ⟨rfl, rfl, rfl⟩) (fun _ => ⟨rfl, rfl⟩) dX0_init_33 hP hF3 (by decide) (fun f4 e4 hF4 => ?_)
  exact e_vret dX0_init_36 rfl (by subst e4; subst e3; subst e2; subst e1; subst r4; subst r3; subst r2; subst r1; rfl)

set_option maxRecDepth 100000 in
theorem i_X6 (d : Nat) (P : HP) (n : Nat) (hP : P.length = n) : Con (d + 1) qX6_init 1 60 [.ref n] (P ++ [.inr (8, [.null, .int 0, .int 0])]) (PV fun h => h = P ++ tapC n) := by
  refine Con.of (by decide +kernel) (Nat.le_of_ble_eq_true rfl) ?_
  show Sem (d + 1) qX6_init 1 60 0 [(0, .ref n)] [] (P ++ (.inr (8, [.null, .int 0, .int 0]) :: [])) _
  have hF0 : ([.null, .int 0, .int 0] : List Value).length = 3 := rfl
  have hR0 : ([] : HP).length = 0 := rfl
  refine s_aload_nr (j := 0) dX6_init_0 rfl ?_
  refine s_objInit rfl m287 m107 m108 dX6_init_1 (Nat.le_of_ble_eq_true rfl) ?_
  refine s_aload_nr (j := 0) dX6_init_4 rfl ?_
  refine s_bipush (v := 60) dX6_init_5 (by decide) ?_
  refine i_newarr (t := 1) (N := 60) (ty := .long) (c0 := .inr (.inl fun _ => 0)) hP hR0 dX6_init_7 rfl m299 rfl (fun _ _ z => z) (by decide) (by rfl) (by decide) (fun _ => rfl) (fun R1 r1 hR1 => ?_)
  refine i_put fl_X6_9_8 tyX6 tyX6_ok nmX6 rfl (Or.inr ⟨rfl, rfl, rfl⟩) (fun _ => ⟨rfl, rfl⟩) dX6_init_9 hP hF0 (by decide) (fun f1 e1 hF1 => ?_)
  refine s_aload_nr (j := 0) dX6_init_12 rfl ?_
  refine s_iconst (v := -1) dX6_init_13 (by decide) ?_
  refine i_put fl_X6_15_8 tyX6 tyX6_ok nmX6 rfl (Or.inl rfl) (fun _ => ⟨rfl, rfl⟩) dX6_init_14 hP hF1 (by decide) (fun f2 e2 hF2 => ?_)
  exact e_vret dX6_init_17 rfl (by subst e2; subst e1; subst r1; rfl)

set_option maxRecDepth 100000 in
theorem i_X7 (d : Nat) (P : HP) (n : Nat) (hP : P.length = n) : Con (d + 1) qX7_init 1 100 [.ref n] (P ++ [.inr (9, [.null, .int 0, .int 0])]) (PV fun h => h = P ++ txtC n) := by
  refine Con.of (by decide +kernel) (Nat.le_of_ble_eq_true rfl) ?_
  show Sem (d + 1) qX7_init 1 100 0 [(0, .ref n)] [] (P ++ (.inr (9, [.null, .int 0, .int 0]) :: [])) _
  have hF0 : ([.null, .int 0, .int 0] : List Value).length = 3 := rfl
  have hR0 : ([] : HP).length = 0 := rfl
  refine s_aload_nr (j := 0) dX7_init_0 rfl ?_
  refine s_objInit rfl m214 m107 m108 dX7_init_1 (Nat.le_of_ble_eq_true rfl) ?_
  refine s_aload_nr (j := 0) dX7_init_4 rfl ?_
  refine s_bipush (v := 100) dX7_init_5 (by decide) ?_
  refine i_newarr (t := 2) (N := 100) (ty := .char) (c0 := .inl fun _ => 0) hP hR0 dX7_init_7 rfl m226 rfl (fun _ _ z => z) (by decide) (by rfl) (by decide) (fun _ => rfl) (fun R1 r1 hR1 => ?_)
  refine i_put fl_X7_9_9 tyX7 tyX7_ok nmX7 rfl (Or.inr ⟨rfl, rfl, rfl⟩) (fun _ => ⟨rfl, rfl⟩) dX7_init_9 hP hF0 (by decide) (fun f1 e1 hF1 => ?_)
  exact e_vret dX7_init_12 rfl (by subst e1; subst r1; rfl)

theorem i_JAC (d : Nat) (h : HP) (n : Nat) : Con (d + 1) qJxa1e45_init_da8c8 0 0 [.ref n] h (PV fun h1 => h1 = h) := by
  refine Con.of (by decide +kernel) (Nat.le_of_ble_eq_true rfl) ?_
  show Sem (d + 1) qJxa1e45_init_da8c8 0 0 0 [(0, .ref n)] [] h _
  refine s_aload_nr (j := 0) dJxa1e45_init_da8c8_0 rfl ?_
  refine s_objInit rfl m242 m107 m108 dJxa1e45_init_da8c8_1 (Nat.le_of_ble_eq_true rfl) ?_
  exact e_vret dJxa1e45_init_da8c8_4 rfl rfl
theorem i_JAL (d : Nat) (P : HP) (n : Nat) (hP : P.length = n) : Con (d + 2) qJxc12de_init_da8c8 0 0 [.ref n] (P ++ [.inr (1, [.int 0, .null, .int 0])]) (PV fun h => h = P ++ [.inr (1, [.int 0, .null, .int 0])]) := by
  refine Con.of (by decide +kernel) (Nat.le_of_ble_eq_true rfl) ?_
  show Sem (d + 2) qJxc12de_init_da8c8 0 0 0 [(0, .ref n)] [] (P ++ (.inr (1, [.int 0, .null, .int 0]) :: [])) _
  refine s_aload_nr (j := 0) dJxc12de_init_da8c8_0 rfl ?_
  refine s_I0v ci_Jxc12de_1 rfl dJxc12de_init_da8c8_1 (Nat.le_of_ble_eq_true rfl) (i_JAC _ _ n) (fun h1 q1 => ?_)
  obtain rfl := q1
  refine s_aload_nr (j := 0) dJxc12de_init_da8c8_4 rfl ?_
  refine s_iconst (v := 0) dJxc12de_init_da8c8_5 (by decide) ?_
  refine i_put fl_Jxc12de_7_1 tyJx4a65c tyJx4a65c_ok nmJx4a65c rfl (Or.inl rfl) (fun _ => ⟨rfl, rfl⟩) dJxc12de_init_da8c8_6 hP rfl (by decide) (fun f1 e1 hF1 => ?_)
  exact e_vret dJxc12de_init_da8c8_9 rfl (by subst e1; rfl)
theorem i_JL (d : Nat) (P : HP) (n : Nat) (hP : P.length = n) : Con (d + 3) qJx4a65c_init_da8c8 0 0 [.ref n] (P ++ [.inr (1, [.int 0, .null, .int 0])]) (PV fun h => h = P ++ [.inr (1, [.int 0, .float 301, .int 0])]) := by
  refine Con.of (by decide +kernel) (Nat.le_of_ble_eq_true rfl) ?_
  show Sem (d + 3) qJx4a65c_init_da8c8 0 0 0 [(0, .ref n)] [] (P ++ [.inr (1, [.int 0, .null, .int 0])]) _
  refine s_aload_nr (j := 0) dJx4a65c_init_da8c8_0 rfl ?_
  refine s_I0v ci_Jx4a65c_1 rfl dJx4a65c_init_da8c8_1 (Nat.le_of_ble_eq_true rfl) (i_JAL _ P n hP) (fun h1 q1 => ?_)
  obtain rfl := q1
  refine s_aload_nr (j := 0) dJx4a65c_init_da8c8_4 rfl ?_
  refine e_empty dJx4a65c_init_da8c8_5 rfl ?_
  refine i_put (R := []) fl_Jx4a65c_9_1 tyJx4a65c tyJx4a65c_ok nmJx4a65c rfl (Or.inl rfl) (fun _ => ⟨rfl, rfl⟩) dJx4a65c_init_da8c8_8 hP rfl (by decide) (fun f1 e1 hF1 => ?_)
  exact e_vret dJx4a65c_init_da8c8_11 rfl (by subst e1; rfl)
