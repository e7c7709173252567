/-- the model as it is made -/
def mz0 : MZ := (fun k => if k = 3 then 1 else if k = 5 then -1 else if k = 15 then -1 else if k = 19 then 1 else 0, fun j => if j = 14 then upd (upd (upd (upd (upd (upd (upd (upd (fun _ => 0) 0 105) 1 110) 2 119) 3 105) 4 110) 5 111) 6 117) 7 116 else if j = 36 then upd (upd (upd (upd (upd (upd (fun _ => 0) 0 (-1)) 1 (-1)) 2 (-1)) 3 (-1)) 4 (-1)) 5 (-1) else fun _ => 0, fun _ _ => 0)
set_option maxRecDepth 100000 in
set_option maxHeartbeats 4000000 in
theorem i_X12 (d : Nat) (P : HP) (hP : P.length = 95) : Con (d + 1) qX12_init 40 1817 [.ref 95] (P ++ [.inr (14, [.int 0, .int 0, .int 0, .int 0, .null, .null, .null, .null, .null, .null, .int 0, .int 0, .int 0, .int 0, .int 0, .null, .null, .null, .null, .null, .null, .null, .null, .int 0, .int 0, .int 0, .null, .null, .null, .null, .int 0, .null, .null, .int 0, .null, .null, .null, .null, .int 0, .int 0, .int 0, .int 0, .int 0, .int 0, .int 0, .int 0, .null, .null, .null, .null, .null, .null, .null, .null, .null, .null, .null, .int 0, .null, .null, .null, .null, .null])]) (PV fun h => h = P ++ mcells mz0) := by
  refine Con.of (by decide +kernel) (Nat.le_of_ble_eq_true rfl) ?_
  show Sem (d + 1) qX12_init 40 1817 0 [(0, .ref 95)] [] (P ++ (.inr (14, [.int 0, .int 0, .int 0, .int 0, .null, .null, .null, .null, .null, .null, .int 0, .int 0, .int 0, .int 0, .int 0, .null, .null, .null, .null, .null, .null, .null, .null, .int 0, .int 0, .int 0, .null, .null, .null, .null, .int 0, .null, .null, .int 0, .null, .null, .null, .null, .int 0, .int 0, .int 0, .int 0, .int 0, .int 0, .int 0, .int 0, .null, .null, .null, .null, .null, .null, .null, .null, .null, .null, .null, .int 0, .null, .null, .null, .null, .null]) :: [])) _
  have hF0 : ([.int 0, .int 0, .int 0, .int 0, .null, .null, .null, .null, .null, .null, .int 0, .int 0, .int 0, .int 0, .int 0, .null, .null, .null, .null, .null, .null, .null, .null, .int 0, .int 0, .int 0, .null, .null, .null, .null, .int 0, .null, .null, .int 0, .null, .null, .null, .null, .int 0, .int 0, .int 0, .int 0, .int 0, .int 0, .int 0, .int 0, .null, .null, .null, .null, .null, .null, .null, .null, .null, .null, .null, .int 0, .null, .null, .null, .null, .null] : List Value).length = 63 := rfl
  have hR0 : ([] : HP).length = 0 := rfl
  refine s_aload_nr (j := 0) dX12_init_0 rfl ?_
  refine s_objInit rfl m1155 m107 m108 dX12_init_1 (Nat.le_of_ble_eq_true rfl) ?_
  refine s_aload_nr (j := 0) dX12_init_4 rfl ?_
  refine s_iconst (v := 0) dX12_init_5 (by decide) ?_
  refine i_put fl_X12_7_14 tyX12 tyX12_ok nmX12 rfl (Or.inl rfl) (fun _ => ⟨rfl, rfl⟩) dX12_init_6 hP hF0 (by decide) (fun f1 e1 hF1 => ?_)
  refine s_aload_nr (j := 0) dX12_init_9 rfl ?_
  refine s_iconst (v := 0) dX12_init_10 (by decide) ?_
  refine i_put fl_X12_13_14 tyX12 tyX12_ok nmX12 rfl (Or.inl rfl) (fun _ => ⟨rfl, rfl⟩) dX12_init_11 hP hF1 (by decide) (fun f2 e2 hF2 => ?_)
  refine s_aload_nr (j := 0) dX12_init_14 rfl ?_
  refine s_iconst (v := 0) dX12_init_15 (by decide) ?_
  refine i_put fl_X12_16_14 tyX12 tyX12_ok nmX12 rfl (Or.inl rfl) (fun _ => ⟨rfl, rfl⟩) dX12_init_16 hP hF2 (by decide) (fun f3 e3 hF3 => ?_)
  refine s_aload_nr (j := 0) dX12_init_19 rfl ?_
  refine s_iconst (v := 1) dX12_init_20 (by decide) ?_
  refine i_put fl_X12_19_14 tyX12 tyX12_ok nmX12 rfl (Or.inl rfl) (fun _ => ⟨rfl, rfl⟩) dX12_init_21 hP hF3 (by decide) (fun f4 e4 hF4 => ?_)
  refine s_aload_nr (j := 0) dX12_init_24 rfl ?_
  refine s_iconst (v := 4) dX12_init_25 (by decide) ?_
  refine i_newarr (t := 0) (N := 4) (ty := .int) (c0 := .inl fun _ => 0) hP hR0 dX12_init_26 rfl m207 rfl (fun _ _ z => z) (by decide) (by rfl) (by decide) (fun _ => rfl) (fun R1 r1 hR1 => ?_)
  refine i_put fl_X12_22_14 tyX12 tyX12_ok nmX12 rfl (Or.inr ⟨rfl, rfl, rfl⟩) (fun _ => ⟨rfl, rfl⟩) dX12_init_28 hP hF4 (by decide) (fun f5 e5 hF5 => ?_)
  refine s_aload_nr (j := 0) dX12_init_31 rfl ?_
  refine s_iconst (v := 4) dX12_init_32 (by decide) ?_
  refine i_newarr (t := 0) (N := 4) (ty := .int) (c0 := .inl fun _ => 0) hP hR1 dX12_init_33 rfl m207 rfl (fun _ _ z => z) (by decide) (by rfl) (by decide) (fun _ => rfl) (fun R2 r2 hR2 => ?_)
  refine i_put fl_X12_26_14 tyX12 tyX12_ok nmX12 rfl (Or.inr ⟨rfl, rfl, rfl⟩) (fun _ => ⟨rfl, rfl⟩) dX12_init_35 hP hF5 (by decide) (fun f6 e6 hF6 => ?_)
  refine s_aload_nr (j := 0) dX12_init_38 rfl ?_
  refine s_iconst (v := 4) dX12_init_39 (by decide) ?_
  refine i_newarr (t := 0) (N := 4) (ty := .int) (c0 := .inl fun _ => 0) hP hR2 dX12_init_40 rfl m207 rfl (fun _ _ z => z) (by decide) (by rfl) (by decide) (fun _ => rfl) (fun R3 r3 hR3 => ?_)
  refine i_put fl_X12_29_14 tyX12 tyX12_ok nmX12 rfl (Or.inr ⟨rfl, rfl, rfl⟩) (fun _ => ⟨rfl, rfl⟩) dX12_init_42 hP hF6 (by decide) (fun f7 e7 hF7 => ?_)
  refine s_aload_nr (j := 0) dX12_init_45 rfl ?_
  refine s_iconst (v := 4) dX12_init_46 (by decide) ?_
  refine i_newarr (t := 0) (N := 4) (ty := .int) (c0 := .inl fun _ => 0) hP hR3 dX12_init_47 rfl m207 rfl (fun _ _ z => z) (by decide) (by rfl) (by decide) (fun _ => rfl) (fun R4 r4 hR4 => ?_)
  refine i_put fl_X12_32_14 tyX12 tyX12_ok nmX12 rfl (Or.inr ⟨rfl, rfl, rfl⟩) (fun _ => ⟨rfl, rfl⟩) dX12_init_49 hP hF7 (by decide) (fun f8 e8 hF8 => ?_)
  refine s_aload_nr (j := 0) dX12_init_52 rfl ?_
  refine s_iconst (v := 4) dX12_init_53 (by decide) ?_
  refine i_newarr (t := 0) (N := 4) (ty := .int) (c0 := .inl fun _ => 0) hP hR4 dX12_init_54 rfl m207 rfl (fun _ _ z => z) (by decide) (by rfl) (by decide) (fun _ => rfl) (fun R5 r5 hR5 => ?_)
  refine i_put fl_X12_35_14 tyX12 tyX12_ok nmX12 rfl (Or.inr ⟨rfl, rfl, rfl⟩) (fun _ => ⟨rfl, rfl⟩) dX12_init_56 hP hF8 (by decide) (fun f9 e9 hF9 => ?_)
  refine s_aload_nr (j := 0) dX12_init_59 rfl ?_
  refine s_bipush (v := 16) dX12_init_60 (by decide) ?_
  refine i_newarr (t := 0) (N := 16) (ty := .int) (c0 := .inl fun _ => 0) hP hR5 dX12_init_62 rfl m207 rfl (fun _ _ z => z) (by decide) (by rfl) (by decide) (fun _ => rfl) (fun R6 r6 hR6 => ?_)
  refine i_put fl_X12_38_14 tyX12 tyX12_ok nmX12 rfl (Or.inr ⟨rfl, rfl, rfl⟩) (fun _ => ⟨rfl, rfl⟩) dX12_init_64 hP hF9 (by decide) (fun f10 e10 hF10 => ?_)
  refine s_aload_nr (j := 0) dX12_init_67 rfl ?_
  refine s_iconst (v := 0) dX12_init_68 (by decide) ?_
  refine i_put fl_X12_41_14 tyX12 tyX12_ok nmX12 rfl (Or.inl rfl) (fun _ => ⟨rfl, rfl⟩) dX12_init_69 hP hF10 (by decide) (fun f11 e11 hF11 => ?_)
  refine s_aload_nr (j := 0) dX12_init_72 rfl ?_
  refine s_iconst (v := -1) dX12_init_73 (by decide) ?_
  refine i_put fl_X12_44_14 tyX12 tyX12_ok nmX12 rfl (Or.inl rfl) (fun _ => ⟨rfl, rfl⟩) dX12_init_74 hP hF11 (by decide) (fun f12 e12 hF12 => ?_)
  refine s_aload_nr (j := 0) dX12_init_77 rfl ?_
  refine s_iconst (v := 0) dX12_init_78 (by decide) ?_
  refine i_put fl_X12_47_14 tyX12 tyX12_ok nmX12 rfl (Or.inl rfl) (fun _ => ⟨rfl, rfl⟩) dX12_init_79 hP hF12 (by decide) (fun f13 e13 hF13 => ?_)
  refine s_aload_nr (j := 0) dX12_init_82 rfl ?_
  refine s_iconst (v := 0) dX12_init_83 (by decide) ?_
  refine i_put fl_X12_50_14 tyX12 tyX12_ok nmX12 rfl (Or.inl rfl) (fun _ => ⟨rfl, rfl⟩) dX12_init_84 hP hF13 (by decide) (fun f14 e14 hF14 => ?_)
  refine s_aload_nr (j := 0) dX12_init_87 rfl ?_
  refine s_iconst (v := 0) dX12_init_88 (by decide) ?_
  refine i_put fl_X12_53_14 tyX12 tyX12_ok nmX12 rfl (Or.inl rfl) (fun _ => ⟨rfl, rfl⟩) dX12_init_89 hP hF14 (by decide) (fun f15 e15 hF15 => ?_)
  refine s_aload_nr (j := 0) dX12_init_92 rfl ?_
  refine s_bipush (v := 100) dX12_init_93 (by decide) ?_
  refine i_newarr (t := 0) (N := 100) (ty := .int) (c0 := .inl fun _ => 0) hP hR6 dX12_init_95 rfl m207 rfl (fun _ _ z => z) (by decide) (by rfl) (by decide) (fun _ => rfl) (fun R7 r7 hR7 => ?_)
  refine i_put fl_X12_56_14 tyX12 tyX12_ok nmX12 rfl (Or.inr ⟨rfl, rfl, rfl⟩) (fun _ => ⟨rfl, rfl⟩) dX12_init_97 hP hF15 (by decide) (fun f16 e16 hF16 => ?_)
  refine s_aload_nr (j := 0) dX12_init_100 rfl ?_
  refine s_bipush (v := 6) dX12_init_101 (by decide) ?_
  refine i_newarr (t := 0) (N := 6) (ty := .int) (c0 := .inl fun _ => 0) hP hR7 dX12_init_103 rfl m207 rfl (fun _ _ z => z) (by decide) (by rfl) (by decide) (fun _ => rfl) (fun R8 r8 hR8 => ?_)
  refine i_put fl_X12_59_14 tyX12 tyX12_ok nmX12 rfl (Or.inr ⟨rfl, rfl, rfl⟩) (fun _ => ⟨rfl, rfl⟩) dX12_init_105 hP hF16 (by decide) (fun f17 e17 hF17 => ?_)
  refine s_aload_nr (j := 0) dX12_init_108 rfl ?_
  refine s_bipush (v := 60) dX12_init_109 (by decide) ?_
  refine i_newarr (t := 0) (N := 60) (ty := .int) (c0 := .inl fun _ => 0) hP hR8 dX12_init_111 rfl m207 rfl (fun _ _ z => z) (by decide) (by rfl) (by decide) (fun _ => rfl) (fun R9 r9 hR9 => ?_)
  refine i_put fl_X12_62_14 tyX12 tyX12_ok nmX12 rfl (Or.inr ⟨rfl, rfl, rfl⟩) (fun _ => ⟨rfl, rfl⟩) dX12_init_113 hP hF17 (by decide) (fun f18 e18 hF18 => ?_)
  refine s_aload_nr (j := 0) dX12_init_116 rfl ?_
  refine s_bipush (v := 60) dX12_init_117 (by decide) ?_
  refine i_newarr (t := 0) (N := 60) (ty := .int) (c0 := .inl fun _ => 0) hP hR9 dX12_init_119 rfl m207 rfl (fun _ _ z => z) (by decide) (by rfl) (by decide) (fun _ => rfl) (fun R10 r10 hR10 => ?_)
  refine i_put fl_X12_65_14 tyX12 tyX12_ok nmX12 rfl (Or.inr ⟨rfl, rfl, rfl⟩) (fun _ => ⟨rfl, rfl⟩) dX12_init_121 hP hF18 (by decide) (fun f19 e19 hF19 => ?_)
  refine s_aload_nr (j := 0) dX12_init_124 rfl ?_
  refine s_bipush (v := 60) dX12_init_125 (by decide) ?_
  refine i_newarr (t := 0) (N := 60) (ty := .int) (c0 := .inl fun _ => 0) hP hR10 dX12_init_127 rfl m207 rfl (fun _ _ z => z) (by decide) (by rfl) (by decide) (fun _ => rfl) (fun R11 r11 hR11 => ?_)
  refine i_put fl_X12_68_14 tyX12 tyX12_ok nmX12 rfl (Or.inr ⟨rfl, rfl, rfl⟩) (fun _ => ⟨rfl, rfl⟩) dX12_init_129 hP hF19 (by decide) (fun f20 e20 hF20 => ?_)
  refine s_aload_nr (j := 0) dX12_init_132 rfl ?_
  refine s_bipush (v := 60) dX12_init_133 (by decide) ?_
  refine i_newarr (t := 0) (N := 60) (ty := .int) (c0 := .inl fun _ => 0) hP hR11 dX12_init_135 rfl m207 rfl (fun _ _ z => z) (by decide) (by rfl) (by decide) (fun _ => rfl) (fun R12 r12 hR12 => ?_)
  refine i_put fl_X12_71_14 tyX12 tyX12_ok nmX12 rfl (Or.inr ⟨rfl, rfl, rfl⟩) (fun _ => ⟨rfl, rfl⟩) dX12_init_137 hP hF20 (by decide) (fun f21 e21 hF21 => ?_)
  refine s_aload_nr (j := 0) dX12_init_140 rfl ?_
  refine s_sipush (v := 600) dX12_init_141 (by decide) ?_
  refine i_newarr (t := 0) (N := 600) (ty := .int) (c0 := .inl fun _ => 0) hP hR12 dX12_init_144 rfl m207 rfl (fun _ _ z => z) (by decide) (by rfl) (by decide) (fun _ => rfl) (fun R13 r13 hR13 => ?_)
  refine i_put fl_X12_74_14 tyX12 tyX12_ok nmX12 rfl (Or.inr ⟨rfl, rfl, rfl⟩) (fun _ => ⟨rfl, rfl⟩) dX12_init_146 hP hF21 (by decide) (fun f22 e22 hF22 => ?_)
  refine s_aload_nr (j := 0) dX12_init_149 rfl ?_
  refine s_bipush (v := 101) dX12_init_150 (by decide) ?_
  refine i_newarr (t := 0) (N := 101) (ty := .int) (c0 := .inl fun _ => 0) hP hR13 dX12_init_152 rfl m207 rfl (fun _ _ z => z) (by decide) (by rfl) (by decide) (fun _ => rfl) (fun R14 r14 hR14 => ?_)
  refine i_put fl_X12_77_14 tyX12 tyX12_ok nmX12 rfl (Or.inr ⟨rfl, rfl, rfl⟩) (fun _ => ⟨rfl, rfl⟩) dX12_init_154 hP hF22 (by decide) (fun f23 e23 hF23 => ?_)
  refine s_aload_nr (j := 0) dX12_init_157 rfl ?_
  refine s_iconst (v := 0) dX12_init_158 (by decide) ?_
  refine i_put fl_X12_80_14 tyX12 tyX12_ok nmX12 rfl (Or.inl rfl) (fun _ => ⟨rfl, rfl⟩) dX12_init_159 hP hF23 (by decide) (fun f24 e24 hF24 => ?_)
  refine s_aload_nr (j := 0) dX12_init_162 rfl ?_
  refine s_iconst (v := 0) dX12_init_163 (by decide) ?_
  refine i_put fl_X12_83_14 tyX12 tyX12_ok nmX12 rfl (Or.inl rfl) (fun _ => ⟨rfl, rfl⟩) dX12_init_164 hP hF24 (by decide) (fun f25 e25 hF25 => ?_)
  refine s_aload_nr (j := 0) dX12_init_167 rfl ?_
  refine s_iconst (v := 0) dX12_init_168 (by decide) ?_
  refine i_put fl_X12_86_14 tyX12 tyX12_ok nmX12 rfl (Or.inl rfl) (fun _ => ⟨rfl, rfl⟩) dX12_init_169 hP hF25 (by decide) (fun f26 e26 hF26 => ?_)
  refine s_aload_nr (j := 0) dX12_init_172 rfl ?_
  refine s_bipush (v := 8) dX12_init_173 (by decide) ?_
  refine i_newarr (t := 0) (N := 8) (ty := .int) (c0 := .inl fun _ => 0) hP hR14 dX12_init_175 rfl m207 rfl (fun _ _ z => z) (by decide) (by rfl) (by decide) (fun _ => rfl) (fun R15 r15 hR15 => ?_)
  refine s_dup dX12_init_177 rfl ?_
  refine s_iconst (v := 0) dX12_init_178 (by decide) ?_
  refine s_bipush (v := 105) dX12_init_179 (by decide) ?_
  refine i_iast hP hR14 r15 dX12_init_181 (by rw [vp_in_iff]; decide) (fun R15 r15 hR15 => ?_)
  refine s_dup dX12_init_182 rfl ?_
  refine s_iconst (v := 1) dX12_init_183 (by decide) ?_
  refine s_bipush (v := 110) dX12_init_184 (by decide) ?_
  refine i_iast hP hR14 r15 dX12_init_186 (by rw [vp_in_iff]; decide) (fun R15 r15 hR15 => ?_)
  refine s_dup dX12_init_187 rfl ?_
  refine s_iconst (v := 2) dX12_init_188 (by decide) ?_
  refine s_bipush (v := 119) dX12_init_189 (by decide) ?_
  refine i_iast hP hR14 r15 dX12_init_191 (by rw [vp_in_iff]; decide) (fun R15 r15 hR15 => ?_)
  refine s_dup dX12_init_192 rfl ?_
  refine s_iconst (v := 3) dX12_init_193 (by decide) ?_
  refine s_bipush (v := 105) dX12_init_194 (by decide) ?_
  refine i_iast hP hR14 r15 dX12_init_196 (by rw [vp_in_iff]; decide) (fun R15 r15 hR15 => ?_)
  refine s_dup dX12_init_197 rfl ?_
  refine s_iconst (v := 4) dX12_init_198 (by decide) ?_
  refine s_bipush (v := 110) dX12_init_199 (by decide) ?_
  refine i_iast hP hR14 r15 dX12_init_201 (by rw [vp_in_iff]; decide) (fun R15 r15 hR15 => ?_)
  refine s_dup dX12_init_202 rfl ?_
  refine s_iconst (v := 5) dX12_init_203 (by decide) ?_
  refine s_bipush (v := 111) dX12_init_204 (by decide) ?_
  refine i_iast hP hR14 r15 dX12_init_206 (by rw [vp_in_iff]; decide) (fun R15 r15 hR15 => ?_)
  refine s_dup dX12_init_207 rfl ?_
  refine s_bipush (v := 6) dX12_init_208 (by decide) ?_
  refine s_bipush (v := 117) dX12_init_210 (by decide) ?_
  refine i_iast hP hR14 r15 dX12_init_212 (by rw [vp_in_iff]; decide) (fun R15 r15 hR15 => ?_)
  refine s_dup dX12_init_213 rfl ?_
  refine s_bipush (v := 7) dX12_init_214 (by decide) ?_
  refine s_bipush (v := 116) dX12_init_216 (by decide) ?_
  refine i_iast hP hR14 r15 dX12_init_218 (by rw [vp_in_iff]; decide) (fun R15 r15 hR15 => ?_)
  refine i_put fl_X12_89_14 tyX12 tyX12_ok nmX12 rfl (Or.inr ⟨rfl, rfl, rfl⟩) (fun _ => ⟨rfl, rfl⟩) dX12_init_219 hP hF26 (by decide) (fun f27 e27 hF27 => ?_)
  refine s_aload_nr (j := 0) dX12_init_222 rfl ?_
  refine s_bipush (v := 100) dX12_init_223 (by decide) ?_
  refine i_newarr (t := 3) (N := 100) (ty := .boolean) (c0 := .inl fun _ => 0) hP hR15 dX12_init_225 rfl m1346 rfl (fun _ _ z => z) (by decide) (by rfl) (by decide) (fun _ => rfl) (fun R16 r16 hR16 => ?_)
  refine i_put fl_X12_92_14 tyX12 tyX12_ok nmX12 rfl (Or.inr ⟨rfl, rfl, rfl⟩) (fun _ => ⟨rfl, rfl⟩) dX12_init_227 hP hF27 (by decide) (fun f28 e28 hF28 => ?_)
  refine s_aload_nr (j := 0) dX12_init_230 rfl ?_
  refine s_bipush (v := 25) dX12_init_231 (by decide) ?_
  refine i_newarr (t := 0) (N := 25) (ty := .int) (c0 := .inl fun _ => 0) hP hR16 dX12_init_233 rfl m207 rfl (fun _ _ z => z) (by decide) (by rfl) (by decide) (fun _ => rfl) (fun R17 r17 hR17 => ?_)
  refine i_put fl_X12_96_14 tyX12 tyX12_ok nmX12 rfl (Or.inr ⟨rfl, rfl, rfl⟩) (fun _ => ⟨rfl, rfl⟩) dX12_init_235 hP hF28 (by decide) (fun f29 e29 hF29 => ?_)
  refine s_aload_nr (j := 0) dX12_init_238 rfl ?_
  refine s_bipush (v := 25) dX12_init_239 (by decide) ?_
  refine i_newarr (t := 0) (N := 25) (ty := .int) (c0 := .inl fun _ => 0) hP hR17 dX12_init_241 rfl m207 rfl (fun _ _ z => z) (by decide) (by rfl) (by decide) (fun _ => rfl) (fun R18 r18 hR18 => ?_)
  refine i_put fl_X12_99_14 tyX12 tyX12_ok nmX12 rfl (Or.inr ⟨rfl, rfl, rfl⟩) (fun _ => ⟨rfl, rfl⟩) dX12_init_243 hP hF29 (by decide) (fun f30 e30 hF30 => ?_)
  refine s_aload_nr (j := 0) dX12_init_246 rfl ?_
  refine s_iconst (v := 0) dX12_init_247 (by decide) ?_
  refine i_put fl_X12_102_14 tyX12 tyX12_ok nmX12 rfl (Or.inl rfl) (fun _ => ⟨rfl, rfl⟩) dX12_init_248 hP hF30 (by decide) (fun f31 e31 hF31 => ?_)
  refine s_aload_nr (j := 0) dX12_init_251 rfl ?_
  refine s_bipush (v := 6) dX12_init_252 (by decide) ?_
  refine i_newarr (t := 0) (N := 6) (ty := .int) (c0 := .inl fun _ => 0) hP hR18 dX12_init_254 rfl m207 rfl (fun _ _ z => z) (by decide) (by rfl) (by decide) (fun _ => rfl) (fun R19 r19 hR19 => ?_)
  refine i_put fl_X12_105_14 tyX12 tyX12_ok nmX12 rfl (Or.inr ⟨rfl, rfl, rfl⟩) (fun _ => ⟨rfl, rfl⟩) dX12_init_256 hP hF31 (by decide) (fun f32 e32 hF32 => ?_)
  refine s_aload_nr (j := 0) dX12_init_259 rfl ?_
  refine s_bipush (v := 6) dX12_init_260 (by decide) ?_
  refine i_newarr (t := 0) (N := 6) (ty := .int) (c0 := .inl fun _ => 0) hP hR19 dX12_init_262 rfl m207 rfl (fun _ _ z => z) (by decide) (by rfl) (by decide) (fun _ => rfl) (fun R20 r20 hR20 => ?_)
  refine i_put fl_X12_108_14 tyX12 tyX12_ok nmX12 rfl (Or.inr ⟨rfl, rfl, rfl⟩) (fun _ => ⟨rfl, rfl⟩) dX12_init_264 hP hF32 (by decide) (fun f33 e33 hF33 => ?_)
  refine s_aload_nr (j := 0) dX12_init_267 rfl ?_
  refine s_iconst (v := 0) dX12_init_268 (by decide) ?_
  refine i_put fl_X12_111_14 tyX12 tyX12_ok nmX12 rfl (Or.inl rfl) (fun _ => ⟨rfl, rfl⟩) dX12_init_269 hP hF33 (by decide) (fun f34 e34 hF34 => ?_)
  refine s_aload_nr (j := 0) dX12_init_272 rfl ?_
  refine s_bipush (v := 10) dX12_init_273 (by decide) ?_
  refine i_newarr (t := 0) (N := 10) (ty := .int) (c0 := .inl fun _ => 0) hP hR20 dX12_init_275 rfl m207 rfl (fun _ _ z => z) (by decide) (by rfl) (by decide) (fun _ => rfl) (fun R21 r21 hR21 => ?_)
  refine i_put fl_X12_114_14 tyX12 tyX12_ok nmX12 rfl (Or.inr ⟨rfl, rfl, rfl⟩) (fun _ => ⟨rfl, rfl⟩) dX12_init_277 hP hF34 (by decide) (fun f35 e35 hF35 => ?_)
  refine s_aload_nr (j := 0) dX12_init_280 rfl ?_
  refine s_bipush (v := 10) dX12_init_281 (by decide) ?_
  refine i_newarr (t := 0) (N := 10) (ty := .int) (c0 := .inl fun _ => 0) hP hR21 dX12_init_283 rfl m207 rfl (fun _ _ z => z) (by decide) (by rfl) (by decide) (fun _ => rfl) (fun R22 r22 hR22 => ?_)
  refine i_put fl_X12_117_14 tyX12 tyX12_ok nmX12 rfl (Or.inr ⟨rfl, rfl, rfl⟩) (fun _ => ⟨rfl, rfl⟩) dX12_init_285 hP hF35 (by decide) (fun f36 e36 hF36 => ?_)
  refine s_aload_nr (j := 0) dX12_init_288 rfl ?_
  refine s_bipush (v := 10) dX12_init_289 (by decide) ?_
  refine i_newarr (t := 0) (N := 10) (ty := .int) (c0 := .inl fun _ => 0) hP hR22 dX12_init_291 rfl m207 rfl (fun _ _ z => z) (by decide) (by rfl) (by decide) (fun _ => rfl) (fun R23 r23 hR23 => ?_)
  refine i_put fl_X12_120_14 tyX12 tyX12_ok nmX12 rfl (Or.inr ⟨rfl, rfl, rfl⟩) (fun _ => ⟨rfl, rfl⟩) dX12_init_293 hP hF36 (by decide) (fun f37 e37 hF37 => ?_)
  refine s_aload_nr (j := 0) dX12_init_296 rfl ?_
  refine s_iconst (v := 4) dX12_init_297 (by decide) ?_
  refine i_newarr (t := 0) (N := 4) (ty := .int) (c0 := .inl fun _ => 0) hP hR23 dX12_init_298 rfl m207 rfl (fun _ _ z => z) (by decide) (by rfl) (by decide) (fun _ => rfl) (fun R24 r24 hR24 => ?_)
  refine i_put fl_X12_123_14 tyX12 tyX12_ok nmX12 rfl (Or.inr ⟨rfl, rfl, rfl⟩) (fun _ => ⟨rfl, rfl⟩) dX12_init_300 hP hF37 (by decide) (fun f38 e38 hF38 => ?_)
  refine s_aload_nr (j := 0) dX12_init_303 rfl ?_
  refine s_iconst (v := 0) dX12_init_304 (by decide) ?_
  refine i_put fl_X12_126_14 tyX12 tyX12_ok nmX12 rfl (Or.inl rfl) (fun _ => ⟨rfl, rfl⟩) dX12_init_305 hP hF38 (by decide) (fun f39 e39 hF39 => ?_)
  refine s_aload_nr (j := 0) dX12_init_308 rfl ?_
  refine s_iconst (v := -1) dX12_init_309 (by decide) ?_
  refine i_put fl_X12_130_14 tyX12 tyX12_ok nmX12 rfl (Or.inl rfl) (fun _ => ⟨rfl, rfl⟩) dX12_init_310 hP hF39 (by decide) (fun f40 e40 hF40 => ?_)
  refine s_aload_nr (j := 0) dX12_init_313 rfl ?_
  refine s_iconst (v := 0) dX12_init_314 (by decide) ?_
  refine i_put fl_X12_133_14 tyX12 tyX12_ok nmX12 rfl (Or.inl rfl) (fun _ => ⟨rfl, rfl⟩) dX12_init_315 hP hF40 (by decide) (fun f41 e41 hF41 => ?_)
  refine s_aload_nr (j := 0) dX12_init_318 rfl ?_
  refine s_iconst (v := 0) dX12_init_319 (by decide) ?_
  refine i_put fl_X12_136_14 tyX12 tyX12_ok nmX12 rfl (Or.inl rfl) (fun _ => ⟨rfl, rfl⟩) dX12_init_320 hP hF41 (by decide) (fun f42 e42 hF42 => ?_)
  refine s_aload_nr (j := 0) dX12_init_323 rfl ?_
  refine s_iconst (v := 0) dX12_init_324 (by decide) ?_
  refine i_put fl_X12_139_14 tyX12 tyX12_ok nmX12 rfl (Or.inl rfl) (fun _ => ⟨rfl, rfl⟩) dX12_init_325 hP hF42 (by decide) (fun f43 e43 hF43 => ?_)
  refine s_aload_nr (j := 0) dX12_init_328 rfl ?_
  refine s_iconst (v := 1) dX12_init_329 (by decide) ?_
  refine i_put fl_X12_142_14 tyX12 tyX12_ok nmX12 rfl (Or.inl rfl) (fun _ => ⟨rfl, rfl⟩) dX12_init_330 hP hF43 (by decide) (fun f44 e44 hF44 => ?_)
  refine s_aload_nr (j := 0) dX12_init_333 rfl ?_
  refine s_iconst (v := 0) dX12_init_334 (by decide) ?_
  refine i_put fl_X12_145_14 tyX12 tyX12_ok nmX12 rfl (Or.inl rfl) (fun _ => ⟨rfl, rfl⟩) dX12_init_335 hP hF44 (by decide) (fun f45 e45 hF45 => ?_)
  refine s_aload_nr (j := 0) dX12_init_338 rfl ?_
  refine s_iconst (v := 0) dX12_init_339 (by decide) ?_
  refine i_put fl_X12_148_14 tyX12 tyX12_ok nmX12 rfl (Or.inl rfl) (fun _ => ⟨rfl, rfl⟩) dX12_init_340 hP hF45 (by decide) (fun f46 e46 hF46 => ?_)
  refine s_aload_nr (j := 0) dX12_init_343 rfl ?_
  refine s_iconst (v := 4) dX12_init_344 (by decide) ?_
  refine i_newarr (t := 0) (N := 4) (ty := .int) (c0 := .inl fun _ => 0) hP hR24 dX12_init_345 rfl m207 rfl (fun _ _ z => z) (by decide) (by rfl) (by decide) (fun _ => rfl) (fun R25 r25 hR25 => ?_)
  refine i_put fl_X12_151_14 tyX12 tyX12_ok nmX12 rfl (Or.inr ⟨rfl, rfl, rfl⟩) (fun _ => ⟨rfl, rfl⟩) dX12_init_347 hP hF46 (by decide) (fun f47 e47 hF47 => ?_)
  refine s_aload_nr (j := 0) dX12_init_350 rfl ?_
  refine s_iconst (v := 4) dX12_init_351 (by decide) ?_
  refine i_newarr (t := 0) (N := 4) (ty := .int) (c0 := .inl fun _ => 0) hP hR25 dX12_init_352 rfl m207 rfl (fun _ _ z => z) (by decide) (by rfl) (by decide) (fun _ => rfl) (fun R26 r26 hR26 => ?_)
  refine i_put fl_X12_154_14 tyX12 tyX12_ok nmX12 rfl (Or.inr ⟨rfl, rfl, rfl⟩) (fun _ => ⟨rfl, rfl⟩) dX12_init_354 hP hF47 (by decide) (fun f48 e48 hF48 => ?_)
  refine s_aload_nr (j := 0) dX12_init_357 rfl ?_
  refine s_iconst (v := 4) dX12_init_358 (by decide) ?_
  refine i_newarr (t := 0) (N := 4) (ty := .int) (c0 := .inl fun _ => 0) hP hR26 dX12_init_359 rfl m207 rfl (fun _ _ z => z) (by decide) (by rfl) (by decide) (fun _ => rfl) (fun R27 r27 hR27 => ?_)
  refine i_put fl_X12_157_14 tyX12 tyX12_ok nmX12 rfl (Or.inr ⟨rfl, rfl, rfl⟩) (fun _ => ⟨rfl, rfl⟩) dX12_init_361 hP hF48 (by decide) (fun f49 e49 hF49 => ?_)
  refine s_aload_nr (j := 0) dX12_init_364 rfl ?_
  refine s_iconst (v := 4) dX12_init_365 (by decide) ?_
  refine i_newarr (t := 0) (N := 4) (ty := .int) (c0 := .inl fun _ => 0) hP hR27 dX12_init_366 rfl m207 rfl (fun _ _ z => z) (by decide) (by rfl) (by decide) (fun _ => rfl) (fun R28 r28 hR28 => ?_)
  refine i_put fl_X12_160_14 tyX12 tyX12_ok nmX12 rfl (Or.inr ⟨rfl, rfl, rfl⟩) (fun _ => ⟨rfl, rfl⟩) dX12_init_368 hP hF49 (by decide) (fun f50 e50 hF50 => ?_)
  refine s_aload_nr (j := 0) dX12_init_371 rfl ?_
  refine s_iconst (v := 4) dX12_init_372 (by decide) ?_
  refine i_newarr (t := 0) (N := 4) (ty := .int) (c0 := .inl fun _ => 0) hP hR28 dX12_init_373 rfl m207 rfl (fun _ _ z => z) (by decide) (by rfl) (by decide) (fun _ => rfl) (fun R29 r29 hR29 => ?_)
  refine i_put fl_X12_163_14 tyX12 tyX12_ok nmX12 rfl (Or.inr ⟨rfl, rfl, rfl⟩) (fun _ => ⟨rfl, rfl⟩) dX12_init_375 hP hF50 (by decide) (fun f51 e51 hF51 => ?_)
  refine s_aload_nr (j := 0) dX12_init_378 rfl ?_
  refine s_bipush (v := 16) dX12_init_379 (by decide) ?_
  refine i_newarr (t := 0) (N := 16) (ty := .int) (c0 := .inl fun _ => 0) hP hR29 dX12_init_381 rfl m207 rfl (fun _ _ z => z) (by decide) (by rfl) (by decide) (fun _ => rfl) (fun R30 r30 hR30 => ?_)
  refine i_put fl_X12_166_14 tyX12 tyX12_ok nmX12 rfl (Or.inr ⟨rfl, rfl, rfl⟩) (fun _ => ⟨rfl, rfl⟩) dX12_init_383 hP hF51 (by decide) (fun f52 e52 hF52 => ?_)
  refine s_aload_nr (j := 0) dX12_init_386 rfl ?_
  refine s_bipush (v := 6) dX12_init_387 (by decide) ?_
  refine i_newarr (t := 0) (N := 6) (ty := .int) (c0 := .inl fun _ => 0) hP hR30 dX12_init_389 rfl m207 rfl (fun _ _ z => z) (by decide) (by rfl) (by decide) (fun _ => rfl) (fun R31 r31 hR31 => ?_)
  refine i_put fl_X12_169_14 tyX12 tyX12_ok nmX12 rfl (Or.inr ⟨rfl, rfl, rfl⟩) (fun _ => ⟨rfl, rfl⟩) dX12_init_391 hP hF52 (by decide) (fun f53 e53 hF53 => ?_)
  refine s_aload_nr (j := 0) dX12_init_394 rfl ?_
  refine s_bipush (v := 6) dX12_init_395 (by decide) ?_
  refine i_newarr (t := 0) (N := 6) (ty := .int) (c0 := .inl fun _ => 0) hP hR31 dX12_init_397 rfl m207 rfl (fun _ _ z => z) (by decide) (by rfl) (by decide) (fun _ => rfl) (fun R32 r32 hR32 => ?_)
  refine i_put fl_X12_172_14 tyX12 tyX12_ok nmX12 rfl (Or.inr ⟨rfl, rfl, rfl⟩) (fun _ => ⟨rfl, rfl⟩) dX12_init_399 hP hF53 (by decide) (fun f54 e54 hF54 => ?_)
  refine s_aload_nr (j := 0) dX12_init_402 rfl ?_
  refine s_bipush (v := 10) dX12_init_403 (by decide) ?_
  refine i_newarr (t := 0) (N := 10) (ty := .int) (c0 := .inl fun _ => 0) hP hR32 dX12_init_405 rfl m207 rfl (fun _ _ z => z) (by decide) (by rfl) (by decide) (fun _ => rfl) (fun R33 r33 hR33 => ?_)
  refine i_put fl_X12_175_14 tyX12 tyX12_ok nmX12 rfl (Or.inr ⟨rfl, rfl, rfl⟩) (fun _ => ⟨rfl, rfl⟩) dX12_init_407 hP hF54 (by decide) (fun f55 e55 hF55 => ?_)
  refine s_aload_nr (j := 0) dX12_init_410 rfl ?_
  refine s_bipush (v := 10) dX12_init_411 (by decide) ?_
  refine i_newarr (t := 0) (N := 10) (ty := .int) (c0 := .inl fun _ => 0) hP hR33 dX12_init_413 rfl m207 rfl (fun _ _ z => z) (by decide) (by rfl) (by decide) (fun _ => rfl) (fun R34 r34 hR34 => ?_)
  refine i_put fl_X12_178_14 tyX12 tyX12_ok nmX12 rfl (Or.inr ⟨rfl, rfl, rfl⟩) (fun _ => ⟨rfl, rfl⟩) dX12_init_415 hP hF55 (by decide) (fun f56 e56 hF56 => ?_)
  refine s_aload_nr (j := 0) dX12_init_418 rfl ?_
  refine s_bipush (v := 10) dX12_init_419 (by decide) ?_
  refine i_newarr (t := 0) (N := 10) (ty := .int) (c0 := .inl fun _ => 0) hP hR34 dX12_init_421 rfl m207 rfl (fun _ _ z => z) (by decide) (by rfl) (by decide) (fun _ => rfl) (fun R35 r35 hR35 => ?_)
  refine i_put fl_X12_181_14 tyX12 tyX12_ok nmX12 rfl (Or.inr ⟨rfl, rfl, rfl⟩) (fun _ => ⟨rfl, rfl⟩) dX12_init_423 hP hF56 (by decide) (fun f57 e57 hF57 => ?_)
  refine s_aload_nr (j := 0) dX12_init_426 rfl ?_
  refine s_iconst (v := 0) dX12_init_427 (by decide) ?_
  refine i_put fl_X12_184_14 tyX12 tyX12_ok nmX12 rfl (Or.inl rfl) (fun _ => ⟨rfl, rfl⟩) dX12_init_428 hP hF57 (by decide) (fun f58 e58 hF58 => ?_)
  refine s_aload_nr (j := 0) dX12_init_431 rfl ?_
  refine s_bipush (v := 20) dX12_init_432 (by decide) ?_
  refine i_newarr (t := 0) (N := 20) (ty := .int) (c0 := .inl fun _ => 0) hP hR35 dX12_init_434 rfl m207 rfl (fun _ _ z => z) (by decide) (by rfl) (by decide) (fun _ => rfl) (fun R36 r36 hR36 => ?_)
  refine i_put fl_X12_187_14 tyX12 tyX12_ok nmX12 rfl (Or.inr ⟨rfl, rfl, rfl⟩) (fun _ => ⟨rfl, rfl⟩) dX12_init_436 hP hF58 (by decide) (fun f59 e59 hF59 => ?_)
  refine s_aload_nr (j := 0) dX12_init_439 rfl ?_
  refine s_bipush (v := 6) dX12_init_440 (by decide) ?_
  refine i_newarr (t := 0) (N := 6) (ty := .int) (c0 := .inl fun _ => 0) hP hR36 dX12_init_442 rfl m207 rfl (fun _ _ z => z) (by decide) (by rfl) (by decide) (fun _ => rfl) (fun R37 r37 hR37 => ?_)
  refine s_dup dX12_init_444 rfl ?_
  refine s_iconst (v := 0) dX12_init_445 (by decide) ?_
  refine s_iconst (v := -1) dX12_init_446 (by decide) ?_
  refine i_iast hP hR36 r37 dX12_init_447 (by rw [vp_in_iff]; decide) (fun R37 r37 hR37 => ?_)
  refine s_dup dX12_init_448 rfl ?_
  refine s_iconst (v := 1) dX12_init_449 (by decide) ?_
  refine s_iconst (v := -1) dX12_init_450 (by decide) ?_
  refine i_iast hP hR36 r37 dX12_init_451 (by rw [vp_in_iff]; decide) (fun R37 r37 hR37 => ?_)
  refine s_dup dX12_init_452 rfl ?_
  refine s_iconst (v := 2) dX12_init_453 (by decide) ?_
  refine s_iconst (v := -1) dX12_init_454 (by decide) ?_
  refine i_iast hP hR36 r37 dX12_init_455 (by rw [vp_in_iff]; decide) (fun R37 r37 hR37 => ?_)
  refine s_dup dX12_init_456 rfl ?_
  refine s_iconst (v := 3) dX12_init_457 (by decide) ?_
  refine s_iconst (v := -1) dX12_init_458 (by decide) ?_
  refine i_iast hP hR36 r37 dX12_init_459 (by rw [vp_in_iff]; decide) (fun R37 r37 hR37 => ?_)
  refine s_dup dX12_init_460 rfl ?_
  refine s_iconst (v := 4) dX12_init_461 (by decide) ?_
  refine s_iconst (v := -1) dX12_init_462 (by decide) ?_
  refine i_iast hP hR36 r37 dX12_init_463 (by rw [vp_in_iff]; decide) (fun R37 r37 hR37 => ?_)
  refine s_dup dX12_init_464 rfl ?_
  refine s_iconst (v := 5) dX12_init_465 (by decide) ?_
  refine s_iconst (v := -1) dX12_init_466 (by decide) ?_
  refine i_iast hP hR36 r37 dX12_init_467 (by rw [vp_in_iff]; decide) (fun R37 r37 hR37 => ?_)
  refine i_put fl_X12_190_14 tyX12 tyX12_ok nmX12 rfl (Or.inr ⟨rfl, rfl, rfl⟩) (fun _ => ⟨rfl, rfl⟩) dX12_init_468 hP hF59 (by decide) (fun f60 e60 hF60 => ?_)
  refine s_aload_nr (j := 0) dX12_init_471 rfl ?_
  refine s_bipush (v := 6) dX12_init_472 (by decide) ?_
  refine i_newarr (t := 0) (N := 6) (ty := .int) (c0 := .inl fun _ => 0) hP hR37 dX12_init_474 rfl m207 rfl (fun _ _ z => z) (by decide) (by rfl) (by decide) (fun _ => rfl) (fun R38 r38 hR38 => ?_)
  refine i_put fl_X12_193_14 tyX12 tyX12_ok nmX12 rfl (Or.inr ⟨rfl, rfl, rfl⟩) (fun _ => ⟨rfl, rfl⟩) dX12_init_476 hP hF60 (by decide) (fun f61 e61 hF61 => ?_)
  refine s_aload_nr (j := 0) dX12_init_479 rfl ?_
  refine s_sipush (v := 360) dX12_init_480 (by decide) ?_
  refine i_newarr (t := 1) (N := 360) (ty := .long) (c0 := .inr (.inl fun _ => 0)) hP hR38 dX12_init_483 rfl m299 rfl (fun _ _ z => z) (by decide) (by rfl) (by decide) (fun _ => rfl) (fun R39 r39 hR39 => ?_)
  refine i_put fl_X12_196_14 tyX12 tyX12_ok nmX12 rfl (Or.inr ⟨rfl, rfl, rfl⟩) (fun _ => ⟨rfl, rfl⟩) dX12_init_485 hP hF61 (by decide) (fun f62 e62 hF62 => ?_)
  refine s_aload_nr (j := 0) dX12_init_488 rfl ?_
  refine s_bipush (v := 60) dX12_init_489 (by decide) ?_
  refine i_newarr (t := 1) (N := 60) (ty := .long) (c0 := .inr (.inl fun _ => 0)) hP hR39 dX12_init_491 rfl m299 rfl (fun _ _ z => z) (by decide) (by rfl) (by decide) (fun _ => rfl) (fun R40 r40 hR40 => ?_)
  refine i_put fl_X12_200_14 tyX12 tyX12_ok nmX12 rfl (Or.inr ⟨rfl, rfl, rfl⟩) (fun _ => ⟨rfl, rfl⟩) dX12_init_493 hP hF62 (by decide) (fun f63 e63 hF63 => ?_)
  exact e_vret dX12_init_496 rfl (by subst e63; subst e62; subst e61; subst e60; subst e59; subst e58; subst e57; subst e56; subst e55; subst e54; subst e53; subst e52; subst e51; subst e50; subst e49; subst e48; subst e47; subst e46; subst e45; subst e44; subst e43; subst e42; subst e41; subst e40; subst e39; subst e38; subst e37; subst e36; subst e35; subst e34; subst e33; subst e32; subst e31; subst e30; subst e29; subst e28; subst e27; subst e26; subst e25; subst e24; subst e23; subst e22; subst e21; subst e20; subst e19; subst e18; subst e17; subst e16; subst e15; subst e14; subst e13; subst e12; subst e11; subst e10; subst e9; subst e8; subst e7; subst e6; subst e5; subst e4; subst e3; subst e2; subst e1; subst r40; subst r39; subst r38; subst r37; subst r36; subst r35; subst r34; subst r33; subst r32; subst r31; subst r30; subst r29; subst r28; subst r27; subst r26; subst r25; subst r24; subst r23; subst r22; subst r21; subst r20; subst r19; subst r18; subst r17; subst r16; subst r15; subst r14; subst r13; subst r12; subst r11; subst r10; subst r9; subst r8; subst r7; subst r6; subst r5; subst r4; subst r3; subst r2; subst r1; rfl)

