theorem m300 : Cond.fieldLink RX11 12 "TwoServes" "now" "LTwoServes$Situation;" ∈ gW := gW_of (i := 300) (by decide +kernel) rfl
theorem uw_X11 : ∀ x ∈ u_ws RX11 TX11 13, x ∈ gW := by
  show ∀ x ∈ [u_lay RX11 TX11 0, u_lay RX11 TX11 1, u_lay RX11 TX11 2, u_lay RX11 TX11 3, u_lay RX11 TX11 4, u_lay RX11 TX11 5, u_lay RX11 TX11 6, u_lay RX11 TX11 7, u_lay RX11 TX11 8, u_lay RX11 TX11 9, u_lay RX11 TX11 10, u_lay RX11 TX11 11, u_lay RX11 TX11 12], x ∈ gW
  exact List.forall_mem_cons.mpr ⟨gW_of (i := 313) (by decide +kernel) (by decide +kernel), List.forall_mem_cons.mpr ⟨gW_of (i := 315) (by decide +kernel) (by decide +kernel), List.forall_mem_cons.mpr ⟨gW_of (i := 317) (by decide +kernel) (by decide +kernel), List.forall_mem_cons.mpr ⟨gW_of (i := 319) (by decide +kernel) (by decide +kernel), List.forall_mem_cons.mpr ⟨gW_of (i := 321) (by decide +kernel) (by decide +kernel), List.forall_mem_cons.mpr ⟨gW_of (i := 323) (by decide +kernel) (by decide +kernel), List.forall_mem_cons.mpr ⟨gW_of (i := 325) (by decide +kernel) (by decide +kernel), List.forall_mem_cons.mpr ⟨gW_of (i := 327) (by decide +kernel) (by decide +kernel), List.forall_mem_cons.mpr ⟨gW_of (i := 329) (by decide +kernel) (by decide +kernel), List.forall_mem_cons.mpr ⟨gW_of (i := 331) (by decide +kernel) (by decide +kernel), List.forall_mem_cons.mpr ⟨gW_of (i := 333) (by decide +kernel) (by decide +kernel), List.forall_mem_cons.mpr ⟨gW_of (i := 335) (by decide +kernel) (by decide +kernel), List.forall_mem_cons.mpr ⟨gW_of (i := 337) (by decide +kernel) (by decide +kernel), fun _ h => nomatch h⟩⟩⟩⟩⟩⟩⟩⟩⟩⟩⟩⟩⟩
theorem fl_X11_12_13 : FL RX11 12 13 0 RX11 TX11 13 := ⟨rfl, by decide, uw_X11, "TwoServes", m300, Or.inl rfl⟩
theorem m301 : Cond.fieldLink RX11 18 "TwoServes" "kept" "LTwoServes$Situation;" ∈ gW := gW_of (i := 301) (by decide +kernel) rfl
theorem fl_X11_18_13 : FL RX11 18 13 1 RX11 TX11 13 := ⟨rfl, by decide, uw_X11, "TwoServes", m301, Or.inl rfl⟩
theorem m302 : Cond.fieldLink RX11 21 "TwoServes" "supposed" "LTwoServes$Situation;" ∈ gW := gW_of (i := 302) (by decide +kernel) rfl
theorem fl_X11_21_13 : FL RX11 21 13 2 RX11 TX11 13 := ⟨rfl, by decide, uw_X11, "TwoServes", m302, Or.inl rfl⟩
theorem m304 : Cond.fieldLink RX11 27 "TwoServes" "text" "LTwoServes$Text;" ∈ gW := gW_of (i := 304) (by decide +kernel) rfl
theorem fl_X11_27_13 : FL RX11 27 13 4 RX11 TX11 13 := ⟨rfl, by decide, uw_X11, "TwoServes", m304, Or.inl rfl⟩
theorem m305 : Cond.fieldLink RX11 33 "TwoServes" "courts" "[LTwoServes$Court;" ∈ gW := gW_of (i := 305) (by decide +kernel) rfl
theorem fl_X11_33_13 : FL RX11 33 13 5 RX11 TX11 13 := ⟨rfl, by decide, uw_X11, "TwoServes", m305, Or.inl rfl⟩
theorem m307 : Cond.fieldLink RX11 39 "TwoServes" "tapes" "[LTwoServes$Tape;" ∈ gW := gW_of (i := 307) (by decide +kernel) rfl
theorem fl_X11_39_13 : FL RX11 39 13 7 RX11 TX11 13 := ⟨rfl, by decide, uw_X11, "TwoServes", m307, Or.inl rfl⟩
theorem m308 : Cond.fieldLink RX11 46 "TwoServes" "bodies" "Ljava/util/ArrayList;" ∈ gW := gW_of (i := 308) (by decide +kernel) rfl
theorem fl_X11_46_13 : FL RX11 46 13 8 RX11 TX11 13 := ⟨rfl, by decide, uw_X11, "TwoServes", m308, Or.inl rfl⟩
theorem m309 : Cond.fieldLink RX11 50 "TwoServes" "ins" "[I" ∈ gW := gW_of (i := 309) (by decide +kernel) rfl
theorem fl_X11_50_13 : FL RX11 50 13 9 RX11 TX11 13 := ⟨rfl, by decide, uw_X11, "TwoServes", m309, Or.inl rfl⟩
theorem m310 : Cond.fieldLink RX11 54 "TwoServes" "wins" "[I" ∈ gW := gW_of (i := 310) (by decide +kernel) rfl
theorem fl_X11_54_13 : FL RX11 54 13 10 RX11 TX11 13 := ⟨rfl, by decide, uw_X11, "TwoServes", m310, Or.inl rfl⟩
theorem m311 : Cond.fieldLink RX11 59 "TwoServes" "games" "[[I" ∈ gW := gW_of (i := 311) (by decide +kernel) rfl
theorem fl_X11_59_13 : FL RX11 59 13 11 RX11 TX11 13 := ⟨rfl, by decide, uw_X11, "TwoServes", m311, Or.inl rfl⟩
theorem m312 : Cond.fieldLink RX11 62 "TwoServes" "matches" "[[I" ∈ gW := gW_of (i := 312) (by decide +kernel) rfl
theorem fl_X11_62_13 : FL RX11 62 13 12 RX11 TX11 13 := ⟨rfl, by decide, uw_X11, "TwoServes", m312, Or.inl rfl⟩
theorem m147 : Cond.fieldLink RX11 71 "TwoServes$Situation" "count" "I" ∈ gW := gW_of (i := 147) (by decide +kernel) rfl
theorem uw_X4 : ∀ x ∈ u_ws RX4 TX4 17, x ∈ gW := by
  show ∀ x ∈ [u_lay RX4 TX4 0, u_lay RX4 TX4 1, u_lay RX4 TX4 2, u_lay RX4 TX4 3, u_lay RX4 TX4 4, u_lay RX4 TX4 5, u_lay RX4 TX4 6, u_lay RX4 TX4 7, u_lay RX4 TX4 8, u_lay RX4 TX4 9, u_lay RX4 TX4 10, u_lay RX4 TX4 11, u_lay RX4 TX4 12, u_lay RX4 TX4 13, u_lay RX4 TX4 14, u_lay RX4 TX4 15, u_lay RX4 TX4 16], x ∈ gW
  exact List.forall_mem_cons.mpr ⟨gW_of (i := 172) (by decide +kernel) (by decide +kernel), List.forall_mem_cons.mpr ⟨gW_of (i := 174) (by decide +kernel) (by decide +kernel), List.forall_mem_cons.mpr ⟨gW_of (i := 176) (by decide +kernel) (by decide +kernel), List.forall_mem_cons.mpr ⟨gW_of (i := 178) (by decide +kernel) (by decide +kernel), List.forall_mem_cons.mpr ⟨gW_of (i := 180) (by decide +kernel) (by decide +kernel), List.forall_mem_cons.mpr ⟨gW_of (i := 182) (by decide +kernel) (by decide +kernel), List.forall_mem_cons.mpr ⟨gW_of (i := 184) (by decide +kernel) (by decide +kernel), List.forall_mem_cons.mpr ⟨gW_of (i := 186) (by decide +kernel) (by decide +kernel), List.forall_mem_cons.mpr ⟨gW_of (i := 188) (by decide +kernel) (by decide +kernel), List.forall_mem_cons.mpr ⟨gW_of (i := 190) (by decide +kernel) (by decide +kernel), List.forall_mem_cons.mpr ⟨gW_of (i := 192) (by decide +kernel) (by decide +kernel), List.forall_mem_cons.mpr ⟨gW_of (i := 194) (by decide +kernel) (by decide +kernel), List.forall_mem_cons.mpr ⟨gW_of (i := 196) (by decide +kernel) (by decide +kernel), List.forall_mem_cons.mpr ⟨gW_of (i := 198) (by decide +kernel) (by decide +kernel), List.forall_mem_cons.mpr ⟨gW_of (i := 200) (by decide +kernel) (by decide +kernel), List.forall_mem_cons.mpr ⟨gW_of (i := 202) (by decide +kernel) (by decide +kernel), List.forall_mem_cons.mpr ⟨gW_of (i := 204) (by decide +kernel) (by decide +kernel), fun _ h => nomatch h⟩⟩⟩⟩⟩⟩⟩⟩⟩⟩⟩⟩⟩⟩⟩⟩⟩
theorem fl_X11_71_6 : FL RX11 71 6 5 RX4 TX4 17 := ⟨rfl, by decide, uw_X4, "TwoServes$Situation", m147, Or.inl rfl⟩
theorem m360 : Cond.fieldLink RX11 94 "TwoServes$Server" "kind" "I" ∈ gW := gW_of (i := 360) (by decide +kernel) rfl
theorem uw_X3 : ∀ x ∈ u_ws RX3 TX3 3, x ∈ gW := by
  show ∀ x ∈ [u_lay RX3 TX3 0, u_lay RX3 TX3 1, u_lay RX3 TX3 2], x ∈ gW
  exact List.forall_mem_cons.mpr ⟨gW_of (i := 441) (by decide +kernel) (by decide +kernel), List.forall_mem_cons.mpr ⟨gW_of (i := 442) (by decide +kernel) (by decide +kernel), List.forall_mem_cons.mpr ⟨gW_of (i := 443) (by decide +kernel) (by decide +kernel), fun _ h => nomatch h⟩⟩⟩
theorem fl_X11_94_5 : FL RX11 94 5 0 RX3 TX3 3 := ⟨rfl, by decide, uw_X3, "TwoServes$Server", m360, Or.inl rfl⟩
theorem uw_X1 : ∀ x ∈ u_ws RX1 TX1 3, x ∈ gW := by
  show ∀ x ∈ [u_lay RX1 TX1 0, u_lay RX1 TX1 1, u_lay RX1 TX1 2], x ∈ gW
  exact List.forall_mem_cons.mpr ⟨gW_of (i := 381) (by decide +kernel) (by decide +kernel), List.forall_mem_cons.mpr ⟨gW_of (i := 383) (by decide +kernel) (by decide +kernel), List.forall_mem_cons.mpr ⟨gW_of (i := 385) (by decide +kernel) (by decide +kernel), fun _ h => nomatch h⟩⟩⟩
theorem fl_X11_94_3 : FL RX11 94 3 0 RX1 TX1 3 := ⟨rfl, by decide, uw_X1, "TwoServes$Server", m360, Or.inl rfl⟩
theorem uw_X8 : ∀ x ∈ u_ws RX8 TX8 3, x ∈ gW := by
  show ∀ x ∈ [u_lay RX8 TX8 0, u_lay RX8 TX8 1, u_lay RX8 TX8 2], x ∈ gW
  exact List.forall_mem_cons.mpr ⟨gW_of (i := 394) (by decide +kernel) (by decide +kernel), List.forall_mem_cons.mpr ⟨gW_of (i := 395) (by decide +kernel) (by decide +kernel), List.forall_mem_cons.mpr ⟨gW_of (i := 396) (by decide +kernel) (by decide +kernel), fun _ h => nomatch h⟩⟩⟩
theorem fl_X11_94_10 : FL RX11 94 10 0 RX8 TX8 3 := ⟨rfl, by decide, uw_X8, "TwoServes$Server", m360, Or.inl rfl⟩
theorem uw_X9 : ∀ x ∈ u_ws RX9 TX9 3, x ∈ gW := by
  show ∀ x ∈ [u_lay RX9 TX9 0, u_lay RX9 TX9 1, u_lay RX9 TX9 2], x ∈ gW
  exact List.forall_mem_cons.mpr ⟨gW_of (i := 404) (by decide +kernel) (by decide +kernel), List.forall_mem_cons.mpr ⟨gW_of (i := 405) (by decide +kernel) (by decide +kernel), List.forall_mem_cons.mpr ⟨gW_of (i := 406) (by decide +kernel) (by decide +kernel), fun _ h => nomatch h⟩⟩⟩
theorem fl_X11_94_11 : FL RX11 94 11 0 RX9 TX9 3 := ⟨rfl, by decide, uw_X9, "TwoServes$Server", m360, Or.inl rfl⟩
theorem uw_X2 : ∀ x ∈ u_ws RX2 TX2 3, x ∈ gW := by
  show ∀ x ∈ [u_lay RX2 TX2 0, u_lay RX2 TX2 1, u_lay RX2 TX2 2], x ∈ gW
  exact List.forall_mem_cons.mpr ⟨gW_of (i := 414) (by decide +kernel) (by decide +kernel), List.forall_mem_cons.mpr ⟨gW_of (i := 415) (by decide +kernel) (by decide +kernel), List.forall_mem_cons.mpr ⟨gW_of (i := 416) (by decide +kernel) (by decide +kernel), fun _ h => nomatch h⟩⟩⟩
theorem fl_X11_94_4 : FL RX11 94 4 0 RX2 TX2 3 := ⟨rfl, by decide, uw_X2, "TwoServes$Server", m360, Or.inl rfl⟩
theorem uw_X5 : ∀ x ∈ u_ws RX5 TX5 3, x ∈ gW := by
  show ∀ x ∈ [u_lay RX5 TX5 0, u_lay RX5 TX5 1, u_lay RX5 TX5 2], x ∈ gW
  exact List.forall_mem_cons.mpr ⟨gW_of (i := 424) (by decide +kernel) (by decide +kernel), List.forall_mem_cons.mpr ⟨gW_of (i := 425) (by decide +kernel) (by decide +kernel), List.forall_mem_cons.mpr ⟨gW_of (i := 426) (by decide +kernel) (by decide +kernel), fun _ h => nomatch h⟩⟩⟩
theorem fl_X11_94_7 : FL RX11 94 7 0 RX5 TX5 3 := ⟨rfl, by decide, uw_X5, "TwoServes$Server", m360, Or.inl rfl⟩
theorem uw_X10 : ∀ x ∈ u_ws RX10 TX10 3, x ∈ gW := by
  show ∀ x ∈ [u_lay RX10 TX10 0, u_lay RX10 TX10 1, u_lay RX10 TX10 2], x ∈ gW
  exact List.forall_mem_cons.mpr ⟨gW_of (i := 434) (by decide +kernel) (by decide +kernel), List.forall_mem_cons.mpr ⟨gW_of (i := 435) (by decide +kernel) (by decide +kernel), List.forall_mem_cons.mpr ⟨gW_of (i := 436) (by decide +kernel) (by decide +kernel), fun _ h => nomatch h⟩⟩⟩
theorem fl_X11_94_12 : FL RX11 94 12 0 RX10 TX10 3 := ⟨rfl, by decide, uw_X10, "TwoServes$Server", m360, Or.inl rfl⟩
theorem m378 : Cond.fieldLink RX11 99 "TwoServes$Server" "v" "I" ∈ gW := gW_of (i := 378) (by decide +kernel) rfl
theorem fl_X11_99_5 : FL RX11 99 5 2 RX3 TX3 3 := ⟨rfl, by decide, uw_X3, "TwoServes$Server", m378, Or.inl rfl⟩
theorem fl_X11_99_3 : FL RX11 99 3 2 RX1 TX1 3 := ⟨rfl, by decide, uw_X1, "TwoServes$Server", m378, Or.inl rfl⟩
theorem fl_X11_99_10 : FL RX11 99 10 2 RX8 TX8 3 := ⟨rfl, by decide, uw_X8, "TwoServes$Server", m378, Or.inl rfl⟩
theorem fl_X11_99_11 : FL RX11 99 11 2 RX9 TX9 3 := ⟨rfl, by decide, uw_X9, "TwoServes$Server", m378, Or.inl rfl⟩
theorem fl_X11_99_4 : FL RX11 99 4 2 RX2 TX2 3 := ⟨rfl, by decide, uw_X2, "TwoServes$Server", m378, Or.inl rfl⟩
theorem fl_X11_99_7 : FL RX11 99 7 2 RX5 TX5 3 := ⟨rfl, by decide, uw_X5, "TwoServes$Server", m378, Or.inl rfl⟩
theorem fl_X11_99_12 : FL RX11 99 12 2 RX10 TX10 3 := ⟨rfl, by decide, uw_X10, "TwoServes$Server", m378, Or.inl rfl⟩
theorem m135 : Cond.fieldLink RX11 102 "TwoServes$Situation" "hard" "[I" ∈ gW := gW_of (i := 135) (by decide +kernel) rfl
theorem fl_X11_102_6 : FL RX11 102 6 1 RX4 TX4 17 := ⟨rfl, by decide, uw_X4, "TwoServes$Situation", m135, Or.inl rfl⟩
theorem m374 : Cond.fieldLink RX11 105 "TwoServes$Server" "number" "I" ∈ gW := gW_of (i := 374) (by decide +kernel) rfl
theorem fl_X11_105_5 : FL RX11 105 5 1 RX3 TX3 3 := ⟨rfl, by decide, uw_X3, "TwoServes$Server", m374, Or.inl rfl⟩
theorem fl_X11_105_3 : FL RX11 105 3 1 RX1 TX1 3 := ⟨rfl, by decide, uw_X1, "TwoServes$Server", m374, Or.inl rfl⟩
theorem fl_X11_105_10 : FL RX11 105 10 1 RX8 TX8 3 := ⟨rfl, by decide, uw_X8, "TwoServes$Server", m374, Or.inl rfl⟩
theorem fl_X11_105_11 : FL RX11 105 11 1 RX9 TX9 3 := ⟨rfl, by decide, uw_X9, "TwoServes$Server", m374, Or.inl rfl⟩
theorem fl_X11_105_4 : FL RX11 105 4 1 RX2 TX2 3 := ⟨rfl, by decide, uw_X2, "TwoServes$Server", m374, Or.inl rfl⟩
theorem fl_X11_105_7 : FL RX11 105 7 1 RX5 TX5 3 := ⟨rfl, by decide, uw_X5, "TwoServes$Server", m374, Or.inl rfl⟩
theorem fl_X11_105_12 : FL RX11 105 12 1 RX10 TX10 3 := ⟨rfl, by decide, uw_X10, "TwoServes$Server", m374, Or.inl rfl⟩
theorem m139 : Cond.fieldLink RX11 108 "TwoServes$Situation" "soft" "[I" ∈ gW := gW_of (i := 139) (by decide +kernel) rfl
theorem fl_X11_108_6 : FL RX11 108 6 2 RX4 TX4 17 := ⟨rfl, by decide, uw_X4, "TwoServes$Situation", m139, Or.inl rfl⟩
theorem m143 : Cond.fieldLink RX11 111 "TwoServes$Situation" "served" "[I" ∈ gW := gW_of (i := 143) (by decide +kernel) rfl
theorem fl_X11_111_6 : FL RX11 111 6 3 RX4 TX4 17 := ⟨rfl, by decide, uw_X4, "TwoServes$Situation", m143, Or.inl rfl⟩
theorem m146 : Cond.fieldLink RX11 127 "TwoServes$Situation" "rows" "[I" ∈ gW := gW_of (i := 146) (by decide +kernel) rfl
theorem fl_X11_127_6 : FL RX11 127 6 4 RX4 TX4 17 := ⟨rfl, by decide, uw_X4, "TwoServes$Situation", m146, Or.inl rfl⟩
theorem m217 : Cond.fieldLink RX11 134 "TwoServes$Text" "length" "I" ∈ gW := gW_of (i := 217) (by decide +kernel) rfl
theorem uw_X7 : ∀ x ∈ u_ws RX7 TX7 3, x ∈ gW := by
  show ∀ x ∈ [u_lay RX7 TX7 0, u_lay RX7 TX7 1, u_lay RX7 TX7 2], x ∈ gW
  exact List.forall_mem_cons.mpr ⟨gW_of (i := 219) (by decide +kernel) (by decide +kernel), List.forall_mem_cons.mpr ⟨gW_of (i := 221) (by decide +kernel) (by decide +kernel), List.forall_mem_cons.mpr ⟨gW_of (i := 223) (by decide +kernel) (by decide +kernel), fun _ h => nomatch h⟩⟩⟩
theorem fl_X11_134_9 : FL RX11 134 9 1 RX7 TX7 3 := ⟨rfl, by decide, uw_X7, "TwoServes$Text", m217, Or.inl rfl⟩
theorem m306 : Cond.fieldLink RX11 137 "TwoServes" "courtCount" "I" ∈ gW := gW_of (i := 306) (by decide +kernel) rfl
theorem fl_X11_137_13 : FL RX11 137 13 6 RX11 TX11 13 := ⟨rfl, by decide, uw_X11, "TwoServes", m306, Or.inl rfl⟩
theorem m170 : Cond.fieldLink RX11 144 "TwoServes$Situation" "court" "LTwoServes$Court;" ∈ gW := gW_of (i := 170) (by decide +kernel) rfl
theorem fl_X11_144_6 : FL RX11 144 6 15 RX4 TX4 17 := ⟨rfl, by decide, uw_X4, "TwoServes$Situation", m170, Or.inl rfl⟩
theorem m151 : Cond.fieldLink RX11 148 "TwoServes$Situation" "won" "I" ∈ gW := gW_of (i := 151) (by decide +kernel) rfl
theorem fl_X11_148_6 : FL RX11 148 6 6 RX4 TX4 17 := ⟨rfl, by decide, uw_X4, "TwoServes$Situation", m151, Or.inl rfl⟩
theorem m154 : Cond.fieldLink RX11 151 "TwoServes$Situation" "lost" "I" ∈ gW := gW_of (i := 154) (by decide +kernel) rfl
theorem fl_X11_151_6 : FL RX11 151 6 7 RX4 TX4 17 := ⟨rfl, by decide, uw_X4, "TwoServes$Situation", m154, Or.inl rfl⟩
theorem m156 : Cond.fieldLink RX11 154 "TwoServes$Situation" "stance" "I" ∈ gW := gW_of (i := 156) (by decide +kernel) rfl
theorem fl_X11_154_6 : FL RX11 154 6 8 RX4 TX4 17 := ⟨rfl, by decide, uw_X4, "TwoServes$Situation", m156, Or.inl rfl⟩
theorem m160 : Cond.fieldLink RX11 201 "TwoServes$Situation" "seenCount" "I" ∈ gW := gW_of (i := 160) (by decide +kernel) rfl
theorem fl_X11_201_6 : FL RX11 201 6 10 RX4 TX4 17 := ⟨rfl, by decide, uw_X4, "TwoServes$Situation", m160, Or.inl rfl⟩
theorem m158 : Cond.fieldLink RX11 204 "TwoServes$Situation" "seen" "[I" ∈ gW := gW_of (i := 158) (by decide +kernel) rfl
theorem fl_X11_204_6 : FL RX11 204 6 9 RX4 TX4 17 := ⟨rfl, by decide, uw_X4, "TwoServes$Situation", m158, Or.inl rfl⟩
theorem m168 : Cond.fieldLink RX11 221 "TwoServes$Situation" "bookCount" "I" ∈ gW := gW_of (i := 168) (by decide +kernel) rfl
theorem fl_X11_221_6 : FL RX11 221 6 14 RX4 TX4 17 := ⟨rfl, by decide, uw_X4, "TwoServes$Situation", m168, Or.inl rfl⟩
theorem m162 : Cond.fieldLink RX11 228 "TwoServes$Situation" "bookServer" "[I" ∈ gW := gW_of (i := 162) (by decide +kernel) rfl
theorem fl_X11_228_6 : FL RX11 228 6 11 RX4 TX4 17 := ⟨rfl, by decide, uw_X4, "TwoServes$Situation", m162, Or.inl rfl⟩
theorem m164 : Cond.fieldLink RX11 231 "TwoServes$Situation" "bookD" "[I" ∈ gW := gW_of (i := 164) (by decide +kernel) rfl
theorem fl_X11_231_6 : FL RX11 231 6 12 RX4 TX4 17 := ⟨rfl, by decide, uw_X4, "TwoServes$Situation", m164, Or.inl rfl⟩
theorem m166 : Cond.fieldLink RX11 234 "TwoServes$Situation" "bookE" "[I" ∈ gW := gW_of (i := 166) (by decide +kernel) rfl
theorem fl_X11_234_6 : FL RX11 234 6 13 RX4 TX4 17 := ⟨rfl, by decide, uw_X4, "TwoServes$Situation", m166, Or.inl rfl⟩
theorem m291 : Cond.fieldLink RX11 241 "TwoServes$Tape" "sort" "I" ∈ gW := gW_of (i := 291) (by decide +kernel) rfl
theorem uw_X6 : ∀ x ∈ u_ws RX6 TX6 3, x ∈ gW := by
  show ∀ x ∈ [u_lay RX6 TX6 0, u_lay RX6 TX6 1, u_lay RX6 TX6 2], x ∈ gW
  exact List.forall_mem_cons.mpr ⟨gW_of (i := 292) (by decide +kernel) (by decide +kernel), List.forall_mem_cons.mpr ⟨gW_of (i := 294) (by decide +kernel) (by decide +kernel), List.forall_mem_cons.mpr ⟨gW_of (i := 296) (by decide +kernel) (by decide +kernel), fun _ h => nomatch h⟩⟩⟩
theorem fl_X11_241_8 : FL RX11 241 8 2 RX6 TX6 3 := ⟨rfl, by decide, uw_X6, "TwoServes$Tape", m291, Or.inl rfl⟩
theorem m303 : Cond.fieldLink RX11 252 "TwoServes" "imageTaken" "Z" ∈ gW := gW_of (i := 303) (by decide +kernel) rfl
theorem fl_X11_252_13 : FL RX11 252 13 3 RX11 TX11 13 := ⟨rfl, by decide, uw_X11, "TwoServes", m303, Or.inl rfl⟩
theorem m129 : Cond.fieldLink RX11 297 "TwoServes$Situation" "servers" "[LTwoServes$Server;" ∈ gW := gW_of (i := 129) (by decide +kernel) rfl
theorem fl_X11_297_6 : FL RX11 297 6 0 RX4 TX4 17 := ⟨rfl, by decide, uw_X4, "TwoServes$Situation", m129, Or.inl rfl⟩
theorem m264 : Cond.fieldLink RX0 9 "TwoServes$Court" "code" "[I" ∈ gW := gW_of (i := 264) (by decide +kernel) rfl
theorem uw_X0 : ∀ x ∈ u_ws RX0 TX0 6, x ∈ gW := by
  show ∀ x ∈ [u_lay RX0 TX0 0, u_lay RX0 TX0 1, u_lay RX0 TX0 2, u_lay RX0 TX0 3, u_lay RX0 TX0 4, u_lay RX0 TX0 5], x ∈ gW
  exact List.forall_mem_cons.mpr ⟨gW_of (i := 270) (by decide +kernel) (by decide +kernel), List.forall_mem_cons.mpr ⟨gW_of (i := 272) (by decide +kernel) (by decide +kernel), List.forall_mem_cons.mpr ⟨gW_of (i := 274) (by decide +kernel) (by decide +kernel), List.forall_mem_cons.mpr ⟨gW_of (i := 276) (by decide +kernel) (by decide +kernel), List.forall_mem_cons.mpr ⟨gW_of (i := 278) (by decide +kernel) (by decide +kernel), List.forall_mem_cons.mpr ⟨gW_of (i := 280) (by decide +kernel) (by decide +kernel), fun _ h => nomatch h⟩⟩⟩⟩⟩⟩
theorem fl_X0_9_2 : FL RX0 9 2 0 RX0 TX0 6 := ⟨rfl, by decide, uw_X0, "TwoServes$Court", m264, Or.inl rfl⟩
theorem m266 : Cond.fieldLink RX0 15 "TwoServes$Court" "sums" "[I" ∈ gW := gW_of (i := 266) (by decide +kernel) rfl
theorem fl_X0_15_2 : FL RX0 15 2 2 RX0 TX0 6 := ⟨rfl, by decide, uw_X0, "TwoServes$Court", m266, Or.inl rfl⟩
theorem m267 : Cond.fieldLink RX0 18 "TwoServes$Court" "amounts" "[I" ∈ gW := gW_of (i := 267) (by decide +kernel) rfl
theorem fl_X0_18_2 : FL RX0 18 2 3 RX0 TX0 6 := ⟨rfl, by decide, uw_X0, "TwoServes$Court", m267, Or.inl rfl⟩
theorem m268 : Cond.fieldLink RX0 21 "TwoServes$Court" "ends" "[I" ∈ gW := gW_of (i := 268) (by decide +kernel) rfl
theorem fl_X0_21_2 : FL RX0 21 2 4 RX0 TX0 6 := ⟨rfl, by decide, uw_X0, "TwoServes$Court", m268, Or.inl rfl⟩
theorem m265 : Cond.fieldLink RX0 24 "TwoServes$Court" "size" "I" ∈ gW := gW_of (i := 265) (by decide +kernel) rfl
theorem fl_X0_24_2 : FL RX0 24 2 1 RX0 TX0 6 := ⟨rfl, by decide, uw_X0, "TwoServes$Court", m265, Or.inl rfl⟩
theorem m269 : Cond.fieldLink RX0 28 "TwoServes$Court" "clauses" "I" ∈ gW := gW_of (i := 269) (by decide +kernel) rfl
theorem fl_X0_28_2 : FL RX0 28 2 5 RX0 TX0 6 := ⟨rfl, by decide, uw_X0, "TwoServes$Court", m269, Or.inl rfl⟩
theorem m132 : Cond.fieldLink RX1 7 "TwoServes$Situation" "hard" "[I" ∈ gW := gW_of (i := 132) (by decide +kernel) rfl
theorem fl_X1_7_6 : FL RX1 7 6 1 RX4 TX4 17 := ⟨rfl, by decide, uw_X4, "TwoServes$Situation", m132, Or.inl rfl⟩
theorem m367 : Cond.fieldLink RX1 13 "TwoServes$Daring" "number" "I" ∈ gW := gW_of (i := 367) (by decide +kernel) rfl
theorem m368 : Cond.sameField "TwoServes$Daring" "TwoServes$Server" "number" "I" ∈ gW := gW_of (i := 368) (by decide +kernel) rfl
theorem fl_X1_13_3 : FL RX1 13 3 1 RX1 TX1 3 := ⟨rfl, by decide, uw_X1, "TwoServes$Daring", m367, Or.inr m368⟩
theorem fl_X1_13_4 : FL RX1 13 4 1 RX2 TX2 3 := ⟨rfl, by decide, uw_X2, "TwoServes$Daring", m367, Or.inr m368⟩
theorem m376 : Cond.fieldLink RX2 7 "TwoServes$Read" "v" "I" ∈ gW := gW_of (i := 376) (by decide +kernel) rfl
theorem m377 : Cond.sameField "TwoServes$Read" "TwoServes$Server" "v" "I" ∈ gW := gW_of (i := 377) (by decide +kernel) rfl
theorem fl_X2_7_4 : FL RX2 7 4 2 RX2 TX2 3 := ⟨rfl, by decide, uw_X2, "TwoServes$Read", m376, Or.inr m377⟩
theorem m359 : Cond.fieldLink RX3 7 "TwoServes$Server" "kind" "I" ∈ gW := gW_of (i := 359) (by decide +kernel) rfl
theorem fl_X3_7_5 : FL RX3 7 5 0 RX3 TX3 3 := ⟨rfl, by decide, uw_X3, "TwoServes$Server", m359, Or.inl rfl⟩
theorem fl_X3_7_3 : FL RX3 7 3 0 RX1 TX1 3 := ⟨rfl, by decide, uw_X1, "TwoServes$Server", m359, Or.inl rfl⟩
theorem fl_X3_7_10 : FL RX3 7 10 0 RX8 TX8 3 := ⟨rfl, by decide, uw_X8, "TwoServes$Server", m359, Or.inl rfl⟩
theorem fl_X3_7_11 : FL RX3 7 11 0 RX9 TX9 3 := ⟨rfl, by decide, uw_X9, "TwoServes$Server", m359, Or.inl rfl⟩
theorem fl_X3_7_4 : FL RX3 7 4 0 RX2 TX2 3 := ⟨rfl, by decide, uw_X2, "TwoServes$Server", m359, Or.inl rfl⟩
theorem fl_X3_7_7 : FL RX3 7 7 0 RX5 TX5 3 := ⟨rfl, by decide, uw_X5, "TwoServes$Server", m359, Or.inl rfl⟩
theorem fl_X3_7_12 : FL RX3 7 12 0 RX10 TX10 3 := ⟨rfl, by decide, uw_X10, "TwoServes$Server", m359, Or.inl rfl⟩
theorem m362 : Cond.fieldLink RX3 13 "TwoServes$Server" "number" "I" ∈ gW := gW_of (i := 362) (by decide +kernel) rfl
theorem fl_X3_13_5 : FL RX3 13 5 1 RX3 TX3 3 := ⟨rfl, by decide, uw_X3, "TwoServes$Server", m362, Or.inl rfl⟩
theorem fl_X3_13_3 : FL RX3 13 3 1 RX1 TX1 3 := ⟨rfl, by decide, uw_X1, "TwoServes$Server", m362, Or.inl rfl⟩
theorem fl_X3_13_10 : FL RX3 13 10 1 RX8 TX8 3 := ⟨rfl, by decide, uw_X8, "TwoServes$Server", m362, Or.inl rfl⟩
theorem fl_X3_13_11 : FL RX3 13 11 1 RX9 TX9 3 := ⟨rfl, by decide, uw_X9, "TwoServes$Server", m362, Or.inl rfl⟩
theorem fl_X3_13_4 : FL RX3 13 4 1 RX2 TX2 3 := ⟨rfl, by decide, uw_X2, "TwoServes$Server", m362, Or.inl rfl⟩
theorem fl_X3_13_7 : FL RX3 13 7 1 RX5 TX5 3 := ⟨rfl, by decide, uw_X5, "TwoServes$Server", m362, Or.inl rfl⟩
theorem fl_X3_13_12 : FL RX3 13 12 1 RX10 TX10 3 := ⟨rfl, by decide, uw_X10, "TwoServes$Server", m362, Or.inl rfl⟩
theorem m375 : Cond.fieldLink RX3 16 "TwoServes$Server" "v" "I" ∈ gW := gW_of (i := 375) (by decide +kernel) rfl
theorem fl_X3_16_5 : FL RX3 16 5 2 RX3 TX3 3 := ⟨rfl, by decide, uw_X3, "TwoServes$Server", m375, Or.inl rfl⟩
theorem fl_X3_16_3 : FL RX3 16 3 2 RX1 TX1 3 := ⟨rfl, by decide, uw_X1, "TwoServes$Server", m375, Or.inl rfl⟩
theorem fl_X3_16_10 : FL RX3 16 10 2 RX8 TX8 3 := ⟨rfl, by decide, uw_X8, "TwoServes$Server", m375, Or.inl rfl⟩
theorem fl_X3_16_11 : FL RX3 16 11 2 RX9 TX9 3 := ⟨rfl, by decide, uw_X9, "TwoServes$Server", m375, Or.inl rfl⟩
theorem fl_X3_16_4 : FL RX3 16 4 2 RX2 TX2 3 := ⟨rfl, by decide, uw_X2, "TwoServes$Server", m375, Or.inl rfl⟩
theorem fl_X3_16_7 : FL RX3 16 7 2 RX5 TX5 3 := ⟨rfl, by decide, uw_X5, "TwoServes$Server", m375, Or.inl rfl⟩
theorem fl_X3_16_12 : FL RX3 16 12 2 RX10 TX10 3 := ⟨rfl, by decide, uw_X10, "TwoServes$Server", m375, Or.inl rfl⟩
theorem m131 : Cond.fieldLink RX3 19 "TwoServes$Situation" "hard" "[I" ∈ gW := gW_of (i := 131) (by decide +kernel) rfl
theorem fl_X3_19_6 : FL RX3 19 6 1 RX4 TX4 17 := ⟨rfl, by decide, uw_X4, "TwoServes$Situation", m131, Or.inl rfl⟩
theorem m138 : Cond.fieldLink RX3 25 "TwoServes$Situation" "soft" "[I" ∈ gW := gW_of (i := 138) (by decide +kernel) rfl
theorem fl_X3_25_6 : FL RX3 25 6 2 RX4 TX4 17 := ⟨rfl, by decide, uw_X4, "TwoServes$Situation", m138, Or.inl rfl⟩
theorem m128 : Cond.fieldLink RX4 11 "TwoServes$Situation" "servers" "[LTwoServes$Server;" ∈ gW := gW_of (i := 128) (by decide +kernel) rfl
theorem fl_X4_11_6 : FL RX4 11 6 0 RX4 TX4 17 := ⟨rfl, by decide, uw_X4, "TwoServes$Situation", m128, Or.inl rfl⟩
theorem m130 : Cond.fieldLink RX4 17 "TwoServes$Situation" "hard" "[I" ∈ gW := gW_of (i := 130) (by decide +kernel) rfl
theorem fl_X4_17_6 : FL RX4 17 6 1 RX4 TX4 17 := ⟨rfl, by decide, uw_X4, "TwoServes$Situation", m130, Or.inl rfl⟩
theorem m136 : Cond.fieldLink RX4 21 "TwoServes$Situation" "soft" "[I" ∈ gW := gW_of (i := 136) (by decide +kernel) rfl
theorem fl_X4_21_6 : FL RX4 21 6 2 RX4 TX4 17 := ⟨rfl, by decide, uw_X4, "TwoServes$Situation", m136, Or.inl rfl⟩
theorem m140 : Cond.fieldLink RX4 24 "TwoServes$Situation" "served" "[I" ∈ gW := gW_of (i := 140) (by decide +kernel) rfl
theorem fl_X4_24_6 : FL RX4 24 6 3 RX4 TX4 17 := ⟨rfl, by decide, uw_X4, "TwoServes$Situation", m140, Or.inl rfl⟩
theorem m144 : Cond.fieldLink RX4 27 "TwoServes$Situation" "rows" "[I" ∈ gW := gW_of (i := 144) (by decide +kernel) rfl
theorem fl_X4_27_6 : FL RX4 27 6 4 RX4 TX4 17 := ⟨rfl, by decide, uw_X4, "TwoServes$Situation", m144, Or.inl rfl⟩
theorem m155 : Cond.fieldLink RX4 30 "TwoServes$Situation" "stance" "I" ∈ gW := gW_of (i := 155) (by decide +kernel) rfl
theorem fl_X4_30_6 : FL RX4 30 6 8 RX4 TX4 17 := ⟨rfl, by decide, uw_X4, "TwoServes$Situation", m155, Or.inl rfl⟩
theorem m157 : Cond.fieldLink RX4 34 "TwoServes$Situation" "seen" "[I" ∈ gW := gW_of (i := 157) (by decide +kernel) rfl
theorem fl_X4_34_6 : FL RX4 34 6 9 RX4 TX4 17 := ⟨rfl, by decide, uw_X4, "TwoServes$Situation", m157, Or.inl rfl⟩
theorem m161 : Cond.fieldLink RX4 37 "TwoServes$Situation" "bookServer" "[I" ∈ gW := gW_of (i := 161) (by decide +kernel) rfl
theorem fl_X4_37_6 : FL RX4 37 6 11 RX4 TX4 17 := ⟨rfl, by decide, uw_X4, "TwoServes$Situation", m161, Or.inl rfl⟩
theorem m163 : Cond.fieldLink RX4 40 "TwoServes$Situation" "bookD" "[I" ∈ gW := gW_of (i := 163) (by decide +kernel) rfl
theorem fl_X4_40_6 : FL RX4 40 6 12 RX4 TX4 17 := ⟨rfl, by decide, uw_X4, "TwoServes$Situation", m163, Or.inl rfl⟩
theorem m165 : Cond.fieldLink RX4 43 "TwoServes$Situation" "bookE" "[I" ∈ gW := gW_of (i := 165) (by decide +kernel) rfl
theorem fl_X4_43_6 : FL RX4 43 6 13 RX4 TX4 17 := ⟨rfl, by decide, uw_X4, "TwoServes$Situation", m165, Or.inl rfl⟩
theorem m171 : Cond.fieldLink RX4 56 "TwoServes$Situation" "letters" "[I" ∈ gW := gW_of (i := 171) (by decide +kernel) rfl
theorem fl_X4_56_6 : FL RX4 56 6 16 RX4 TX4 17 := ⟨rfl, by decide, uw_X4, "TwoServes$Situation", m171, Or.inl rfl⟩
theorem m148 : Cond.fieldLink RX4 65 "TwoServes$Situation" "count" "I" ∈ gW := gW_of (i := 148) (by decide +kernel) rfl
theorem fl_X4_65_6 : FL RX4 65 6 5 RX4 TX4 17 := ⟨rfl, by decide, uw_X4, "TwoServes$Situation", m148, Or.inl rfl⟩
theorem m150 : Cond.fieldLink RX4 68 "TwoServes$Situation" "won" "I" ∈ gW := gW_of (i := 150) (by decide +kernel) rfl
theorem fl_X4_68_6 : FL RX4 68 6 6 RX4 TX4 17 := ⟨rfl, by decide, uw_X4, "TwoServes$Situation", m150, Or.inl rfl⟩
theorem m153 : Cond.fieldLink RX4 71 "TwoServes$Situation" "lost" "I" ∈ gW := gW_of (i := 153) (by decide +kernel) rfl
theorem fl_X4_71_6 : FL RX4 71 6 7 RX4 TX4 17 := ⟨rfl, by decide, uw_X4, "TwoServes$Situation", m153, Or.inl rfl⟩
theorem m159 : Cond.fieldLink RX4 74 "TwoServes$Situation" "seenCount" "I" ∈ gW := gW_of (i := 159) (by decide +kernel) rfl
theorem fl_X4_74_6 : FL RX4 74 6 10 RX4 TX4 17 := ⟨rfl, by decide, uw_X4, "TwoServes$Situation", m159, Or.inl rfl⟩
theorem m167 : Cond.fieldLink RX4 77 "TwoServes$Situation" "bookCount" "I" ∈ gW := gW_of (i := 167) (by decide +kernel) rfl
theorem fl_X4_77_6 : FL RX4 77 6 14 RX4 TX4 17 := ⟨rfl, by decide, uw_X4, "TwoServes$Situation", m167, Or.inl rfl⟩
theorem m169 : Cond.fieldLink RX4 80 "TwoServes$Situation" "court" "LTwoServes$Court;" ∈ gW := gW_of (i := 169) (by decide +kernel) rfl
theorem fl_X4_80_6 : FL RX4 80 6 15 RX4 TX4 17 := ⟨rfl, by decide, uw_X4, "TwoServes$Situation", m169, Or.inl rfl⟩
theorem m373 : Cond.fieldLink RX4 84 "TwoServes$Server" "number" "I" ∈ gW := gW_of (i := 373) (by decide +kernel) rfl
theorem fl_X4_84_5 : FL RX4 84 5 1 RX3 TX3 3 := ⟨rfl, by decide, uw_X3, "TwoServes$Server", m373, Or.inl rfl⟩
theorem fl_X4_84_3 : FL RX4 84 3 1 RX1 TX1 3 := ⟨rfl, by decide, uw_X1, "TwoServes$Server", m373, Or.inl rfl⟩
theorem fl_X4_84_10 : FL RX4 84 10 1 RX8 TX8 3 := ⟨rfl, by decide, uw_X8, "TwoServes$Server", m373, Or.inl rfl⟩
theorem fl_X4_84_11 : FL RX4 84 11 1 RX9 TX9 3 := ⟨rfl, by decide, uw_X9, "TwoServes$Server", m373, Or.inl rfl⟩
theorem fl_X4_84_4 : FL RX4 84 4 1 RX2 TX2 3 := ⟨rfl, by decide, uw_X2, "TwoServes$Server", m373, Or.inl rfl⟩
theorem fl_X4_84_7 : FL RX4 84 7 1 RX5 TX5 3 := ⟨rfl, by decide, uw_X5, "TwoServes$Server", m373, Or.inl rfl⟩
theorem fl_X4_84_12 : FL RX4 84 12 1 RX10 TX10 3 := ⟨rfl, by decide, uw_X10, "TwoServes$Server", m373, Or.inl rfl⟩
theorem m361 : Cond.fieldLink RX4 117 "TwoServes$Server" "kind" "I" ∈ gW := gW_of (i := 361) (by decide +kernel) rfl
theorem fl_X4_117_5 : FL RX4 117 5 0 RX3 TX3 3 := ⟨rfl, by decide, uw_X3, "TwoServes$Server", m361, Or.inl rfl⟩
theorem fl_X4_117_3 : FL RX4 117 3 0 RX1 TX1 3 := ⟨rfl, by decide, uw_X1, "TwoServes$Server", m361, Or.inl rfl⟩
theorem fl_X4_117_10 : FL RX4 117 10 0 RX8 TX8 3 := ⟨rfl, by decide, uw_X8, "TwoServes$Server", m361, Or.inl rfl⟩
theorem fl_X4_117_11 : FL RX4 117 11 0 RX9 TX9 3 := ⟨rfl, by decide, uw_X9, "TwoServes$Server", m361, Or.inl rfl⟩
theorem fl_X4_117_4 : FL RX4 117 4 0 RX2 TX2 3 := ⟨rfl, by decide, uw_X2, "TwoServes$Server", m361, Or.inl rfl⟩
theorem fl_X4_117_7 : FL RX4 117 7 0 RX5 TX5 3 := ⟨rfl, by decide, uw_X5, "TwoServes$Server", m361, Or.inl rfl⟩
theorem fl_X4_117_12 : FL RX4 117 12 0 RX10 TX10 3 := ⟨rfl, by decide, uw_X10, "TwoServes$Server", m361, Or.inl rfl⟩
theorem m149 : Cond.fieldLink RX5 7 "TwoServes$Situation" "won" "I" ∈ gW := gW_of (i := 149) (by decide +kernel) rfl
theorem fl_X5_7_6 : FL RX5 7 6 6 RX4 TX4 17 := ⟨rfl, by decide, uw_X4, "TwoServes$Situation", m149, Or.inl rfl⟩
theorem m152 : Cond.fieldLink RX5 13 "TwoServes$Situation" "lost" "I" ∈ gW := gW_of (i := 152) (by decide +kernel) rfl
theorem fl_X5_13_6 : FL RX5 13 6 7 RX4 TX4 17 := ⟨rfl, by decide, uw_X4, "TwoServes$Situation", m152, Or.inl rfl⟩
theorem m134 : Cond.fieldLink RX5 16 "TwoServes$Situation" "hard" "[I" ∈ gW := gW_of (i := 134) (by decide +kernel) rfl
theorem fl_X5_16_6 : FL RX5 16 6 1 RX4 TX4 17 := ⟨rfl, by decide, uw_X4, "TwoServes$Situation", m134, Or.inl rfl⟩
theorem m371 : Cond.fieldLink RX5 20 "TwoServes$Sure" "number" "I" ∈ gW := gW_of (i := 371) (by decide +kernel) rfl
theorem m372 : Cond.sameField "TwoServes$Sure" "TwoServes$Server" "number" "I" ∈ gW := gW_of (i := 372) (by decide +kernel) rfl
theorem fl_X5_20_7 : FL RX5 20 7 1 RX5 TX5 3 := ⟨rfl, by decide, uw_X5, "TwoServes$Sure", m371, Or.inr m372⟩
theorem m288 : Cond.fieldLink RX6 9 "TwoServes$Tape" "items" "[J" ∈ gW := gW_of (i := 288) (by decide +kernel) rfl
theorem fl_X6_9_8 : FL RX6 9 8 0 RX6 TX6 3 := ⟨rfl, by decide, uw_X6, "TwoServes$Tape", m288, Or.inl rfl⟩
theorem m290 : Cond.fieldLink RX6 15 "TwoServes$Tape" "sort" "I" ∈ gW := gW_of (i := 290) (by decide +kernel) rfl
theorem fl_X6_15_8 : FL RX6 15 8 2 RX6 TX6 3 := ⟨rfl, by decide, uw_X6, "TwoServes$Tape", m290, Or.inl rfl⟩
theorem m289 : Cond.fieldLink RX6 28 "TwoServes$Tape" "length" "I" ∈ gW := gW_of (i := 289) (by decide +kernel) rfl
theorem fl_X6_28_8 : FL RX6 28 8 1 RX6 TX6 3 := ⟨rfl, by decide, uw_X6, "TwoServes$Tape", m289, Or.inl rfl⟩
theorem m215 : Cond.fieldLink RX7 9 "TwoServes$Text" "signs" "[C" ∈ gW := gW_of (i := 215) (by decide +kernel) rfl
theorem fl_X7_9_9 : FL RX7 9 9 0 RX7 TX7 3 := ⟨rfl, by decide, uw_X7, "TwoServes$Text", m215, Or.inl rfl⟩
theorem m216 : Cond.fieldLink RX7 15 "TwoServes$Text" "length" "I" ∈ gW := gW_of (i := 216) (by decide +kernel) rfl
theorem fl_X7_15_9 : FL RX7 15 9 1 RX7 TX7 3 := ⟨rfl, by decide, uw_X7, "TwoServes$Text", m216, Or.inl rfl⟩
theorem m218 : Cond.fieldLink RX7 28 "TwoServes$Text" "place" "I" ∈ gW := gW_of (i := 218) (by decide +kernel) rfl
theorem fl_X7_28_9 : FL RX7 28 9 2 RX7 TX7 3 := ⟨rfl, by decide, uw_X7, "TwoServes$Text", m218, Or.inl rfl⟩
theorem m137 : Cond.fieldLink RX8 7 "TwoServes$Situation" "soft" "[I" ∈ gW := gW_of (i := 137) (by decide +kernel) rfl
theorem fl_X8_7_6 : FL RX8 7 6 2 RX4 TX4 17 := ⟨rfl, by decide, uw_X4, "TwoServes$Situation", m137, Or.inl rfl⟩
theorem m363 : Cond.fieldLink RX8 13 "TwoServes$Timid" "number" "I" ∈ gW := gW_of (i := 363) (by decide +kernel) rfl
theorem m364 : Cond.sameField "TwoServes$Timid" "TwoServes$Server" "number" "I" ∈ gW := gW_of (i := 364) (by decide +kernel) rfl
theorem fl_X8_13_10 : FL RX8 13 10 1 RX8 TX8 3 := ⟨rfl, by decide, uw_X8, "TwoServes$Timid", m363, Or.inr m364⟩
theorem fl_X8_13_7 : FL RX8 13 7 1 RX5 TX5 3 := ⟨rfl, by decide, uw_X5, "TwoServes$Timid", m363, Or.inr m364⟩
theorem m133 : Cond.fieldLink RX9 7 "TwoServes$Situation" "hard" "[I" ∈ gW := gW_of (i := 133) (by decide +kernel) rfl
theorem fl_X9_7_6 : FL RX9 7 6 1 RX4 TX4 17 := ⟨rfl, by decide, uw_X4, "TwoServes$Situation", m133, Or.inl rfl⟩
theorem m369 : Cond.fieldLink RX9 13 "TwoServes$Tiring" "number" "I" ∈ gW := gW_of (i := 369) (by decide +kernel) rfl
theorem m370 : Cond.sameField "TwoServes$Tiring" "TwoServes$Server" "number" "I" ∈ gW := gW_of (i := 370) (by decide +kernel) rfl
theorem fl_X9_13_11 : FL RX9 13 11 1 RX9 TX9 3 := ⟨rfl, by decide, uw_X9, "TwoServes$Tiring", m369, Or.inr m370⟩
theorem fl_X9_13_12 : FL RX9 13 12 1 RX10 TX10 3 := ⟨rfl, by decide, uw_X10, "TwoServes$Tiring", m369, Or.inr m370⟩
theorem m141 : Cond.fieldLink RX9 19 "TwoServes$Situation" "served" "[I" ∈ gW := gW_of (i := 141) (by decide +kernel) rfl
theorem fl_X9_19_6 : FL RX9 19 6 3 RX4 TX4 17 := ⟨rfl, by decide, uw_X4, "TwoServes$Situation", m141, Or.inl rfl⟩
theorem m145 : Cond.fieldLink RX10 9 "TwoServes$Situation" "rows" "[I" ∈ gW := gW_of (i := 145) (by decide +kernel) rfl
theorem fl_X10_9_6 : FL RX10 9 6 4 RX4 TX4 17 := ⟨rfl, by decide, uw_X4, "TwoServes$Situation", m145, Or.inl rfl⟩
theorem m365 : Cond.fieldLink RX10 15 "TwoServes$Told" "number" "I" ∈ gW := gW_of (i := 365) (by decide +kernel) rfl
theorem m366 : Cond.sameField "TwoServes$Told" "TwoServes$Server" "number" "I" ∈ gW := gW_of (i := 366) (by decide +kernel) rfl
theorem fl_X10_15_12 : FL RX10 15 12 1 RX10 TX10 3 := ⟨rfl, by decide, uw_X10, "TwoServes$Told", m365, Or.inr m366⟩
theorem m142 : Cond.fieldLink RX10 21 "TwoServes$Situation" "served" "[I" ∈ gW := gW_of (i := 142) (by decide +kernel) rfl
theorem fl_X10_21_6 : FL RX10 21 6 3 RX4 TX4 17 := ⟨rfl, by decide, uw_X4, "TwoServes$Situation", m142, Or.inl rfl⟩
theorem m379 : Cond.fieldLink RX10 43 "TwoServes$Told" "v" "I" ∈ gW := gW_of (i := 379) (by decide +kernel) rfl
theorem m380 : Cond.sameField "TwoServes$Told" "TwoServes$Server" "v" "I" ∈ gW := gW_of (i := 380) (by decide +kernel) rfl
theorem fl_X10_43_12 : FL RX10 43 12 2 RX10 TX10 3 := ⟨rfl, by decide, uw_X10, "TwoServes$Told", m379, Or.inr m380⟩
theorem m247 : Cond.fieldLink RJxc12de 7 "java/util/AbstractList" "modCount" "I" ∈ gW := gW_of (i := 247) (by decide +kernel) rfl
theorem uw_Jx4a65c : ∀ x ∈ u_ws RJx4a65c TJx4a65c 3, x ∈ gW := by
  show ∀ x ∈ [u_lay RJx4a65c TJx4a65c 0, u_lay RJx4a65c TJx4a65c 1, u_lay RJx4a65c TJx4a65c 2], x ∈ gW
  exact List.forall_mem_cons.mpr ⟨gW_of (i := 254) (by decide +kernel) (by decide +kernel), List.forall_mem_cons.mpr ⟨gW_of (i := 250) (by decide +kernel) (by decide +kernel), List.forall_mem_cons.mpr ⟨gW_of (i := 252) (by decide +kernel) (by decide +kernel), fun _ h => nomatch h⟩⟩⟩
theorem fl_Jxc12de_7_1 : FL RJxc12de 7 1 0 RJx4a65c TJx4a65c 3 := ⟨rfl, by decide, uw_Jx4a65c, "java/util/AbstractList", m247, Or.inl rfl⟩
theorem m245 : Cond.fieldLink RJx4a65c 9 "java/util/ArrayList" "elementData" "[Ljava/lang/Object;" ∈ gW := gW_of (i := 245) (by decide +kernel) rfl
theorem fl_Jx4a65c_9_1 : FL RJx4a65c 9 1 1 RJx4a65c TJx4a65c 3 := ⟨rfl, by decide, uw_Jx4a65c, "java/util/ArrayList", m245, Or.inl rfl⟩
theorem m246 : Cond.fieldLink RJx4a65c 48 "java/util/ArrayList" "size" "I" ∈ gW := gW_of (i := 246) (by decide +kernel) rfl
theorem fl_Jx4a65c_48_1 : FL RJx4a65c 48 1 2 RJx4a65c TJx4a65c 3 := ⟨rfl, by decide, uw_Jx4a65c, "java/util/ArrayList", m246, Or.inl rfl⟩
theorem m248 : Cond.fieldLink RJx4a65c 63 "java/util/ArrayList" "modCount" "I" ∈ gW := gW_of (i := 248) (by decide +kernel) rfl
theorem m249 : Cond.sameField "java/util/ArrayList" "java/util/AbstractList" "modCount" "I" ∈ gW := gW_of (i := 249) (by decide +kernel) rfl
theorem fl_Jx4a65c_63_1 : FL RJx4a65c 63 1 0 RJx4a65c TJx4a65c 3 := ⟨rfl, by decide, uw_Jx4a65c, "java/util/ArrayList", m248, Or.inr m249⟩
theorem m106 : Cond.methodLink RX11 3 objectInit ∈ gW := gW_of (i := 106) (by decide +kernel) rfl
abbrev qX4_init : QM := (yX4_init, cX4_init, 1, none)
theorem m112 : Cond.instanceMethod yX4_init ∈ gW := gW_of (i := 112) (by decide +kernel) rfl
theorem m73 : Cond.initialized RX4 ∈ gW := gW_of (i := 73) (by decide +kernel) rfl
theorem m113 : Cond.code yX4_init cX4_init 1 none ∈ gW := gW_of (i := 113) (by decide +kernel) rfl
theorem ci_X11_11 : CWI RX11 11 qX4_init 0 := ⟨Or.inr ⟨RX11, by decide +kernel⟩, m112, m73, m113, ⟨⟨by decide +kernel, by decide +kernel, by decide +kernel⟩, by decide⟩, rfl, rfl⟩
abbrev qX7_init : QM := (yX7_init, cX7_init, 1, none)
theorem m212 : Cond.instanceMethod yX7_init ∈ gW := gW_of (i := 212) (by decide +kernel) rfl
theorem m75 : Cond.initialized RX7 ∈ gW := gW_of (i := 75) (by decide +kernel) rfl
theorem m213 : Cond.code yX7_init cX7_init 1 none ∈ gW := gW_of (i := 213) (by decide +kernel) rfl
theorem ci_X11_26 : CWI RX11 26 qX7_init 0 := ⟨Or.inr ⟨RX11, by decide +kernel⟩, m212, m75, m213, ⟨⟨by decide +kernel, by decide +kernel, by decide +kernel⟩, by decide⟩, rfl, rfl⟩
theorem m233 : Cond.methodLink RX11 45 yJx4a65c_init_da8c8 ∈ gW := gW_of (i := 233) (by decide +kernel) rfl
abbrev qJx4a65c_init_da8c8 : QM := (yJx4a65c_init_da8c8, cJx4a65c_init_da8c8, 1, none)
theorem m234 : Cond.instanceMethod yJx4a65c_init_da8c8 ∈ gW := gW_of (i := 234) (by decide +kernel) rfl
theorem m78 : Cond.initialized RJx4a65c ∈ gW := gW_of (i := 78) (by decide +kernel) rfl
theorem m235 : Cond.code yJx4a65c_init_da8c8 cJx4a65c_init_da8c8 1 none ∈ gW := gW_of (i := 235) (by decide +kernel) rfl
theorem ci_X11_45 : CWI RX11 45 qJx4a65c_init_da8c8 0 := ⟨Or.inl m233, m234, m78, m235, ⟨⟨by decide +kernel, by decide +kernel, by decide +kernel⟩, by decide⟩, rfl, rfl⟩
abbrev qX0_init : QM := (yX0_init, cX0_init, 1, none)
theorem m261 : Cond.instanceMethod yX0_init ∈ gW := gW_of (i := 261) (by decide +kernel) rfl
theorem m79 : Cond.initialized RX0 ∈ gW := gW_of (i := 79) (by decide +kernel) rfl
theorem m262 : Cond.code yX0_init cX0_init 1 none ∈ gW := gW_of (i := 262) (by decide +kernel) rfl
theorem ci_X11_65 : CWI RX11 65 qX0_init 0 := ⟨Or.inr ⟨RX11, by decide +kernel⟩, m261, m79, m262, ⟨⟨by decide +kernel, by decide +kernel, by decide +kernel⟩, by decide⟩, rfl, rfl⟩
abbrev qX6_init : QM := (yX6_init, cX6_init, 1, none)
theorem m285 : Cond.instanceMethod yX6_init ∈ gW := gW_of (i := 285) (by decide +kernel) rfl
theorem m80 : Cond.initialized RX6 ∈ gW := gW_of (i := 80) (by decide +kernel) rfl
theorem m286 : Cond.code yX6_init cX6_init 1 none ∈ gW := gW_of (i := 286) (by decide +kernel) rfl
theorem ci_X11_66 : CWI RX11 66 qX6_init 0 := ⟨Or.inr ⟨RX11, by decide +kernel⟩, m285, m80, m286, ⟨⟨by decide +kernel, by decide +kernel, by decide +kernel⟩, by decide⟩, rfl, rfl⟩
theorem m344 : Cond.methodLink RX11 67 yX11_within ∈ gW := gW_of (i := 344) (by decide +kernel) rfl
abbrev qX11_within : QM := (yX11_within, cX11_within, 2, some .boolean)
theorem m345 : Cond.static yX11_within ∈ gW := gW_of (i := 345) (by decide +kernel) rfl
theorem m72 : Cond.initialized RX11 ∈ gW := gW_of (i := 72) (by decide +kernel) rfl
theorem m346 : Cond.code yX11_within cX11_within 2 (some .boolean) ∈ gW := gW_of (i := 346) (by decide +kernel) rfl
theorem cs_X11_67 : CWS RX11 67 qX11_within 2 := ⟨Or.inl m344, m345, m72, m346, ⟨⟨by decide +kernel, by decide +kernel, by decide +kernel⟩, by decide⟩⟩
theorem m347 : Cond.methodLink RX11 75 yX11_born ∈ gW := gW_of (i := 347) (by decide +kernel) rfl
abbrev qX11_born : QM := (yX11_born, cX11_born, 3, some (.object "TwoServes$Server"))
theorem m348 : Cond.static yX11_born ∈ gW := gW_of (i := 348) (by decide +kernel) rfl
theorem m349 : Cond.code yX11_born cX11_born 3 (some (.object "TwoServes$Server")) ∈ gW := gW_of (i := 349) (by decide +kernel) rfl
theorem cs_X11_75 : CWS RX11 75 qX11_born 3 := ⟨Or.inl m347, m348, m72, m349, ⟨⟨by decide +kernel, by decide +kernel, by decide +kernel⟩, by decide⟩⟩
abbrev qX4_welcome : QM := (yX4_welcome, cX4_welcome, 4, some .int)
theorem m445 : Cond.methodLink RX11 79 yX4_welcome ∈ gW := gW_of (i := 445) (by decide +kernel) rfl
theorem m446 : Cond.instanceMethod yX4_welcome ∈ gW := gW_of (i := 446) (by decide +kernel) rfl
theorem m447 : Cond.selects RX4 yX4_welcome yX4_welcome ∈ gW := gW_of (i := 447) (by decide +kernel) rfl
theorem m448 : Cond.code yX4_welcome cX4_welcome 4 (some .int) ∈ gW := gW_of (i := 448) (by decide +kernel) rfl
theorem cv_X11_79 : CWV RX11 79 qX4_welcome 3 := ⟨m445, m446, m447, m73, m448, ⟨⟨by decide +kernel, by decide +kernel, by decide +kernel⟩, by decide⟩⟩
abbrev qX11_serverAt : QM := (yX11_serverAt, cX11_serverAt, 2, some (.object "TwoServes$Server"))
theorem m454 : Cond.methodLink RX11 83 yX11_serverAt ∈ gW := gW_of (i := 454) (by decide +kernel) rfl
theorem m456 : Cond.instanceMethod yX11_serverAt ∈ gW := gW_of (i := 456) (by decide +kernel) rfl
theorem m0 : Cond.selects RX11 yX11_serverAt yX11_serverAt ∈ gW := gW_of (i := 0) (by decide +kernel) rfl
theorem m457 : Cond.code yX11_serverAt cX11_serverAt 2 (some (.object "TwoServes$Server")) ∈ gW := gW_of (i := 457) (by decide +kernel) rfl
theorem cv_X11_83 : CWV RX11 83 qX11_serverAt 1 := ⟨m454, m456, m0, m72, m457, ⟨⟨by decide +kernel, by decide +kernel, by decide +kernel⟩, by decide⟩⟩
abbrev qX4_inOf : QM := (yX4_inOf, cX4_inOf, 4, some .int)
theorem m461 : Cond.methodLink RX11 87 yX4_inOf ∈ gW := gW_of (i := 461) (by decide +kernel) rfl
theorem m462 : Cond.instanceMethod yX4_inOf ∈ gW := gW_of (i := 462) (by decide +kernel) rfl
theorem m463 : Cond.selects RX4 yX4_inOf yX4_inOf ∈ gW := gW_of (i := 463) (by decide +kernel) rfl
theorem m464 : Cond.code yX4_inOf cX4_inOf 4 (some .int) ∈ gW := gW_of (i := 464) (by decide +kernel) rfl
theorem cv_X11_87 : CWV RX11 87 qX4_inOf 2 := ⟨m461, m462, m463, m73, m464, ⟨⟨by decide +kernel, by decide +kernel, by decide +kernel⟩, by decide⟩⟩
abbrev qX4_winsOf : QM := (yX4_winsOf, cX4_winsOf, 4, some .int)
theorem m487 : Cond.methodLink RX11 91 yX4_winsOf ∈ gW := gW_of (i := 487) (by decide +kernel) rfl
theorem m488 : Cond.instanceMethod yX4_winsOf ∈ gW := gW_of (i := 488) (by decide +kernel) rfl
theorem m489 : Cond.selects RX4 yX4_winsOf yX4_winsOf ∈ gW := gW_of (i := 489) (by decide +kernel) rfl
theorem m490 : Cond.code yX4_winsOf cX4_winsOf 4 (some .int) ∈ gW := gW_of (i := 490) (by decide +kernel) rfl
theorem cv_X11_91 : CWV RX11 91 qX4_winsOf 2 := ⟨m487, m488, m489, m73, m490, ⟨⟨by decide +kernel, by decide +kernel, by decide +kernel⟩, by decide⟩⟩
theorem m508 : Cond.sameMethod RX3 RX3 "first" "(LTwoServes$Situation;)I" ∈ gW := gW_of (i := 508) (by decide +kernel) rfl
abbrev qX3_first : QM := (yX3_first, cX3_first, 2, some .int)
theorem m505 : Cond.methodLink RX11 114 yX3_first ∈ gW := gW_of (i := 505) (by decide +kernel) rfl
theorem m506 : Cond.instanceMethod yX3_first ∈ gW := gW_of (i := 506) (by decide +kernel) rfl
theorem m525 : Cond.code yX3_first cX3_first 2 (some .int) ∈ gW := gW_of (i := 525) (by decide +kernel) rfl
theorem m507 : Cond.selects RX3 yX3_first yX3_first ∈ gW := gW_of (i := 507) (by decide +kernel) rfl
theorem m82 : Cond.initialized RX3 ∈ gW := gW_of (i := 82) (by decide +kernel) rfl
theorem cu_X11_114_5 : CWU RX11 114 RX3 yX3_first qX3_first 1 := ⟨m505, ⟨RX3, _, _, _, m508, m506, m525, by decide +kernel, by decide +kernel⟩, m507, m506, m82, m525, by decide +kernel, by decide⟩
theorem m509 : Cond.selects RX1 yX3_first yX3_first ∈ gW := gW_of (i := 509) (by decide +kernel) rfl
theorem cu_X11_114_3 : CWU RX11 114 RX1 yX3_first qX3_first 1 := ⟨m505, ⟨RX3, _, _, _, m508, m506, m525, by decide +kernel, by decide +kernel⟩, m509, m506, m82, m525, by decide +kernel, by decide⟩
abbrev qX8_first : QM := (yX8_first, cX8_first, 2, some .int)
theorem m517 : Cond.selects RX8 yX3_first yX8_first ∈ gW := gW_of (i := 517) (by decide +kernel) rfl
theorem m515 : Cond.instanceMethod yX8_first ∈ gW := gW_of (i := 515) (by decide +kernel) rfl
theorem m84 : Cond.initialized RX8 ∈ gW := gW_of (i := 84) (by decide +kernel) rfl
theorem m516 : Cond.code yX8_first cX8_first 2 (some .int) ∈ gW := gW_of (i := 516) (by decide +kernel) rfl
theorem cu_X11_114_10 : CWU RX11 114 RX8 yX3_first qX8_first 1 := ⟨m505, ⟨RX3, _, _, _, m508, m506, m525, by decide +kernel, by decide +kernel⟩, m517, m515, m84, m516, by decide +kernel, by decide⟩
abbrev qX9_first : QM := (yX9_first, cX9_first, 2, some .int)
theorem m518 : Cond.selects RX9 yX3_first yX9_first ∈ gW := gW_of (i := 518) (by decide +kernel) rfl
theorem m519 : Cond.instanceMethod yX9_first ∈ gW := gW_of (i := 519) (by decide +kernel) rfl
theorem m85 : Cond.initialized RX9 ∈ gW := gW_of (i := 85) (by decide +kernel) rfl
theorem m520 : Cond.code yX9_first cX9_first 2 (some .int) ∈ gW := gW_of (i := 520) (by decide +kernel) rfl
theorem cu_X11_114_11 : CWU RX11 114 RX9 yX3_first qX9_first 1 := ⟨m505, ⟨RX3, _, _, _, m508, m506, m525, by decide +kernel, by decide +kernel⟩, m518, m519, m85, m520, by decide +kernel, by decide⟩
theorem m510 : Cond.selects RX2 yX3_first yX3_first ∈ gW := gW_of (i := 510) (by decide +kernel) rfl
theorem cu_X11_114_4 : CWU RX11 114 RX2 yX3_first qX3_first 1 := ⟨m505, ⟨RX3, _, _, _, m508, m506, m525, by decide +kernel, by decide +kernel⟩, m510, m506, m82, m525, by decide +kernel, by decide⟩
abbrev qX5_first : QM := (yX5_first, cX5_first, 2, some .int)
theorem m511 : Cond.selects RX5 yX3_first yX5_first ∈ gW := gW_of (i := 511) (by decide +kernel) rfl
theorem m512 : Cond.instanceMethod yX5_first ∈ gW := gW_of (i := 512) (by decide +kernel) rfl
theorem m87 : Cond.initialized RX5 ∈ gW := gW_of (i := 87) (by decide +kernel) rfl
theorem m513 : Cond.code yX5_first cX5_first 2 (some .int) ∈ gW := gW_of (i := 513) (by decide +kernel) rfl
theorem cu_X11_114_7 : CWU RX11 114 RX5 yX3_first qX5_first 1 := ⟨m505, ⟨RX3, _, _, _, m508, m506, m525, by decide +kernel, by decide +kernel⟩, m511, m512, m87, m513, by decide +kernel, by decide⟩
abbrev qX10_first : QM := (yX10_first, cX10_first, 2, some .int)
theorem m522 : Cond.selects RX10 yX3_first yX10_first ∈ gW := gW_of (i := 522) (by decide +kernel) rfl
theorem m523 : Cond.instanceMethod yX10_first ∈ gW := gW_of (i := 523) (by decide +kernel) rfl
theorem m88 : Cond.initialized RX10 ∈ gW := gW_of (i := 88) (by decide +kernel) rfl
theorem m524 : Cond.code yX10_first cX10_first 2 (some .int) ∈ gW := gW_of (i := 524) (by decide +kernel) rfl
theorem cu_X11_114_12 : CWU RX11 114 RX10 yX3_first qX10_first 1 := ⟨m505, ⟨RX3, _, _, _, m508, m506, m525, by decide +kernel, by decide +kernel⟩, m522, m523, m88, m524, by decide +kernel, by decide⟩
theorem m529 : Cond.sameMethod RX3 RX3 "second" "(LTwoServes$Situation;)I" ∈ gW := gW_of (i := 529) (by decide +kernel) rfl
abbrev qX3_second : QM := (yX3_second, cX3_second, 2, some .int)
theorem m526 : Cond.methodLink RX11 118 yX3_second ∈ gW := gW_of (i := 526) (by decide +kernel) rfl
theorem m527 : Cond.instanceMethod yX3_second ∈ gW := gW_of (i := 527) (by decide +kernel) rfl
theorem m538 : Cond.code yX3_second cX3_second 2 (some .int) ∈ gW := gW_of (i := 538) (by decide +kernel) rfl
theorem m528 : Cond.selects RX3 yX3_second yX3_second ∈ gW := gW_of (i := 528) (by decide +kernel) rfl
theorem cu_X11_118_5 : CWU RX11 118 RX3 yX3_second qX3_second 1 := ⟨m526, ⟨RX3, _, _, _, m529, m527, m538, by decide +kernel, by decide +kernel⟩, m528, m527, m82, m538, by decide +kernel, by decide⟩
abbrev qX1_second : QM := (yX1_second, cX1_second, 2, some .int)
theorem m530 : Cond.selects RX1 yX3_second yX1_second ∈ gW := gW_of (i := 530) (by decide +kernel) rfl
theorem m531 : Cond.instanceMethod yX1_second ∈ gW := gW_of (i := 531) (by decide +kernel) rfl
theorem m83 : Cond.initialized RX1 ∈ gW := gW_of (i := 83) (by decide +kernel) rfl
theorem m532 : Cond.code yX1_second cX1_second 2 (some .int) ∈ gW := gW_of (i := 532) (by decide +kernel) rfl
theorem cu_X11_118_3 : CWU RX11 118 RX1 yX3_second qX1_second 1 := ⟨m526, ⟨RX3, _, _, _, m529, m527, m538, by decide +kernel, by decide +kernel⟩, m530, m531, m83, m532, by decide +kernel, by decide⟩
theorem m535 : Cond.selects RX8 yX3_second yX3_second ∈ gW := gW_of (i := 535) (by decide +kernel) rfl
theorem cu_X11_118_10 : CWU RX11 118 RX8 yX3_second qX3_second 1 := ⟨m526, ⟨RX3, _, _, _, m529, m527, m538, by decide +kernel, by decide +kernel⟩, m535, m527, m82, m538, by decide +kernel, by decide⟩
theorem m536 : Cond.selects RX9 yX3_second yX3_second ∈ gW := gW_of (i := 536) (by decide +kernel) rfl
theorem cu_X11_118_11 : CWU RX11 118 RX9 yX3_second qX3_second 1 := ⟨m526, ⟨RX3, _, _, _, m529, m527, m538, by decide +kernel, by decide +kernel⟩, m536, m527, m82, m538, by decide +kernel, by decide⟩
theorem m533 : Cond.selects RX2 yX3_second yX1_second ∈ gW := gW_of (i := 533) (by decide +kernel) rfl
theorem cu_X11_118_4 : CWU RX11 118 RX2 yX3_second qX1_second 1 := ⟨m526, ⟨RX3, _, _, _, m529, m527, m538, by decide +kernel, by decide +kernel⟩, m533, m531, m83, m532, by decide +kernel, by decide⟩
theorem m534 : Cond.selects RX5 yX3_second yX3_second ∈ gW := gW_of (i := 534) (by decide +kernel) rfl
theorem cu_X11_118_7 : CWU RX11 118 RX5 yX3_second qX3_second 1 := ⟨m526, ⟨RX3, _, _, _, m529, m527, m538, by decide +kernel, by decide +kernel⟩, m534, m527, m82, m538, by decide +kernel, by decide⟩
theorem m537 : Cond.selects RX10 yX3_second yX3_second ∈ gW := gW_of (i := 537) (by decide +kernel) rfl
theorem cu_X11_118_12 : CWU RX11 118 RX10 yX3_second qX3_second 1 := ⟨m526, ⟨RX3, _, _, _, m529, m527, m538, by decide +kernel, by decide +kernel⟩, m537, m527, m82, m538, by decide +kernel, by decide⟩
theorem m543 : Cond.methodLink RX11 121 yX11_replaced ∈ gW := gW_of (i := 543) (by decide +kernel) rfl
abbrev qX11_replaced : QM := (yX11_replaced, cX11_replaced, 4, some .int)
theorem m544 : Cond.static yX11_replaced ∈ gW := gW_of (i := 544) (by decide +kernel) rfl
theorem m545 : Cond.code yX11_replaced cX11_replaced 4 (some .int) ∈ gW := gW_of (i := 545) (by decide +kernel) rfl
theorem cs_X11_121 : CWS RX11 121 qX11_replaced 3 := ⟨Or.inl m543, m544, m72, m545, ⟨⟨by decide +kernel, by decide +kernel, by decide +kernel⟩, by decide⟩⟩
abbrev qX7_takes : QM := (yX7_takes, cX7_takes, 2, some .boolean)
theorem m554 : Cond.methodLink RX11 130 yX7_takes ∈ gW := gW_of (i := 554) (by decide +kernel) rfl
theorem m555 : Cond.instanceMethod yX7_takes ∈ gW := gW_of (i := 555) (by decide +kernel) rfl
theorem m556 : Cond.selects RX7 yX7_takes yX7_takes ∈ gW := gW_of (i := 556) (by decide +kernel) rfl
theorem m557 : Cond.code yX7_takes cX7_takes 2 (some .boolean) ∈ gW := gW_of (i := 557) (by decide +kernel) rfl
theorem cv_X11_130 : CWV RX11 130 qX7_takes 1 := ⟨m554, m555, m556, m75, m557, ⟨⟨by decide +kernel, by decide +kernel, by decide +kernel⟩, by decide⟩⟩
abbrev qX7_readInto : QM := (yX7_readInto, cX7_readInto, 3, some .int)
theorem m563 : Cond.methodLink RX11 140 yX7_readInto ∈ gW := gW_of (i := 563) (by decide +kernel) rfl
theorem m564 : Cond.instanceMethod yX7_readInto ∈ gW := gW_of (i := 564) (by decide +kernel) rfl
theorem m565 : Cond.selects RX7 yX7_readInto yX7_readInto ∈ gW := gW_of (i := 565) (by decide +kernel) rfl
theorem m566 : Cond.code yX7_readInto cX7_readInto 3 (some .int) ∈ gW := gW_of (i := 566) (by decide +kernel) rfl
theorem cv_X11_140 : CWV RX11 140 qX7_readInto 1 := ⟨m563, m564, m565, m75, m566, ⟨⟨by decide +kernel, by decide +kernel, by decide +kernel⟩, by decide⟩⟩
abbrev qX4_chanceBy : QM := (yX4_chanceBy, cX4_chanceBy, 4, some .int)
theorem m730 : Cond.methodLink RX11 157 yX4_chanceBy ∈ gW := gW_of (i := 730) (by decide +kernel) rfl
theorem m731 : Cond.instanceMethod yX4_chanceBy ∈ gW := gW_of (i := 731) (by decide +kernel) rfl
theorem m732 : Cond.selects RX4 yX4_chanceBy yX4_chanceBy ∈ gW := gW_of (i := 732) (by decide +kernel) rfl
theorem m733 : Cond.code yX4_chanceBy cX4_chanceBy 4 (some .int) ∈ gW := gW_of (i := 733) (by decide +kernel) rfl
theorem cv_X11_157 : CWV RX11 157 qX4_chanceBy 3 := ⟨m730, m731, m732, m73, m733, ⟨⟨by decide +kernel, by decide +kernel, by decide +kernel⟩, by decide⟩⟩
abbrev qX4_faultsBy : QM := (yX4_faultsBy, cX4_faultsBy, 4, some .int)
theorem m743 : Cond.methodLink RX11 160 yX4_faultsBy ∈ gW := gW_of (i := 743) (by decide +kernel) rfl
theorem m744 : Cond.instanceMethod yX4_faultsBy ∈ gW := gW_of (i := 744) (by decide +kernel) rfl
theorem m745 : Cond.selects RX4 yX4_faultsBy yX4_faultsBy ∈ gW := gW_of (i := 745) (by decide +kernel) rfl
theorem m746 : Cond.code yX4_faultsBy cX4_faultsBy 4 (some .int) ∈ gW := gW_of (i := 746) (by decide +kernel) rfl
theorem cv_X11_160 : CWV RX11 160 qX4_faultsBy 3 := ⟨m743, m744, m745, m73, m746, ⟨⟨by decide +kernel, by decide +kernel, by decide +kernel⟩, by decide⟩⟩
abbrev qX4_isOver : QM := (yX4_isOver, cX4_isOver, 1, some .boolean)
theorem m751 : Cond.methodLink RX11 163 yX4_isOver ∈ gW := gW_of (i := 751) (by decide +kernel) rfl
theorem m752 : Cond.instanceMethod yX4_isOver ∈ gW := gW_of (i := 752) (by decide +kernel) rfl
theorem m753 : Cond.selects RX4 yX4_isOver yX4_isOver ∈ gW := gW_of (i := 753) (by decide +kernel) rfl
theorem m754 : Cond.code yX4_isOver cX4_isOver 1 (some .boolean) ∈ gW := gW_of (i := 754) (by decide +kernel) rfl
theorem cv_X11_163 : CWV RX11 163 qX4_isOver 0 := ⟨m751, m752, m753, m73, m754, ⟨⟨by decide +kernel, by decide +kernel, by decide +kernel⟩, by decide⟩⟩
abbrev qX4_plays : QM := (yX4_plays, cX4_plays, 5, some .boolean)
theorem m755 : Cond.methodLink RX11 167 yX4_plays ∈ gW := gW_of (i := 755) (by decide +kernel) rfl
theorem m756 : Cond.instanceMethod yX4_plays ∈ gW := gW_of (i := 756) (by decide +kernel) rfl
theorem m757 : Cond.selects RX4 yX4_plays yX4_plays ∈ gW := gW_of (i := 757) (by decide +kernel) rfl
theorem m758 : Cond.code yX4_plays cX4_plays 5 (some .boolean) ∈ gW := gW_of (i := 758) (by decide +kernel) rfl
theorem cv_X11_167 : CWV RX11 167 qX4_plays 3 := ⟨m755, m756, m757, m73, m758, ⟨⟨by decide +kernel, by decide +kernel, by decide +kernel⟩, by decide⟩⟩
abbrev qX11_bestOf : QM := (yX11_bestOf, cX11_bestOf, 8, some .int)
theorem m769 : Cond.methodLink RX11 171 yX11_bestOf ∈ gW := gW_of (i := 769) (by decide +kernel) rfl
theorem m771 : Cond.instanceMethod yX11_bestOf ∈ gW := gW_of (i := 771) (by decide +kernel) rfl
theorem m12 : Cond.selects RX11 yX11_bestOf yX11_bestOf ∈ gW := gW_of (i := 12) (by decide +kernel) rfl
theorem m772 : Cond.code yX11_bestOf cX11_bestOf 8 (some .int) ∈ gW := gW_of (i := 772) (by decide +kernel) rfl
theorem cv_X11_171 : CWV RX11 171 qX11_bestOf 2 := ⟨m769, m771, m12, m72, m772, ⟨⟨by decide +kernel, by decide +kernel, by decide +kernel⟩, by decide⟩⟩
abbrev qX4_chanceOf : QM := (yX4_chanceOf, cX4_chanceOf, 2, some .int)
theorem m786 : Cond.methodLink RX11 175 yX4_chanceOf ∈ gW := gW_of (i := 786) (by decide +kernel) rfl
theorem m787 : Cond.instanceMethod yX4_chanceOf ∈ gW := gW_of (i := 787) (by decide +kernel) rfl
theorem m788 : Cond.selects RX4 yX4_chanceOf yX4_chanceOf ∈ gW := gW_of (i := 788) (by decide +kernel) rfl
theorem m789 : Cond.code yX4_chanceOf cX4_chanceOf 2 (some .int) ∈ gW := gW_of (i := 789) (by decide +kernel) rfl
theorem cv_X11_175 : CWV RX11 175 qX4_chanceOf 1 := ⟨m786, m787, m788, m73, m789, ⟨⟨by decide +kernel, by decide +kernel, by decide +kernel⟩, by decide⟩⟩
abbrev qX4_takeFrom : QM := (yX4_takeFrom, cX4_takeFrom, 3, none)
theorem m795 : Cond.methodLink RX11 179 yX4_takeFrom ∈ gW := gW_of (i := 795) (by decide +kernel) rfl
theorem m796 : Cond.instanceMethod yX4_takeFrom ∈ gW := gW_of (i := 796) (by decide +kernel) rfl
theorem m797 : Cond.selects RX4 yX4_takeFrom yX4_takeFrom ∈ gW := gW_of (i := 797) (by decide +kernel) rfl
theorem m798 : Cond.code yX4_takeFrom cX4_takeFrom 3 none ∈ gW := gW_of (i := 798) (by decide +kernel) rfl
theorem cv_X11_179 : CWV RX11 179 qX4_takeFrom 1 := ⟨m795, m796, m797, m73, m798, ⟨⟨by decide +kernel, by decide +kernel, by decide +kernel⟩, by decide⟩⟩
theorem m458 : Cond.methodLink RX11 183 yJ9_min_7cf53 ∈ gW := gW_of (i := 458) (by decide +kernel) rfl
abbrev qJ9_min_7cf53 : QM := (yJ9_min_7cf53, cJ9_min_7cf53, 2, some .int)
theorem m459 : Cond.static yJ9_min_7cf53 ∈ gW := gW_of (i := 459) (by decide +kernel) rfl
theorem m89 : Cond.initialized RJ9 ∈ gW := gW_of (i := 89) (by decide +kernel) rfl
theorem m460 : Cond.code yJ9_min_7cf53 cJ9_min_7cf53 2 (some .int) ∈ gW := gW_of (i := 460) (by decide +kernel) rfl
theorem cs_X11_183 : CWS RX11 183 qJ9_min_7cf53 2 := ⟨Or.inl m458, m459, m89, m460, ⟨⟨by decide +kernel, by decide +kernel, by decide +kernel⟩, by decide⟩⟩
abbrev qX11_chanceAgainst : QM := (yX11_chanceAgainst, cX11_chanceAgainst, 3, some .int)
theorem m810 : Cond.methodLink RX11 189 yX11_chanceAgainst ∈ gW := gW_of (i := 810) (by decide +kernel) rfl
theorem m812 : Cond.instanceMethod yX11_chanceAgainst ∈ gW := gW_of (i := 812) (by decide +kernel) rfl
theorem m13 : Cond.selects RX11 yX11_chanceAgainst yX11_chanceAgainst ∈ gW := gW_of (i := 13) (by decide +kernel) rfl
theorem m813 : Cond.code yX11_chanceAgainst cX11_chanceAgainst 3 (some .int) ∈ gW := gW_of (i := 813) (by decide +kernel) rfl
theorem cv_X11_189 : CWV RX11 189 qX11_chanceAgainst 2 := ⟨m810, m812, m13, m72, m813, ⟨⟨by decide +kernel, by decide +kernel, by decide +kernel⟩, by decide⟩⟩
abbrev qX11_gameOf : QM := (yX11_gameOf, cX11_gameOf, 6, some .int)
theorem m818 : Cond.methodLink RX11 192 yX11_gameOf ∈ gW := gW_of (i := 818) (by decide +kernel) rfl
theorem m820 : Cond.instanceMethod yX11_gameOf ∈ gW := gW_of (i := 820) (by decide +kernel) rfl
theorem m14 : Cond.selects RX11 yX11_gameOf yX11_gameOf ∈ gW := gW_of (i := 14) (by decide +kernel) rfl
theorem m821 : Cond.code yX11_gameOf cX11_gameOf 6 (some .int) ∈ gW := gW_of (i := 821) (by decide +kernel) rfl
theorem cv_X11_192 : CWV RX11 192 qX11_gameOf 3 := ⟨m818, m820, m14, m72, m821, ⟨⟨by decide +kernel, by decide +kernel, by decide +kernel⟩, by decide⟩⟩
abbrev qX11_matchOf : QM := (yX11_matchOf, cX11_matchOf, 7, some .int)
theorem m835 : Cond.methodLink RX11 195 yX11_matchOf ∈ gW := gW_of (i := 835) (by decide +kernel) rfl
theorem m837 : Cond.instanceMethod yX11_matchOf ∈ gW := gW_of (i := 837) (by decide +kernel) rfl
theorem m15 : Cond.selects RX11 yX11_matchOf yX11_matchOf ∈ gW := gW_of (i := 15) (by decide +kernel) rfl
theorem m838 : Cond.code yX11_matchOf cX11_matchOf 7 (some .int) ∈ gW := gW_of (i := 838) (by decide +kernel) rfl
theorem cv_X11_195 : CWV RX11 195 qX11_matchOf 3 := ⟨m835, m837, m15, m72, m838, ⟨⟨by decide +kernel, by decide +kernel, by decide +kernel⟩, by decide⟩⟩
theorem m774 : Cond.methodLink RX11 207 yX11_pair ∈ gW := gW_of (i := 774) (by decide +kernel) rfl
abbrev qX11_pair : QM := (yX11_pair, cX11_pair, 2, some .int)
theorem m775 : Cond.static yX11_pair ∈ gW := gW_of (i := 775) (by decide +kernel) rfl
theorem m776 : Cond.code yX11_pair cX11_pair 2 (some .int) ∈ gW := gW_of (i := 776) (by decide +kernel) rfl
theorem cs_X11_207 : CWS RX11 207 qX11_pair 2 := ⟨Or.inl m774, m775, m72, m776, ⟨⟨by decide +kernel, by decide +kernel, by decide +kernel⟩, by decide⟩⟩
abbrev qX4_hasSeen : QM := (yX4_hasSeen, cX4_hasSeen, 3, some .boolean)
theorem m852 : Cond.methodLink RX11 210 yX4_hasSeen ∈ gW := gW_of (i := 852) (by decide +kernel) rfl
theorem m853 : Cond.instanceMethod yX4_hasSeen ∈ gW := gW_of (i := 853) (by decide +kernel) rfl
theorem m854 : Cond.selects RX4 yX4_hasSeen yX4_hasSeen ∈ gW := gW_of (i := 854) (by decide +kernel) rfl
theorem m855 : Cond.code yX4_hasSeen cX4_hasSeen 3 (some .boolean) ∈ gW := gW_of (i := 855) (by decide +kernel) rfl
theorem cv_X11_210 : CWV RX11 210 qX4_hasSeen 1 := ⟨m852, m853, m854, m73, m855, ⟨⟨by decide +kernel, by decide +kernel, by decide +kernel⟩, by decide⟩⟩
theorem m862 : Cond.methodLink RX11 217 yX11_lowest ∈ gW := gW_of (i := 862) (by decide +kernel) rfl
abbrev qX11_lowest : QM := (yX11_lowest, cX11_lowest, 12, some .long)
theorem m863 : Cond.static yX11_lowest ∈ gW := gW_of (i := 863) (by decide +kernel) rfl
theorem m864 : Cond.code yX11_lowest cX11_lowest 12 (some .long) ∈ gW := gW_of (i := 864) (by decide +kernel) rfl
theorem cs_X11_217 : CWS RX11 217 qX11_lowest 3 := ⟨Or.inl m862, m863, m72, m864, ⟨⟨by decide +kernel, by decide +kernel, by decide +kernel⟩, by decide⟩⟩
abbrev qX4_books : QM := (yX4_books, cX4_books, 4, some .boolean)
theorem m873 : Cond.methodLink RX11 224 yX4_books ∈ gW := gW_of (i := 873) (by decide +kernel) rfl
theorem m874 : Cond.instanceMethod yX4_books ∈ gW := gW_of (i := 874) (by decide +kernel) rfl
theorem m875 : Cond.selects RX4 yX4_books yX4_books ∈ gW := gW_of (i := 875) (by decide +kernel) rfl
theorem m876 : Cond.code yX4_books cX4_books 4 (some .boolean) ∈ gW := gW_of (i := 876) (by decide +kernel) rfl
theorem cv_X11_224 : CWV RX11 224 qX4_books 3 := ⟨m873, m874, m875, m73, m876, ⟨⟨by decide +kernel, by decide +kernel, by decide +kernel⟩, by decide⟩⟩
abbrev qX11_tapeAt : QM := (yX11_tapeAt, cX11_tapeAt, 2, some (.object "TwoServes$Tape"))
theorem m885 : Cond.methodLink RX11 237 yX11_tapeAt ∈ gW := gW_of (i := 885) (by decide +kernel) rfl
theorem m887 : Cond.instanceMethod yX11_tapeAt ∈ gW := gW_of (i := 887) (by decide +kernel) rfl
theorem m16 : Cond.selects RX11 yX11_tapeAt yX11_tapeAt ∈ gW := gW_of (i := 16) (by decide +kernel) rfl
theorem m888 : Cond.code yX11_tapeAt cX11_tapeAt 2 (some (.object "TwoServes$Tape")) ∈ gW := gW_of (i := 888) (by decide +kernel) rfl
theorem cv_X11_237 : CWV RX11 237 qX11_tapeAt 1 := ⟨m885, m887, m16, m72, m888, ⟨⟨by decide +kernel, by decide +kernel, by decide +kernel⟩, by decide⟩⟩
abbrev qX6_has : QM := (yX6_has, cX6_has, 3, some .boolean)
theorem m889 : Cond.methodLink RX11 244 yX6_has ∈ gW := gW_of (i := 889) (by decide +kernel) rfl
theorem m890 : Cond.instanceMethod yX6_has ∈ gW := gW_of (i := 890) (by decide +kernel) rfl
theorem m891 : Cond.selects RX6 yX6_has yX6_has ∈ gW := gW_of (i := 891) (by decide +kernel) rfl
theorem m892 : Cond.code yX6_has cX6_has 3 (some .boolean) ∈ gW := gW_of (i := 892) (by decide +kernel) rfl
theorem cv_X11_244 : CWV RX11 244 qX6_has 1 := ⟨m889, m890, m891, m80, m892, ⟨⟨by decide +kernel, by decide +kernel, by decide +kernel⟩, by decide⟩⟩
abbrev qX6_at : QM := (yX6_at, cX6_at, 2, some .long)
theorem m893 : Cond.methodLink RX11 248 yX6_at ∈ gW := gW_of (i := 893) (by decide +kernel) rfl
theorem m894 : Cond.instanceMethod yX6_at ∈ gW := gW_of (i := 894) (by decide +kernel) rfl
theorem m895 : Cond.selects RX6 yX6_at yX6_at ∈ gW := gW_of (i := 895) (by decide +kernel) rfl
theorem m896 : Cond.code yX6_at cX6_at 2 (some .long) ∈ gW := gW_of (i := 896) (by decide +kernel) rfl
theorem cv_X11_248 : CWV RX11 248 qX6_at 1 := ⟨m893, m894, m895, m80, m896, ⟨⟨by decide +kernel, by decide +kernel, by decide +kernel⟩, by decide⟩⟩
abbrev qJx4a65c_clear_da8c8 : QM := (yJx4a65c_clear_da8c8, cJx4a65c_clear_da8c8, 4, none)
theorem m911 : Cond.methodLink RX11 256 yJx4a65c_clear_da8c8 ∈ gW := gW_of (i := 911) (by decide +kernel) rfl
theorem m912 : Cond.instanceMethod yJx4a65c_clear_da8c8 ∈ gW := gW_of (i := 912) (by decide +kernel) rfl
theorem m913 : Cond.selects RJx4a65c yJx4a65c_clear_da8c8 yJx4a65c_clear_da8c8 ∈ gW := gW_of (i := 913) (by decide +kernel) rfl
theorem m914 : Cond.code yJx4a65c_clear_da8c8 cJx4a65c_clear_da8c8 4 none ∈ gW := gW_of (i := 914) (by decide +kernel) rfl
theorem cv_X11_256 : CWV RX11 256 qJx4a65c_clear_da8c8 0 := ⟨m911, m912, m913, m78, m914, ⟨⟨by decide +kernel, by decide +kernel, by decide +kernel⟩, by decide⟩⟩
theorem m918 : Cond.sameMethod RX3 RX3 "tosses" "(ILjava/util/ArrayList;)I" ∈ gW := gW_of (i := 918) (by decide +kernel) rfl
abbrev qX3_tosses : QM := (yX3_tosses, cX3_tosses, 3, some .int)
theorem m915 : Cond.methodLink RX11 259 yX3_tosses ∈ gW := gW_of (i := 915) (by decide +kernel) rfl
theorem m916 : Cond.instanceMethod yX3_tosses ∈ gW := gW_of (i := 916) (by decide +kernel) rfl
theorem m1017 : Cond.code yX3_tosses cX3_tosses 3 (some .int) ∈ gW := gW_of (i := 1017) (by decide +kernel) rfl
theorem m917 : Cond.selects RX3 yX3_tosses yX3_tosses ∈ gW := gW_of (i := 917) (by decide +kernel) rfl
theorem cu_X11_259_5 : CWU RX11 259 RX3 yX3_tosses qX3_tosses 2 := ⟨m915, ⟨RX3, _, _, _, m918, m916, m1017, by decide +kernel, by decide +kernel⟩, m917, m916, m82, m1017, by decide +kernel, by decide⟩
theorem m919 : Cond.selects RX1 yX3_tosses yX3_tosses ∈ gW := gW_of (i := 919) (by decide +kernel) rfl
theorem cu_X11_259_3 : CWU RX11 259 RX1 yX3_tosses qX3_tosses 2 := ⟨m915, ⟨RX3, _, _, _, m918, m916, m1017, by decide +kernel, by decide +kernel⟩, m919, m916, m82, m1017, by decide +kernel, by decide⟩
abbrev qX8_tosses : QM := (yX8_tosses, cX8_tosses, 3, some .int)
theorem m1008 : Cond.selects RX8 yX3_tosses yX8_tosses ∈ gW := gW_of (i := 1008) (by decide +kernel) rfl
theorem m1003 : Cond.instanceMethod yX8_tosses ∈ gW := gW_of (i := 1003) (by decide +kernel) rfl
theorem m1004 : Cond.code yX8_tosses cX8_tosses 3 (some .int) ∈ gW := gW_of (i := 1004) (by decide +kernel) rfl
theorem cu_X11_259_10 : CWU RX11 259 RX8 yX3_tosses qX8_tosses 2 := ⟨m915, ⟨RX3, _, _, _, m918, m916, m1017, by decide +kernel, by decide +kernel⟩, m1008, m1003, m84, m1004, by decide +kernel, by decide⟩
theorem m1009 : Cond.selects RX9 yX3_tosses yX3_tosses ∈ gW := gW_of (i := 1009) (by decide +kernel) rfl
theorem cu_X11_259_11 : CWU RX11 259 RX9 yX3_tosses qX3_tosses 2 := ⟨m915, ⟨RX3, _, _, _, m918, m916, m1017, by decide +kernel, by decide +kernel⟩, m1009, m916, m82, m1017, by decide +kernel, by decide⟩
abbrev qX2_tosses : QM := (yX2_tosses, cX2_tosses, 3, some .int)
theorem m920 : Cond.selects RX2 yX3_tosses yX2_tosses ∈ gW := gW_of (i := 920) (by decide +kernel) rfl
theorem m921 : Cond.instanceMethod yX2_tosses ∈ gW := gW_of (i := 921) (by decide +kernel) rfl
theorem m86 : Cond.initialized RX2 ∈ gW := gW_of (i := 86) (by decide +kernel) rfl
theorem m922 : Cond.code yX2_tosses cX2_tosses 3 (some .int) ∈ gW := gW_of (i := 922) (by decide +kernel) rfl
theorem cu_X11_259_4 : CWU RX11 259 RX2 yX3_tosses qX2_tosses 2 := ⟨m915, ⟨RX3, _, _, _, m918, m916, m1017, by decide +kernel, by decide +kernel⟩, m920, m921, m86, m922, by decide +kernel, by decide⟩
theorem m1002 : Cond.selects RX5 yX3_tosses yX8_tosses ∈ gW := gW_of (i := 1002) (by decide +kernel) rfl
theorem cu_X11_259_7 : CWU RX11 259 RX5 yX3_tosses qX8_tosses 2 := ⟨m915, ⟨RX3, _, _, _, m918, m916, m1017, by decide +kernel, by decide +kernel⟩, m1002, m1003, m84, m1004, by decide +kernel, by decide⟩
abbrev qX10_tosses : QM := (yX10_tosses, cX10_tosses, 3, some .int)
theorem m1010 : Cond.selects RX10 yX3_tosses yX10_tosses ∈ gW := gW_of (i := 1010) (by decide +kernel) rfl
theorem m1011 : Cond.instanceMethod yX10_tosses ∈ gW := gW_of (i := 1011) (by decide +kernel) rfl
theorem m1012 : Cond.code yX10_tosses cX10_tosses 3 (some .int) ∈ gW := gW_of (i := 1012) (by decide +kernel) rfl
theorem cu_X11_259_12 : CWU RX11 259 RX10 yX3_tosses qX10_tosses 2 := ⟨m915, ⟨RX3, _, _, _, m918, m916, m1017, by decide +kernel, by decide +kernel⟩, m1010, m1011, m88, m1012, by decide +kernel, by decide⟩
theorem m1023 : Cond.sameMethod RX3 RX3 "strikes" "(ILjava/util/ArrayList;)I" ∈ gW := gW_of (i := 1023) (by decide +kernel) rfl
abbrev qX3_strikes : QM := (yX3_strikes, cX3_strikes, 3, some .int)
theorem m1020 : Cond.methodLink RX11 263 yX3_strikes ∈ gW := gW_of (i := 1020) (by decide +kernel) rfl
theorem m1021 : Cond.instanceMethod yX3_strikes ∈ gW := gW_of (i := 1021) (by decide +kernel) rfl
theorem m1043 : Cond.code yX3_strikes cX3_strikes 3 (some .int) ∈ gW := gW_of (i := 1043) (by decide +kernel) rfl
theorem m1022 : Cond.selects RX3 yX3_strikes yX3_strikes ∈ gW := gW_of (i := 1022) (by decide +kernel) rfl
theorem cu_X11_263_5 : CWU RX11 263 RX3 yX3_strikes qX3_strikes 2 := ⟨m1020, ⟨RX3, _, _, _, m1023, m1021, m1043, by decide +kernel, by decide +kernel⟩, m1022, m1021, m82, m1043, by decide +kernel, by decide⟩
abbrev qX1_strikes : QM := (yX1_strikes, cX1_strikes, 3, some .int)
theorem m1024 : Cond.selects RX1 yX3_strikes yX1_strikes ∈ gW := gW_of (i := 1024) (by decide +kernel) rfl
theorem m1025 : Cond.instanceMethod yX1_strikes ∈ gW := gW_of (i := 1025) (by decide +kernel) rfl
theorem m1026 : Cond.code yX1_strikes cX1_strikes 3 (some .int) ∈ gW := gW_of (i := 1026) (by decide +kernel) rfl
theorem cu_X11_263_3 : CWU RX11 263 RX1 yX3_strikes qX1_strikes 2 := ⟨m1020, ⟨RX3, _, _, _, m1023, m1021, m1043, by decide +kernel, by decide +kernel⟩, m1024, m1025, m83, m1026, by decide +kernel, by decide⟩
theorem m1035 : Cond.selects RX8 yX3_strikes yX3_strikes ∈ gW := gW_of (i := 1035) (by decide +kernel) rfl
theorem cu_X11_263_10 : CWU RX11 263 RX8 yX3_strikes qX3_strikes 2 := ⟨m1020, ⟨RX3, _, _, _, m1023, m1021, m1043, by decide +kernel, by decide +kernel⟩, m1035, m1021, m82, m1043, by decide +kernel, by decide⟩
theorem m1036 : Cond.selects RX9 yX3_strikes yX3_strikes ∈ gW := gW_of (i := 1036) (by decide +kernel) rfl
theorem cu_X11_263_11 : CWU RX11 263 RX9 yX3_strikes qX3_strikes 2 := ⟨m1020, ⟨RX3, _, _, _, m1023, m1021, m1043, by decide +kernel, by decide +kernel⟩, m1036, m1021, m82, m1043, by decide +kernel, by decide⟩
abbrev qX2_strikes : QM := (yX2_strikes, cX2_strikes, 3, some .int)
theorem m1030 : Cond.selects RX2 yX3_strikes yX2_strikes ∈ gW := gW_of (i := 1030) (by decide +kernel) rfl
theorem m1031 : Cond.instanceMethod yX2_strikes ∈ gW := gW_of (i := 1031) (by decide +kernel) rfl
theorem m1032 : Cond.code yX2_strikes cX2_strikes 3 (some .int) ∈ gW := gW_of (i := 1032) (by decide +kernel) rfl
theorem cu_X11_263_4 : CWU RX11 263 RX2 yX3_strikes qX2_strikes 2 := ⟨m1020, ⟨RX3, _, _, _, m1023, m1021, m1043, by decide +kernel, by decide +kernel⟩, m1030, m1031, m86, m1032, by decide +kernel, by decide⟩
theorem m1034 : Cond.selects RX5 yX3_strikes yX3_strikes ∈ gW := gW_of (i := 1034) (by decide +kernel) rfl
theorem cu_X11_263_7 : CWU RX11 263 RX5 yX3_strikes qX3_strikes 2 := ⟨m1020, ⟨RX3, _, _, _, m1023, m1021, m1043, by decide +kernel, by decide +kernel⟩, m1034, m1021, m82, m1043, by decide +kernel, by decide⟩
abbrev qX10_strikes : QM := (yX10_strikes, cX10_strikes, 3, some .int)
theorem m1037 : Cond.selects RX10 yX3_strikes yX10_strikes ∈ gW := gW_of (i := 1037) (by decide +kernel) rfl
theorem m1038 : Cond.instanceMethod yX10_strikes ∈ gW := gW_of (i := 1038) (by decide +kernel) rfl
theorem m1039 : Cond.code yX10_strikes cX10_strikes 3 (some .int) ∈ gW := gW_of (i := 1039) (by decide +kernel) rfl
theorem cu_X11_263_12 : CWU RX11 263 RX10 yX3_strikes qX10_strikes 2 := ⟨m1020, ⟨RX3, _, _, _, m1023, m1021, m1043, by decide +kernel, by decide +kernel⟩, m1037, m1038, m88, m1039, by decide +kernel, by decide⟩
theorem m1048 : Cond.sameMethod RX3 RX3 "tells" "(ILjava/util/ArrayList;)I" ∈ gW := gW_of (i := 1048) (by decide +kernel) rfl
abbrev qX3_tells : QM := (yX3_tells, cX3_tells, 3, some .int)
theorem m1045 : Cond.methodLink RX11 266 yX3_tells ∈ gW := gW_of (i := 1045) (by decide +kernel) rfl
theorem m1046 : Cond.instanceMethod yX3_tells ∈ gW := gW_of (i := 1046) (by decide +kernel) rfl
theorem m1070 : Cond.code yX3_tells cX3_tells 3 (some .int) ∈ gW := gW_of (i := 1070) (by decide +kernel) rfl
theorem m1047 : Cond.selects RX3 yX3_tells yX3_tells ∈ gW := gW_of (i := 1047) (by decide +kernel) rfl
theorem cu_X11_266_5 : CWU RX11 266 RX3 yX3_tells qX3_tells 2 := ⟨m1045, ⟨RX3, _, _, _, m1048, m1046, m1070, by decide +kernel, by decide +kernel⟩, m1047, m1046, m82, m1070, by decide +kernel, by decide⟩
theorem m1049 : Cond.selects RX1 yX3_tells yX3_tells ∈ gW := gW_of (i := 1049) (by decide +kernel) rfl
theorem cu_X11_266_3 : CWU RX11 266 RX1 yX3_tells qX3_tells 2 := ⟨m1045, ⟨RX3, _, _, _, m1048, m1046, m1070, by decide +kernel, by decide +kernel⟩, m1049, m1046, m82, m1070, by decide +kernel, by decide⟩
theorem m1059 : Cond.selects RX8 yX3_tells yX3_tells ∈ gW := gW_of (i := 1059) (by decide +kernel) rfl
theorem cu_X11_266_10 : CWU RX11 266 RX8 yX3_tells qX3_tells 2 := ⟨m1045, ⟨RX3, _, _, _, m1048, m1046, m1070, by decide +kernel, by decide +kernel⟩, m1059, m1046, m82, m1070, by decide +kernel, by decide⟩
abbrev qX9_tells : QM := (yX9_tells, cX9_tells, 3, some .int)
theorem m1060 : Cond.selects RX9 yX3_tells yX9_tells ∈ gW := gW_of (i := 1060) (by decide +kernel) rfl
theorem m1061 : Cond.instanceMethod yX9_tells ∈ gW := gW_of (i := 1061) (by decide +kernel) rfl
theorem m1062 : Cond.code yX9_tells cX9_tells 3 (some .int) ∈ gW := gW_of (i := 1062) (by decide +kernel) rfl
theorem cu_X11_266_11 : CWU RX11 266 RX9 yX3_tells qX9_tells 2 := ⟨m1045, ⟨RX3, _, _, _, m1048, m1046, m1070, by decide +kernel, by decide +kernel⟩, m1060, m1061, m85, m1062, by decide +kernel, by decide⟩
theorem m1050 : Cond.selects RX2 yX3_tells yX3_tells ∈ gW := gW_of (i := 1050) (by decide +kernel) rfl
theorem cu_X11_266_4 : CWU RX11 266 RX2 yX3_tells qX3_tells 2 := ⟨m1045, ⟨RX3, _, _, _, m1048, m1046, m1070, by decide +kernel, by decide +kernel⟩, m1050, m1046, m82, m1070, by decide +kernel, by decide⟩
abbrev qX5_tells : QM := (yX5_tells, cX5_tells, 3, some .int)
theorem m1051 : Cond.selects RX5 yX3_tells yX5_tells ∈ gW := gW_of (i := 1051) (by decide +kernel) rfl
theorem m1052 : Cond.instanceMethod yX5_tells ∈ gW := gW_of (i := 1052) (by decide +kernel) rfl
theorem m1053 : Cond.code yX5_tells cX5_tells 3 (some .int) ∈ gW := gW_of (i := 1053) (by decide +kernel) rfl
theorem cu_X11_266_7 : CWU RX11 266 RX5 yX3_tells qX5_tells 2 := ⟨m1045, ⟨RX3, _, _, _, m1048, m1046, m1070, by decide +kernel, by decide +kernel⟩, m1051, m1052, m87, m1053, by decide +kernel, by decide⟩
theorem m1069 : Cond.selects RX10 yX3_tells yX9_tells ∈ gW := gW_of (i := 1069) (by decide +kernel) rfl
theorem cu_X11_266_12 : CWU RX11 266 RX10 yX3_tells qX9_tells 2 := ⟨m1045, ⟨RX3, _, _, _, m1048, m1046, m1070, by decide +kernel, by decide +kernel⟩, m1069, m1061, m85, m1062, by decide +kernel, by decide⟩
abbrev qJx4a65c_size_8abf5 : QM := (yJx4a65c_size_8abf5, cJx4a65c_size_8abf5, 1, some .int)
theorem m1076 : Cond.methodLink RX11 269 yJx4a65c_size_8abf5 ∈ gW := gW_of (i := 1076) (by decide +kernel) rfl
theorem m1077 : Cond.instanceMethod yJx4a65c_size_8abf5 ∈ gW := gW_of (i := 1077) (by decide +kernel) rfl
theorem m1078 : Cond.selects RJx4a65c yJx4a65c_size_8abf5 yJx4a65c_size_8abf5 ∈ gW := gW_of (i := 1078) (by decide +kernel) rfl
theorem m1079 : Cond.code yJx4a65c_size_8abf5 cJx4a65c_size_8abf5 1 (some .int) ∈ gW := gW_of (i := 1079) (by decide +kernel) rfl
theorem cv_X11_269 : CWV RX11 269 qJx4a65c_size_8abf5 0 := ⟨m1076, m1077, m1078, m78, m1079, ⟨⟨by decide +kernel, by decide +kernel, by decide +kernel⟩, by decide⟩⟩
abbrev qJx4a65c_get_915e3 : QM := (yJx4a65c_get_915e3, cJx4a65c_get_915e3, 2, some (.object "java/lang/Object"))
theorem m1080 : Cond.methodLink RX11 273 yJx4a65c_get_915e3 ∈ gW := gW_of (i := 1080) (by decide +kernel) rfl
theorem m1081 : Cond.instanceMethod yJx4a65c_get_915e3 ∈ gW := gW_of (i := 1081) (by decide +kernel) rfl
theorem m1082 : Cond.selects RJx4a65c yJx4a65c_get_915e3 yJx4a65c_get_915e3 ∈ gW := gW_of (i := 1082) (by decide +kernel) rfl
theorem m1083 : Cond.code yJx4a65c_get_915e3 cJx4a65c_get_915e3 2 (some (.object "java/lang/Object")) ∈ gW := gW_of (i := 1083) (by decide +kernel) rfl
theorem cv_X11_273 : CWV RX11 273 qJx4a65c_get_915e3 1 := ⟨m1080, m1081, m1082, m78, m1083, ⟨⟨by decide +kernel, by decide +kernel, by decide +kernel⟩, by decide⟩⟩
abbrev qJ6_intValue_8abf5 : QM := (yJ6_intValue_8abf5, cJ6_intValue_8abf5, 1, some .int)
theorem m1093 : Cond.methodLink RX11 279 yJ6_intValue_8abf5 ∈ gW := gW_of (i := 1093) (by decide +kernel) rfl
theorem m1094 : Cond.instanceMethod yJ6_intValue_8abf5 ∈ gW := gW_of (i := 1094) (by decide +kernel) rfl
theorem m1095 : Cond.selects RJ6 yJ6_intValue_8abf5 yJ6_intValue_8abf5 ∈ gW := gW_of (i := 1095) (by decide +kernel) rfl
theorem m96 : Cond.initialized RJ6 ∈ gW := gW_of (i := 96) (by decide +kernel) rfl
theorem m1096 : Cond.code yJ6_intValue_8abf5 cJ6_intValue_8abf5 1 (some .int) ∈ gW := gW_of (i := 1096) (by decide +kernel) rfl
theorem cv_X11_279 : CWV RX11 279 qJ6_intValue_8abf5 0 := ⟨m1093, m1094, m1095, m96, m1096, ⟨⟨by decide +kernel, by decide +kernel, by decide +kernel⟩, by decide⟩⟩
theorem m1101 : Cond.methodLink RX11 282 yX11_isOneOf ∈ gW := gW_of (i := 1101) (by decide +kernel) rfl
abbrev qX11_isOneOf : QM := (yX11_isOneOf, cX11_isOneOf, 2, some .boolean)
theorem m1102 : Cond.static yX11_isOneOf ∈ gW := gW_of (i := 1102) (by decide +kernel) rfl
theorem m1103 : Cond.code yX11_isOneOf cX11_isOneOf 2 (some .boolean) ∈ gW := gW_of (i := 1103) (by decide +kernel) rfl
theorem cs_X11_282 : CWS RX11 282 qX11_isOneOf 2 := ⟨Or.inl m1101, m1102, m72, m1103, ⟨⟨by decide +kernel, by decide +kernel, by decide +kernel⟩, by decide⟩⟩
abbrev qX6_become : QM := (yX6_become, cX6_become, 3, none)
theorem m1112 : Cond.methodLink RX11 286 yX6_become ∈ gW := gW_of (i := 1112) (by decide +kernel) rfl
theorem m1113 : Cond.instanceMethod yX6_become ∈ gW := gW_of (i := 1113) (by decide +kernel) rfl
theorem m1114 : Cond.selects RX6 yX6_become yX6_become ∈ gW := gW_of (i := 1114) (by decide +kernel) rfl
theorem m1115 : Cond.code yX6_become cX6_become 3 none ∈ gW := gW_of (i := 1115) (by decide +kernel) rfl
theorem cv_X11_286 : CWV RX11 286 qX6_become 2 := ⟨m1112, m1113, m1114, m80, m1115, ⟨⟨by decide +kernel, by decide +kernel, by decide +kernel⟩, by decide⟩⟩
abbrev qX6_puts : QM := (yX6_puts, cX6_puts, 4, some .boolean)
theorem m1125 : Cond.methodLink RX11 290 yX6_puts ∈ gW := gW_of (i := 1125) (by decide +kernel) rfl
theorem m1126 : Cond.instanceMethod yX6_puts ∈ gW := gW_of (i := 1126) (by decide +kernel) rfl
theorem m1127 : Cond.selects RX6 yX6_puts yX6_puts ∈ gW := gW_of (i := 1127) (by decide +kernel) rfl
theorem m1128 : Cond.code yX6_puts cX6_puts 4 (some .boolean) ∈ gW := gW_of (i := 1128) (by decide +kernel) rfl
theorem cv_X11_290 : CWV RX11 290 qX6_puts 2 := ⟨m1125, m1126, m1127, m80, m1128, ⟨⟨by decide +kernel, by decide +kernel, by decide +kernel⟩, by decide⟩⟩
abbrev qX6_takes : QM := (yX6_takes, cX6_takes, 5, some .boolean)
theorem m1141 : Cond.methodLink RX11 294 yX6_takes ∈ gW := gW_of (i := 1141) (by decide +kernel) rfl
theorem m1142 : Cond.instanceMethod yX6_takes ∈ gW := gW_of (i := 1142) (by decide +kernel) rfl
theorem m1143 : Cond.selects RX6 yX6_takes yX6_takes ∈ gW := gW_of (i := 1143) (by decide +kernel) rfl
theorem m1144 : Cond.code yX6_takes cX6_takes 5 (some .boolean) ∈ gW := gW_of (i := 1144) (by decide +kernel) rfl
theorem cv_X11_294 : CWV RX11 294 qX6_takes 4 := ⟨m1141, m1142, m1143, m80, m1144, ⟨⟨by decide +kernel, by decide +kernel, by decide +kernel⟩, by decide⟩⟩
theorem m352 : Cond.methodLink RX11 303 yX1_init ∈ gW := gW_of (i := 352) (by decide +kernel) rfl
abbrev qX1_init : QM := (yX1_init, cX1_init, 4, none)
theorem m353 : Cond.instanceMethod yX1_init ∈ gW := gW_of (i := 353) (by decide +kernel) rfl
theorem m354 : Cond.code yX1_init cX1_init 4 none ∈ gW := gW_of (i := 354) (by decide +kernel) rfl
theorem ci_X11_303 : CWI RX11 303 qX1_init 3 := ⟨Or.inl m352, m353, m83, m354, ⟨⟨by decide +kernel, by decide +kernel, by decide +kernel⟩, by decide⟩, rfl, rfl⟩
theorem m390 : Cond.methodLink RX11 308 yX8_init ∈ gW := gW_of (i := 390) (by decide +kernel) rfl
abbrev qX8_init : QM := (yX8_init, cX8_init, 4, none)
theorem m391 : Cond.instanceMethod yX8_init ∈ gW := gW_of (i := 391) (by decide +kernel) rfl
theorem m392 : Cond.code yX8_init cX8_init 4 none ∈ gW := gW_of (i := 392) (by decide +kernel) rfl
theorem ci_X11_308 : CWI RX11 308 qX8_init 3 := ⟨Or.inl m390, m391, m84, m392, ⟨⟨by decide +kernel, by decide +kernel, by decide +kernel⟩, by decide⟩, rfl, rfl⟩
theorem m400 : Cond.methodLink RX11 311 yX9_init ∈ gW := gW_of (i := 400) (by decide +kernel) rfl
abbrev qX9_init : QM := (yX9_init, cX9_init, 4, none)
theorem m401 : Cond.instanceMethod yX9_init ∈ gW := gW_of (i := 401) (by decide +kernel) rfl
theorem m402 : Cond.code yX9_init cX9_init 4 none ∈ gW := gW_of (i := 402) (by decide +kernel) rfl
theorem ci_X11_311 : CWI RX11 311 qX9_init 3 := ⟨Or.inl m400, m401, m85, m402, ⟨⟨by decide +kernel, by decide +kernel, by decide +kernel⟩, by decide⟩, rfl, rfl⟩
theorem m410 : Cond.methodLink RX11 314 yX2_init ∈ gW := gW_of (i := 410) (by decide +kernel) rfl
abbrev qX2_init : QM := (yX2_init, cX2_init, 4, none)
theorem m411 : Cond.instanceMethod yX2_init ∈ gW := gW_of (i := 411) (by decide +kernel) rfl
theorem m412 : Cond.code yX2_init cX2_init 4 none ∈ gW := gW_of (i := 412) (by decide +kernel) rfl
theorem ci_X11_314 : CWI RX11 314 qX2_init 3 := ⟨Or.inl m410, m411, m86, m412, ⟨⟨by decide +kernel, by decide +kernel, by decide +kernel⟩, by decide⟩, rfl, rfl⟩
theorem m420 : Cond.methodLink RX11 317 yX5_init ∈ gW := gW_of (i := 420) (by decide +kernel) rfl
abbrev qX5_init : QM := (yX5_init, cX5_init, 4, none)
theorem m421 : Cond.instanceMethod yX5_init ∈ gW := gW_of (i := 421) (by decide +kernel) rfl
theorem m422 : Cond.code yX5_init cX5_init 4 none ∈ gW := gW_of (i := 422) (by decide +kernel) rfl
theorem ci_X11_317 : CWI RX11 317 qX5_init 3 := ⟨Or.inl m420, m421, m87, m422, ⟨⟨by decide +kernel, by decide +kernel, by decide +kernel⟩, by decide⟩, rfl, rfl⟩
theorem m430 : Cond.methodLink RX11 318 yX10_init ∈ gW := gW_of (i := 430) (by decide +kernel) rfl
abbrev qX10_init : QM := (yX10_init, cX10_init, 4, none)
theorem m431 : Cond.instanceMethod yX10_init ∈ gW := gW_of (i := 431) (by decide +kernel) rfl
theorem m432 : Cond.code yX10_init cX10_init 4 none ∈ gW := gW_of (i := 432) (by decide +kernel) rfl
theorem ci_X11_318 : CWI RX11 318 qX10_init 3 := ⟨Or.inl m430, m431, m88, m432, ⟨⟨by decide +kernel, by decide +kernel, by decide +kernel⟩, by decide⟩, rfl, rfl⟩
theorem m440 : Cond.methodLink RX11 319 yX3_init ∈ gW := gW_of (i := 440) (by decide +kernel) rfl
abbrev qX3_init : QM := (yX3_init, cX3_init, 4, none)
theorem m356 : Cond.instanceMethod yX3_init ∈ gW := gW_of (i := 356) (by decide +kernel) rfl
theorem m357 : Cond.code yX3_init cX3_init 4 none ∈ gW := gW_of (i := 357) (by decide +kernel) rfl
theorem ci_X11_319 : CWI RX11 319 qX3_init 3 := ⟨Or.inl m440, m356, m82, m357, ⟨⟨by decide +kernel, by decide +kernel, by decide +kernel⟩, by decide⟩, rfl, rfl⟩
theorem m773 : Cond.methodLink RX11 320 yX11_twoServes ∈ gW := gW_of (i := 773) (by decide +kernel) rfl
abbrev qX11_twoServes : QM := (yX11_twoServes, cX11_twoServes, 4, some .int)
theorem m737 : Cond.static yX11_twoServes ∈ gW := gW_of (i := 737) (by decide +kernel) rfl
theorem m738 : Cond.code yX11_twoServes cX11_twoServes 4 (some .int) ∈ gW := gW_of (i := 738) (by decide +kernel) rfl
theorem cs_X11_320 : CWS RX11 320 qX11_twoServes 4 := ⟨Or.inl m773, m737, m72, m738, ⟨⟨by decide +kernel, by decide +kernel, by decide +kernel⟩, by decide⟩⟩
theorem m823 : Cond.methodLink RX11 324 yX11_mixed ∈ gW := gW_of (i := 823) (by decide +kernel) rfl
abbrev qX11_mixed : QM := (yX11_mixed, cX11_mixed, 4, some .int)
theorem m824 : Cond.static yX11_mixed ∈ gW := gW_of (i := 824) (by decide +kernel) rfl
theorem m825 : Cond.code yX11_mixed cX11_mixed 4 (some .int) ∈ gW := gW_of (i := 825) (by decide +kernel) rfl
theorem cs_X11_324 : CWS RX11 324 qX11_mixed 3 := ⟨Or.inl m823, m824, m72, m825, ⟨⟨by decide +kernel, by decide +kernel, by decide +kernel⟩, by decide⟩⟩
theorem m263 : Cond.methodLink RX0 3 objectInit ∈ gW := gW_of (i := 263) (by decide +kernel) rfl
abbrev qX0_holds : QM := (yX0_holds, cX0_holds, 7, some .boolean)
theorem m473 : Cond.methodLink RX0 31 yX0_holds ∈ gW := gW_of (i := 473) (by decide +kernel) rfl
theorem m475 : Cond.instanceMethod yX0_holds ∈ gW := gW_of (i := 475) (by decide +kernel) rfl
theorem m2 : Cond.selects RX0 yX0_holds yX0_holds ∈ gW := gW_of (i := 2) (by decide +kernel) rfl
theorem m476 : Cond.code yX0_holds cX0_holds 7 (some .boolean) ∈ gW := gW_of (i := 476) (by decide +kernel) rfl
theorem cv_X0_31 : CWV RX0 31 qX0_holds 3 := ⟨m473, m475, m2, m79, m476, ⟨⟨by decide +kernel, by decide +kernel, by decide +kernel⟩, by decide⟩⟩
theorem m477 : Cond.methodLink RX0 35 yX0_passes ∈ gW := gW_of (i := 477) (by decide +kernel) rfl
abbrev qX0_passes : QM := (yX0_passes, cX0_passes, 5, some .boolean)
theorem m478 : Cond.static yX0_passes ∈ gW := gW_of (i := 478) (by decide +kernel) rfl
theorem m479 : Cond.code yX0_passes cX0_passes 5 (some .boolean) ∈ gW := gW_of (i := 479) (by decide +kernel) rfl
theorem cs_X0_35 : CWS RX0 35 qX0_passes 2 := ⟨Or.inl m477, m478, m79, m479, ⟨⟨by decide +kernel, by decide +kernel, by decide +kernel⟩, by decide⟩⟩
theorem m355 : Cond.methodLink RX1 1 yX3_init ∈ gW := gW_of (i := 355) (by decide +kernel) rfl
theorem ci_X1_1 : CWI RX1 1 qX3_init 3 := ⟨Or.inl m355, m356, m82, m357, ⟨⟨by decide +kernel, by decide +kernel, by decide +kernel⟩, by decide⟩, rfl, rfl⟩
theorem m1027 : Cond.methodLink RX1 19 yJ6_valueOf_2dffe ∈ gW := gW_of (i := 1027) (by decide +kernel) rfl
abbrev qJ6_valueOf_2dffe : QM := (yJ6_valueOf_2dffe, cJ6_valueOf_2dffe, 1, some (.object "java/lang/Integer"))
theorem m924 : Cond.static yJ6_valueOf_2dffe ∈ gW := gW_of (i := 924) (by decide +kernel) rfl
theorem m925 : Cond.code yJ6_valueOf_2dffe cJ6_valueOf_2dffe 1 (some (.object "java/lang/Integer")) ∈ gW := gW_of (i := 925) (by decide +kernel) rfl
theorem cs_X1_19 : CWS RX1 19 qJ6_valueOf_2dffe 1 := ⟨Or.inl m1027, m924, m96, m925, ⟨⟨by decide +kernel, by decide +kernel, by decide +kernel⟩, by decide⟩⟩
abbrev qJx4a65c_add_9ea2d : QM := (yJx4a65c_add_9ea2d, cJx4a65c_add_9ea2d, 2, some .boolean)
theorem m1028 : Cond.methodLink RX1 25 yJx4a65c_add_9ea2d ∈ gW := gW_of (i := 1028) (by decide +kernel) rfl
theorem m944 : Cond.instanceMethod yJx4a65c_add_9ea2d ∈ gW := gW_of (i := 944) (by decide +kernel) rfl
theorem m945 : Cond.selects RJx4a65c yJx4a65c_add_9ea2d yJx4a65c_add_9ea2d ∈ gW := gW_of (i := 945) (by decide +kernel) rfl
theorem m946 : Cond.code yJx4a65c_add_9ea2d cJx4a65c_add_9ea2d 2 (some .boolean) ∈ gW := gW_of (i := 946) (by decide +kernel) rfl
theorem cv_X1_25 : CWV RX1 25 qJx4a65c_add_9ea2d 1 := ⟨m1028, m944, m945, m78, m946, ⟨⟨by decide +kernel, by decide +kernel, by decide +kernel⟩, by decide⟩⟩
theorem m1029 : Cond.methodLink RX1 31 yX3_strikes ∈ gW := gW_of (i := 1029) (by decide +kernel) rfl
theorem m387 : Cond.superclass RX1 RX3 ∈ gW := gW_of (i := 387) (by decide +kernel) rfl
theorem cp_X1_31 : CWP RX1 31 qX3_strikes 2 := ⟨m1029, m1023, m387, m1021, m82, m1043, by decide +kernel, by decide +kernel, by decide⟩
theorem m413 : Cond.methodLink RX2 1 yX1_init ∈ gW := gW_of (i := 413) (by decide +kernel) rfl
theorem ci_X2_1 : CWI RX2 1 qX1_init 3 := ⟨Or.inl m413, m353, m83, m354, ⟨⟨by decide +kernel, by decide +kernel, by decide +kernel⟩, by decide⟩, rfl, rfl⟩
theorem m499 : Cond.methodLink RX2 13 yJ9_max_7cf53 ∈ gW := gW_of (i := 499) (by decide +kernel) rfl
abbrev qJ9_max_7cf53 : QM := (yJ9_max_7cf53, cJ9_max_7cf53, 2, some .int)
theorem m485 : Cond.static yJ9_max_7cf53 ∈ gW := gW_of (i := 485) (by decide +kernel) rfl
theorem m486 : Cond.code yJ9_max_7cf53 cJ9_max_7cf53 2 (some .int) ∈ gW := gW_of (i := 486) (by decide +kernel) rfl
theorem cs_X2_13 : CWS RX2 13 qJ9_max_7cf53 2 := ⟨Or.inl m499, m485, m89, m486, ⟨⟨by decide +kernel, by decide +kernel, by decide +kernel⟩, by decide⟩⟩
theorem m923 : Cond.methodLink RX2 19 yJ6_valueOf_2dffe ∈ gW := gW_of (i := 923) (by decide +kernel) rfl
theorem cs_X2_19 : CWS RX2 19 qJ6_valueOf_2dffe 1 := ⟨Or.inl m923, m924, m96, m925, ⟨⟨by decide +kernel, by decide +kernel, by decide +kernel⟩, by decide⟩⟩
theorem m943 : Cond.methodLink RX2 25 yJx4a65c_add_9ea2d ∈ gW := gW_of (i := 943) (by decide +kernel) rfl
theorem cv_X2_25 : CWV RX2 25 qJx4a65c_add_9ea2d 1 := ⟨m943, m944, m945, m78, m946, ⟨⟨by decide +kernel, by decide +kernel, by decide +kernel⟩, by decide⟩⟩
theorem m1033 : Cond.methodLink RX2 35 yX1_strikes ∈ gW := gW_of (i := 1033) (by decide +kernel) rfl
theorem m1708 : Cond.sameMethod RX1 RX1 "strikes" "(ILjava/util/ArrayList;)I" ∈ gW := gW_of (i := 1708) (by decide +kernel) rfl
theorem m417 : Cond.superclass RX2 RX1 ∈ gW := gW_of (i := 417) (by decide +kernel) rfl
theorem cp_X2_35 : CWP RX2 35 qX1_strikes 2 := ⟨m1033, m1708, m417, m1025, m83, m1026, by decide +kernel, by decide +kernel, by decide⟩
theorem m358 : Cond.methodLink RX3 1 objectInit ∈ gW := gW_of (i := 358) (by decide +kernel) rfl
theorem m1018 : Cond.methodLink RX3 28 yJ6_valueOf_2dffe ∈ gW := gW_of (i := 1018) (by decide +kernel) rfl
theorem cs_X3_28 : CWS RX3 28 qJ6_valueOf_2dffe 1 := ⟨Or.inl m1018, m924, m96, m925, ⟨⟨by decide +kernel, by decide +kernel, by decide +kernel⟩, by decide⟩⟩
theorem m1019 : Cond.methodLink RX3 34 yJx4a65c_add_9ea2d ∈ gW := gW_of (i := 1019) (by decide +kernel) rfl
theorem cv_X3_34 : CWV RX3 34 qJx4a65c_add_9ea2d 1 := ⟨m1019, m944, m945, m78, m946, ⟨⟨by decide +kernel, by decide +kernel, by decide +kernel⟩, by decide⟩⟩
theorem m1044 : Cond.methodLink RX3 40 yX3_tosses ∈ gW := gW_of (i := 1044) (by decide +kernel) rfl
theorem cu_X3_40_5 : CWU RX3 40 RX3 yX3_tosses qX3_tosses 2 := ⟨m1044, ⟨RX3, _, _, _, m918, m916, m1017, by decide +kernel, by decide +kernel⟩, m917, m916, m82, m1017, by decide +kernel, by decide⟩
theorem cu_X3_40_3 : CWU RX3 40 RX1 yX3_tosses qX3_tosses 2 := ⟨m1044, ⟨RX3, _, _, _, m918, m916, m1017, by decide +kernel, by decide +kernel⟩, m919, m916, m82, m1017, by decide +kernel, by decide⟩
theorem cu_X3_40_10 : CWU RX3 40 RX8 yX3_tosses qX8_tosses 2 := ⟨m1044, ⟨RX3, _, _, _, m918, m916, m1017, by decide +kernel, by decide +kernel⟩, m1008, m1003, m84, m1004, by decide +kernel, by decide⟩
theorem cu_X3_40_11 : CWU RX3 40 RX9 yX3_tosses qX3_tosses 2 := ⟨m1044, ⟨RX3, _, _, _, m918, m916, m1017, by decide +kernel, by decide +kernel⟩, m1009, m916, m82, m1017, by decide +kernel, by decide⟩
theorem cu_X3_40_4 : CWU RX3 40 RX2 yX3_tosses qX2_tosses 2 := ⟨m1044, ⟨RX3, _, _, _, m918, m916, m1017, by decide +kernel, by decide +kernel⟩, m920, m921, m86, m922, by decide +kernel, by decide⟩
theorem cu_X3_40_7 : CWU RX3 40 RX5 yX3_tosses qX8_tosses 2 := ⟨m1044, ⟨RX3, _, _, _, m918, m916, m1017, by decide +kernel, by decide +kernel⟩, m1002, m1003, m84, m1004, by decide +kernel, by decide⟩
theorem cu_X3_40_12 : CWU RX3 40 RX10 yX3_tosses qX10_tosses 2 := ⟨m1044, ⟨RX3, _, _, _, m918, m916, m1017, by decide +kernel, by decide +kernel⟩, m1010, m1011, m88, m1012, by decide +kernel, by decide⟩
theorem m1071 : Cond.methodLink RX3 44 yX3_strikes ∈ gW := gW_of (i := 1071) (by decide +kernel) rfl
theorem cu_X3_44_5 : CWU RX3 44 RX3 yX3_strikes qX3_strikes 2 := ⟨m1071, ⟨RX3, _, _, _, m1023, m1021, m1043, by decide +kernel, by decide +kernel⟩, m1022, m1021, m82, m1043, by decide +kernel, by decide⟩
theorem cu_X3_44_3 : CWU RX3 44 RX1 yX3_strikes qX1_strikes 2 := ⟨m1071, ⟨RX3, _, _, _, m1023, m1021, m1043, by decide +kernel, by decide +kernel⟩, m1024, m1025, m83, m1026, by decide +kernel, by decide⟩
theorem cu_X3_44_10 : CWU RX3 44 RX8 yX3_strikes qX3_strikes 2 := ⟨m1071, ⟨RX3, _, _, _, m1023, m1021, m1043, by decide +kernel, by decide +kernel⟩, m1035, m1021, m82, m1043, by decide +kernel, by decide⟩
theorem cu_X3_44_11 : CWU RX3 44 RX9 yX3_strikes qX3_strikes 2 := ⟨m1071, ⟨RX3, _, _, _, m1023, m1021, m1043, by decide +kernel, by decide +kernel⟩, m1036, m1021, m82, m1043, by decide +kernel, by decide⟩
theorem cu_X3_44_4 : CWU RX3 44 RX2 yX3_strikes qX2_strikes 2 := ⟨m1071, ⟨RX3, _, _, _, m1023, m1021, m1043, by decide +kernel, by decide +kernel⟩, m1030, m1031, m86, m1032, by decide +kernel, by decide⟩
theorem cu_X3_44_7 : CWU RX3 44 RX5 yX3_strikes qX3_strikes 2 := ⟨m1071, ⟨RX3, _, _, _, m1023, m1021, m1043, by decide +kernel, by decide +kernel⟩, m1034, m1021, m82, m1043, by decide +kernel, by decide⟩
theorem cu_X3_44_12 : CWU RX3 44 RX10 yX3_strikes qX10_strikes 2 := ⟨m1071, ⟨RX3, _, _, _, m1023, m1021, m1043, by decide +kernel, by decide +kernel⟩, m1037, m1038, m88, m1039, by decide +kernel, by decide⟩
theorem m114 : Cond.methodLink RX4 3 objectInit ∈ gW := gW_of (i := 114) (by decide +kernel) rfl
abbrev qJ0_length_8abf5 : QM := (yJ0_length_8abf5, cJ0_length_8abf5, 1, some .int)
theorem m118 : Cond.methodLink RX4 50 yJ0_length_8abf5 ∈ gW := gW_of (i := 118) (by decide +kernel) rfl
theorem m119 : Cond.instanceMethod yJ0_length_8abf5 ∈ gW := gW_of (i := 119) (by decide +kernel) rfl
theorem m120 : Cond.selects RJ0 yJ0_length_8abf5 yJ0_length_8abf5 ∈ gW := gW_of (i := 120) (by decide +kernel) rfl
theorem m74 : Cond.initialized RJ0 ∈ gW := gW_of (i := 74) (by decide +kernel) rfl
theorem m121 : Cond.code yJ0_length_8abf5 cJ0_length_8abf5 1 (some .int) ∈ gW := gW_of (i := 121) (by decide +kernel) rfl
theorem cv_X4_50 : CWV RX4 50 qJ0_length_8abf5 0 := ⟨m118, m119, m120, m74, m121, ⟨⟨by decide +kernel, by decide +kernel, by decide +kernel⟩, by decide⟩⟩
theorem cs_X4_87 : CWS RX4 87 qX11_within 2 := ⟨Or.inr ⟨RX11, by decide +kernel⟩, m345, m72, m346, ⟨⟨by decide +kernel, by decide +kernel, by decide +kernel⟩, by decide⟩⟩
abbrev qX4_lettersOf : QM := (yX4_lettersOf, cX4_lettersOf, 3, some (.array .int))
theorem m465 : Cond.methodLink RX4 93 yX4_lettersOf ∈ gW := gW_of (i := 465) (by decide +kernel) rfl
theorem m467 : Cond.instanceMethod yX4_lettersOf ∈ gW := gW_of (i := 467) (by decide +kernel) rfl
theorem m1 : Cond.selects RX4 yX4_lettersOf yX4_lettersOf ∈ gW := gW_of (i := 1) (by decide +kernel) rfl
theorem m468 : Cond.code yX4_lettersOf cX4_lettersOf 3 (some (.array .int)) ∈ gW := gW_of (i := 468) (by decide +kernel) rfl
theorem cv_X4_93 : CWV RX4 93 qX4_lettersOf 2 := ⟨m465, m467, m1, m73, m468, ⟨⟨by decide +kernel, by decide +kernel, by decide +kernel⟩, by decide⟩⟩
abbrev qX0_together : QM := (yX0_together, cX0_together, 6, some .int)
theorem m469 : Cond.methodLink RX4 97 yX0_together ∈ gW := gW_of (i := 469) (by decide +kernel) rfl
theorem m470 : Cond.instanceMethod yX0_together ∈ gW := gW_of (i := 470) (by decide +kernel) rfl
theorem m471 : Cond.selects RX0 yX0_together yX0_together ∈ gW := gW_of (i := 471) (by decide +kernel) rfl
theorem m472 : Cond.code yX0_together cX0_together 6 (some .int) ∈ gW := gW_of (i := 472) (by decide +kernel) rfl
theorem cv_X4_97 : CWV RX4 97 qX0_together 2 := ⟨m469, m470, m471, m79, m472, ⟨⟨by decide +kernel, by decide +kernel, by decide +kernel⟩, by decide⟩⟩
theorem m480 : Cond.methodLink RX4 101 yX4_percent ∈ gW := gW_of (i := 480) (by decide +kernel) rfl
abbrev qX4_percent : QM := (yX4_percent, cX4_percent, 1, some .int)
theorem m481 : Cond.static yX4_percent ∈ gW := gW_of (i := 481) (by decide +kernel) rfl
theorem m482 : Cond.code yX4_percent cX4_percent 1 (some .int) ∈ gW := gW_of (i := 482) (by decide +kernel) rfl
theorem cs_X4_101 : CWS RX4 101 qX4_percent 1 := ⟨Or.inl m480, m481, m73, m482, ⟨⟨by decide +kernel, by decide +kernel, by decide +kernel⟩, by decide⟩⟩
theorem m494 : Cond.sameMethod RX3 RX3 "winsAgainst" "(I)I" ∈ gW := gW_of (i := 494) (by decide +kernel) rfl
abbrev qX3_winsAgainst : QM := (yX3_winsAgainst, cX3_winsAgainst, 2, some .int)
theorem m491 : Cond.methodLink RX4 105 yX3_winsAgainst ∈ gW := gW_of (i := 491) (by decide +kernel) rfl
theorem m492 : Cond.instanceMethod yX3_winsAgainst ∈ gW := gW_of (i := 492) (by decide +kernel) rfl
theorem m504 : Cond.code yX3_winsAgainst cX3_winsAgainst 2 (some .int) ∈ gW := gW_of (i := 504) (by decide +kernel) rfl
theorem m493 : Cond.selects RX3 yX3_winsAgainst yX3_winsAgainst ∈ gW := gW_of (i := 493) (by decide +kernel) rfl
theorem cu_X4_105_5 : CWU RX4 105 RX3 yX3_winsAgainst qX3_winsAgainst 1 := ⟨m491, ⟨RX3, _, _, _, m494, m492, m504, by decide +kernel, by decide +kernel⟩, m493, m492, m82, m504, by decide +kernel, by decide⟩
theorem m495 : Cond.selects RX1 yX3_winsAgainst yX3_winsAgainst ∈ gW := gW_of (i := 495) (by decide +kernel) rfl
theorem cu_X4_105_3 : CWU RX4 105 RX1 yX3_winsAgainst qX3_winsAgainst 1 := ⟨m491, ⟨RX3, _, _, _, m494, m492, m504, by decide +kernel, by decide +kernel⟩, m495, m492, m82, m504, by decide +kernel, by decide⟩
theorem m501 : Cond.selects RX8 yX3_winsAgainst yX3_winsAgainst ∈ gW := gW_of (i := 501) (by decide +kernel) rfl
theorem cu_X4_105_10 : CWU RX4 105 RX8 yX3_winsAgainst qX3_winsAgainst 1 := ⟨m491, ⟨RX3, _, _, _, m494, m492, m504, by decide +kernel, by decide +kernel⟩, m501, m492, m82, m504, by decide +kernel, by decide⟩
theorem m502 : Cond.selects RX9 yX3_winsAgainst yX3_winsAgainst ∈ gW := gW_of (i := 502) (by decide +kernel) rfl
theorem cu_X4_105_11 : CWU RX4 105 RX9 yX3_winsAgainst qX3_winsAgainst 1 := ⟨m491, ⟨RX3, _, _, _, m494, m492, m504, by decide +kernel, by decide +kernel⟩, m502, m492, m82, m504, by decide +kernel, by decide⟩
abbrev qX2_winsAgainst : QM := (yX2_winsAgainst, cX2_winsAgainst, 2, some .int)
theorem m496 : Cond.selects RX2 yX3_winsAgainst yX2_winsAgainst ∈ gW := gW_of (i := 496) (by decide +kernel) rfl
theorem m497 : Cond.instanceMethod yX2_winsAgainst ∈ gW := gW_of (i := 497) (by decide +kernel) rfl
theorem m498 : Cond.code yX2_winsAgainst cX2_winsAgainst 2 (some .int) ∈ gW := gW_of (i := 498) (by decide +kernel) rfl
theorem cu_X4_105_4 : CWU RX4 105 RX2 yX3_winsAgainst qX2_winsAgainst 1 := ⟨m491, ⟨RX3, _, _, _, m494, m492, m504, by decide +kernel, by decide +kernel⟩, m496, m497, m86, m498, by decide +kernel, by decide⟩
theorem m500 : Cond.selects RX5 yX3_winsAgainst yX3_winsAgainst ∈ gW := gW_of (i := 500) (by decide +kernel) rfl
theorem cu_X4_105_7 : CWU RX4 105 RX5 yX3_winsAgainst qX3_winsAgainst 1 := ⟨m491, ⟨RX3, _, _, _, m494, m492, m504, by decide +kernel, by decide +kernel⟩, m500, m492, m82, m504, by decide +kernel, by decide⟩
theorem m503 : Cond.selects RX10 yX3_winsAgainst yX3_winsAgainst ∈ gW := gW_of (i := 503) (by decide +kernel) rfl
theorem cu_X4_105_12 : CWU RX4 105 RX10 yX3_winsAgainst qX3_winsAgainst 1 := ⟨m491, ⟨RX3, _, _, _, m494, m492, m504, by decide +kernel, by decide +kernel⟩, m503, m492, m82, m504, by decide +kernel, by decide⟩
theorem m483 : Cond.methodLink RX4 108 yJ9_min_7cf53 ∈ gW := gW_of (i := 483) (by decide +kernel) rfl
theorem cs_X4_108 : CWS RX4 108 qJ9_min_7cf53 2 := ⟨Or.inl m483, m459, m89, m460, ⟨⟨by decide +kernel, by decide +kernel, by decide +kernel⟩, by decide⟩⟩
theorem m484 : Cond.methodLink RX4 114 yJ9_max_7cf53 ∈ gW := gW_of (i := 484) (by decide +kernel) rfl
theorem cs_X4_114 : CWS RX4 114 qJ9_max_7cf53 2 := ⟨Or.inl m484, m485, m89, m486, ⟨⟨by decide +kernel, by decide +kernel, by decide +kernel⟩, by decide⟩⟩
theorem m734 : Cond.methodLink RX4 120 yX4_inOf ∈ gW := gW_of (i := 734) (by decide +kernel) rfl
theorem cv_X4_120 : CWV RX4 120 qX4_inOf 2 := ⟨m734, m462, m463, m73, m464, ⟨⟨by decide +kernel, by decide +kernel, by decide +kernel⟩, by decide⟩⟩
theorem m735 : Cond.methodLink RX4 124 yX4_winsOf ∈ gW := gW_of (i := 735) (by decide +kernel) rfl
theorem cv_X4_124 : CWV RX4 124 qX4_winsOf 2 := ⟨m735, m488, m489, m73, m490, ⟨⟨by decide +kernel, by decide +kernel, by decide +kernel⟩, by decide⟩⟩
theorem cs_X4_127 : CWS RX4 127 qX11_twoServes 4 := ⟨Or.inr ⟨RX11, by decide +kernel⟩, m737, m72, m738, ⟨⟨by decide +kernel, by decide +kernel, by decide +kernel⟩, by decide⟩⟩
theorem m763 : Cond.methodLink RX4 131 yX3_first ∈ gW := gW_of (i := 763) (by decide +kernel) rfl
theorem cu_X4_131_5 : CWU RX4 131 RX3 yX3_first qX3_first 1 := ⟨m763, ⟨RX3, _, _, _, m508, m506, m525, by decide +kernel, by decide +kernel⟩, m507, m506, m82, m525, by decide +kernel, by decide⟩
theorem cu_X4_131_3 : CWU RX4 131 RX1 yX3_first qX3_first 1 := ⟨m763, ⟨RX3, _, _, _, m508, m506, m525, by decide +kernel, by decide +kernel⟩, m509, m506, m82, m525, by decide +kernel, by decide⟩
theorem cu_X4_131_10 : CWU RX4 131 RX8 yX3_first qX8_first 1 := ⟨m763, ⟨RX3, _, _, _, m508, m506, m525, by decide +kernel, by decide +kernel⟩, m517, m515, m84, m516, by decide +kernel, by decide⟩
theorem cu_X4_131_11 : CWU RX4 131 RX9 yX3_first qX9_first 1 := ⟨m763, ⟨RX3, _, _, _, m508, m506, m525, by decide +kernel, by decide +kernel⟩, m518, m519, m85, m520, by decide +kernel, by decide⟩
theorem cu_X4_131_4 : CWU RX4 131 RX2 yX3_first qX3_first 1 := ⟨m763, ⟨RX3, _, _, _, m508, m506, m525, by decide +kernel, by decide +kernel⟩, m510, m506, m82, m525, by decide +kernel, by decide⟩
theorem cu_X4_131_7 : CWU RX4 131 RX5 yX3_first qX5_first 1 := ⟨m763, ⟨RX3, _, _, _, m508, m506, m525, by decide +kernel, by decide +kernel⟩, m511, m512, m87, m513, by decide +kernel, by decide⟩
theorem cu_X4_131_12 : CWU RX4 131 RX10 yX3_first qX10_first 1 := ⟨m763, ⟨RX3, _, _, _, m508, m506, m525, by decide +kernel, by decide +kernel⟩, m522, m523, m88, m524, by decide +kernel, by decide⟩
theorem m764 : Cond.methodLink RX4 135 yX3_second ∈ gW := gW_of (i := 764) (by decide +kernel) rfl
theorem cu_X4_135_5 : CWU RX4 135 RX3 yX3_second qX3_second 1 := ⟨m764, ⟨RX3, _, _, _, m529, m527, m538, by decide +kernel, by decide +kernel⟩, m528, m527, m82, m538, by decide +kernel, by decide⟩
theorem cu_X4_135_3 : CWU RX4 135 RX1 yX3_second qX1_second 1 := ⟨m764, ⟨RX3, _, _, _, m529, m527, m538, by decide +kernel, by decide +kernel⟩, m530, m531, m83, m532, by decide +kernel, by decide⟩
theorem cu_X4_135_10 : CWU RX4 135 RX8 yX3_second qX3_second 1 := ⟨m764, ⟨RX3, _, _, _, m529, m527, m538, by decide +kernel, by decide +kernel⟩, m535, m527, m82, m538, by decide +kernel, by decide⟩
theorem cu_X4_135_11 : CWU RX4 135 RX9 yX3_second qX3_second 1 := ⟨m764, ⟨RX3, _, _, _, m529, m527, m538, by decide +kernel, by decide +kernel⟩, m536, m527, m82, m538, by decide +kernel, by decide⟩
theorem cu_X4_135_4 : CWU RX4 135 RX2 yX3_second qX1_second 1 := ⟨m764, ⟨RX3, _, _, _, m529, m527, m538, by decide +kernel, by decide +kernel⟩, m533, m531, m83, m532, by decide +kernel, by decide⟩
theorem cu_X4_135_7 : CWU RX4 135 RX5 yX3_second qX3_second 1 := ⟨m764, ⟨RX3, _, _, _, m529, m527, m538, by decide +kernel, by decide +kernel⟩, m534, m527, m82, m538, by decide +kernel, by decide⟩
theorem cu_X4_135_12 : CWU RX4 135 RX10 yX3_second qX3_second 1 := ⟨m764, ⟨RX3, _, _, _, m529, m527, m538, by decide +kernel, by decide +kernel⟩, m537, m527, m82, m538, by decide +kernel, by decide⟩
theorem m790 : Cond.methodLink RX4 138 yX4_chanceBy ∈ gW := gW_of (i := 790) (by decide +kernel) rfl
theorem cv_X4_138 : CWV RX4 138 qX4_chanceBy 3 := ⟨m790, m731, m732, m73, m733, ⟨⟨by decide +kernel, by decide +kernel, by decide +kernel⟩, by decide⟩⟩
abbrev qX4_wins : QM := (yX4_wins, cX4_wins, 6, some .boolean)
theorem m759 : Cond.methodLink RX4 142 yX4_wins ∈ gW := gW_of (i := 759) (by decide +kernel) rfl
theorem m761 : Cond.instanceMethod yX4_wins ∈ gW := gW_of (i := 761) (by decide +kernel) rfl
theorem m11 : Cond.selects RX4 yX4_wins yX4_wins ∈ gW := gW_of (i := 11) (by decide +kernel) rfl
theorem m762 : Cond.code yX4_wins cX4_wins 6 (some .boolean) ∈ gW := gW_of (i := 762) (by decide +kernel) rfl
theorem cv_X4_142 : CWV RX4 142 qX4_wins 3 := ⟨m759, m761, m11, m73, m762, ⟨⟨by decide +kernel, by decide +kernel, by decide +kernel⟩, by decide⟩⟩
theorem m423 : Cond.methodLink RX5 1 yX8_init ∈ gW := gW_of (i := 423) (by decide +kernel) rfl
theorem ci_X5_1 : CWI RX5 1 qX8_init 3 := ⟨Or.inl m423, m391, m84, m392, ⟨⟨by decide +kernel, by decide +kernel, by decide +kernel⟩, by decide⟩, rfl, rfl⟩
theorem m514 : Cond.methodLink RX5 25 yX8_first ∈ gW := gW_of (i := 514) (by decide +kernel) rfl
theorem m1707 : Cond.sameMethod RX8 RX8 "first" "(LTwoServes$Situation;)I" ∈ gW := gW_of (i := 1707) (by decide +kernel) rfl
theorem m427 : Cond.superclass RX5 RX8 ∈ gW := gW_of (i := 427) (by decide +kernel) rfl
theorem cp_X5_25 : CWP RX5 25 qX8_first 1 := ⟨m514, m1707, m427, m515, m84, m516, by decide +kernel, by decide +kernel, by decide⟩
theorem m1054 : Cond.methodLink RX5 29 yJ6_valueOf_2dffe ∈ gW := gW_of (i := 1054) (by decide +kernel) rfl
theorem cs_X5_29 : CWS RX5 29 qJ6_valueOf_2dffe 1 := ⟨Or.inl m1054, m924, m96, m925, ⟨⟨by decide +kernel, by decide +kernel, by decide +kernel⟩, by decide⟩⟩
theorem m1055 : Cond.methodLink RX5 35 yJx4a65c_add_9ea2d ∈ gW := gW_of (i := 1055) (by decide +kernel) rfl
theorem cv_X5_35 : CWV RX5 35 qJx4a65c_add_9ea2d 1 := ⟨m1055, m944, m945, m78, m946, ⟨⟨by decide +kernel, by decide +kernel, by decide +kernel⟩, by decide⟩⟩
theorem m287 : Cond.methodLink RX6 3 objectInit ∈ gW := gW_of (i := 287) (by decide +kernel) rfl
theorem m1116 : Cond.methodLink RX6 19 yJ9_min_7cf53 ∈ gW := gW_of (i := 1116) (by decide +kernel) rfl
theorem cs_X6_19 : CWS RX6 19 qJ9_min_7cf53 2 := ⟨Or.inl m1116, m459, m89, m460, ⟨⟨by decide +kernel, by decide +kernel, by decide +kernel⟩, by decide⟩⟩
theorem m1117 : Cond.methodLink RX6 25 yJ9_max_7cf53 ∈ gW := gW_of (i := 1117) (by decide +kernel) rfl
theorem cs_X6_25 : CWS RX6 25 qJ9_max_7cf53 2 := ⟨Or.inl m1117, m485, m89, m486, ⟨⟨by decide +kernel, by decide +kernel, by decide +kernel⟩, by decide⟩⟩
theorem m1118 : Cond.methodLink RX6 31 yJ7_fill_d0a16 ∈ gW := gW_of (i := 1118) (by decide +kernel) rfl
abbrev qJ7_fill_d0a16 : QM := (yJ7_fill_d0a16, cJ7_fill_d0a16, 5, none)
theorem m1119 : Cond.static yJ7_fill_d0a16 ∈ gW := gW_of (i := 1119) (by decide +kernel) rfl
theorem m99 : Cond.initialized RJ7 ∈ gW := gW_of (i := 99) (by decide +kernel) rfl
theorem m1120 : Cond.code yJ7_fill_d0a16 cJ7_fill_d0a16 5 none ∈ gW := gW_of (i := 1120) (by decide +kernel) rfl
theorem cs_X6_31 : CWS RX6 31 qJ7_fill_d0a16 2 := ⟨Or.inl m1118, m1119, m99, m1120, ⟨⟨by decide +kernel, by decide +kernel, by decide +kernel⟩, by decide⟩⟩
theorem m897 : Cond.methodLink RX6 37 yX6_has ∈ gW := gW_of (i := 897) (by decide +kernel) rfl
theorem cv_X6_37 : CWV RX6 37 qX6_has 1 := ⟨m897, m890, m891, m80, m892, ⟨⟨by decide +kernel, by decide +kernel, by decide +kernel⟩, by decide⟩⟩
abbrev qX6_cut : QM := (yX6_cut, cX6_cut, 3, some .long)
theorem m1129 : Cond.methodLink RX6 43 yX6_cut ∈ gW := gW_of (i := 1129) (by decide +kernel) rfl
theorem m1131 : Cond.instanceMethod yX6_cut ∈ gW := gW_of (i := 1131) (by decide +kernel) rfl
theorem m20 : Cond.selects RX6 yX6_cut yX6_cut ∈ gW := gW_of (i := 20) (by decide +kernel) rfl
theorem m1132 : Cond.code yX6_cut cX6_cut 3 (some .long) ∈ gW := gW_of (i := 1132) (by decide +kernel) rfl
theorem cv_X6_43 : CWV RX6 43 qX6_cut 1 := ⟨m1129, m1131, m20, m80, m1132, ⟨⟨by decide +kernel, by decide +kernel, by decide +kernel⟩, by decide⟩⟩
abbrev qX6_spans : QM := (yX6_spans, cX6_spans, 3, some .boolean)
theorem m1145 : Cond.methodLink RX6 47 yX6_spans ∈ gW := gW_of (i := 1145) (by decide +kernel) rfl
theorem m1147 : Cond.instanceMethod yX6_spans ∈ gW := gW_of (i := 1147) (by decide +kernel) rfl
theorem m21 : Cond.selects RX6 yX6_spans yX6_spans ∈ gW := gW_of (i := 21) (by decide +kernel) rfl
theorem m1148 : Cond.code yX6_spans cX6_spans 3 (some .boolean) ∈ gW := gW_of (i := 1148) (by decide +kernel) rfl
theorem cv_X6_47 : CWV RX6 47 qX6_spans 2 := ⟨m1145, m1147, m21, m80, m1148, ⟨⟨by decide +kernel, by decide +kernel, by decide +kernel⟩, by decide⟩⟩
theorem m214 : Cond.methodLink RX7 3 objectInit ∈ gW := gW_of (i := 214) (by decide +kernel) rfl
theorem cs_X7_19 : CWS RX7 19 qX11_within 2 := ⟨Or.inr ⟨RX11, by decide +kernel⟩, m345, m72, m346, ⟨⟨by decide +kernel, by decide +kernel, by decide +kernel⟩, by decide⟩⟩
abbrev qX0_clear : QM := (yX0_clear, cX0_clear, 1, none)
theorem m567 : Cond.methodLink RX7 23 yX0_clear ∈ gW := gW_of (i := 567) (by decide +kernel) rfl
theorem m568 : Cond.instanceMethod yX0_clear ∈ gW := gW_of (i := 568) (by decide +kernel) rfl
theorem m569 : Cond.selects RX0 yX0_clear yX0_clear ∈ gW := gW_of (i := 569) (by decide +kernel) rfl
theorem m570 : Cond.code yX0_clear cX0_clear 1 none ∈ gW := gW_of (i := 570) (by decide +kernel) rfl
theorem cv_X7_23 : CWV RX7 23 qX0_clear 0 := ⟨m567, m568, m569, m79, m570, ⟨⟨by decide +kernel, by decide +kernel, by decide +kernel⟩, by decide⟩⟩
abbrev qX7_clause : QM := (yX7_clause, cX7_clause, 5, some .boolean)
theorem m571 : Cond.methodLink RX7 31 yX7_clause ∈ gW := gW_of (i := 571) (by decide +kernel) rfl
theorem m573 : Cond.instanceMethod yX7_clause ∈ gW := gW_of (i := 573) (by decide +kernel) rfl
theorem m3 : Cond.selects RX7 yX7_clause yX7_clause ∈ gW := gW_of (i := 3) (by decide +kernel) rfl
theorem m574 : Cond.code yX7_clause cX7_clause 5 (some .boolean) ∈ gW := gW_of (i := 574) (by decide +kernel) rfl
theorem cv_X7_31 : CWV RX7 31 qX7_clause 1 := ⟨m571, m573, m3, m75, m574, ⟨⟨by decide +kernel, by decide +kernel, by decide +kernel⟩, by decide⟩⟩
abbrev qX7_took : QM := (yX7_took, cX7_took, 2, some .boolean)
theorem m621 : Cond.methodLink RX7 35 yX7_took ∈ gW := gW_of (i := 621) (by decide +kernel) rfl
theorem m623 : Cond.instanceMethod yX7_took ∈ gW := gW_of (i := 623) (by decide +kernel) rfl
theorem m5 : Cond.selects RX7 yX7_took yX7_took ∈ gW := gW_of (i := 5) (by decide +kernel) rfl
theorem m624 : Cond.code yX7_took cX7_took 2 (some .boolean) ∈ gW := gW_of (i := 624) (by decide +kernel) rfl
theorem cv_X7_35 : CWV RX7 35 qX7_took 1 := ⟨m621, m623, m5, m75, m624, ⟨⟨by decide +kernel, by decide +kernel, by decide +kernel⟩, by decide⟩⟩
abbrev qX7_sign : QM := (yX7_sign, cX7_sign, 1, some .char)
theorem m575 : Cond.methodLink RX7 39 yX7_sign ∈ gW := gW_of (i := 575) (by decide +kernel) rfl
theorem m577 : Cond.instanceMethod yX7_sign ∈ gW := gW_of (i := 577) (by decide +kernel) rfl
theorem m4 : Cond.selects RX7 yX7_sign yX7_sign ∈ gW := gW_of (i := 4) (by decide +kernel) rfl
theorem m578 : Cond.code yX7_sign cX7_sign 1 (some .char) ∈ gW := gW_of (i := 578) (by decide +kernel) rfl
theorem cv_X7_39 : CWV RX7 39 qX7_sign 0 := ⟨m575, m577, m4, m75, m578, ⟨⟨by decide +kernel, by decide +kernel, by decide +kernel⟩, by decide⟩⟩
theorem m582 : Cond.methodLink RX7 49 yJ0_length_8abf5 ∈ gW := gW_of (i := 582) (by decide +kernel) rfl
theorem cv_X7_49 : CWV RX7 49 qJ0_length_8abf5 0 := ⟨m582, m119, m120, m74, m121, ⟨⟨by decide +kernel, by decide +kernel, by decide +kernel⟩, by decide⟩⟩
abbrev qJ0_charAt_5068e : QM := (yJ0_charAt_5068e, cJ0_charAt_5068e, 2, some .char)
theorem m583 : Cond.methodLink RX7 54 yJ0_charAt_5068e ∈ gW := gW_of (i := 583) (by decide +kernel) rfl
theorem m584 : Cond.instanceMethod yJ0_charAt_5068e ∈ gW := gW_of (i := 584) (by decide +kernel) rfl
theorem m585 : Cond.selects RJ0 yJ0_charAt_5068e yJ0_charAt_5068e ∈ gW := gW_of (i := 585) (by decide +kernel) rfl
theorem m586 : Cond.code yJ0_charAt_5068e cJ0_charAt_5068e 2 (some .char) ∈ gW := gW_of (i := 586) (by decide +kernel) rfl
theorem cv_X7_54 : CWV RX7 54 qJ0_charAt_5068e 1 := ⟨m583, m584, m585, m74, m586, ⟨⟨by decide +kernel, by decide +kernel, by decide +kernel⟩, by decide⟩⟩
abbrev qX7_number : QM := (yX7_number, cX7_number, 3, some .int)
theorem m625 : Cond.methodLink RX7 58 yX7_number ∈ gW := gW_of (i := 625) (by decide +kernel) rfl
theorem m627 : Cond.instanceMethod yX7_number ∈ gW := gW_of (i := 627) (by decide +kernel) rfl
theorem m6 : Cond.selects RX7 yX7_number yX7_number ∈ gW := gW_of (i := 6) (by decide +kernel) rfl
theorem m628 : Cond.code yX7_number cX7_number 3 (some .int) ∈ gW := gW_of (i := 628) (by decide +kernel) rfl
theorem cv_X7_58 : CWV RX7 58 qX7_number 0 := ⟨m625, m627, m6, m75, m628, ⟨⟨by decide +kernel, by decide +kernel, by decide +kernel⟩, by decide⟩⟩
abbrev qX7_anyOf : QM := (yX7_anyOf, cX7_anyOf, 4, some .boolean)
theorem m630 : Cond.methodLink RX7 61 yX7_anyOf ∈ gW := gW_of (i := 630) (by decide +kernel) rfl
theorem m632 : Cond.instanceMethod yX7_anyOf ∈ gW := gW_of (i := 632) (by decide +kernel) rfl
theorem m7 : Cond.selects RX7 yX7_anyOf yX7_anyOf ∈ gW := gW_of (i := 7) (by decide +kernel) rfl
theorem m633 : Cond.code yX7_anyOf cX7_anyOf 4 (some .boolean) ∈ gW := gW_of (i := 633) (by decide +kernel) rfl
theorem cv_X7_61 : CWV RX7 61 qX7_anyOf 2 := ⟨m630, m632, m7, m75, m633, ⟨⟨by decide +kernel, by decide +kernel, by decide +kernel⟩, by decide⟩⟩
abbrev qX0_closeClause : QM := (yX0_closeClause, cX0_closeClause, 3, none)
theorem m710 : Cond.methodLink RX7 65 yX0_closeClause ∈ gW := gW_of (i := 710) (by decide +kernel) rfl
theorem m711 : Cond.instanceMethod yX0_closeClause ∈ gW := gW_of (i := 711) (by decide +kernel) rfl
theorem m712 : Cond.selects RX0 yX0_closeClause yX0_closeClause ∈ gW := gW_of (i := 712) (by decide +kernel) rfl
theorem m713 : Cond.code yX0_closeClause cX0_closeClause 3 none ∈ gW := gW_of (i := 713) (by decide +kernel) rfl
theorem cv_X7_65 : CWV RX7 65 qX0_closeClause 2 := ⟨m710, m711, m712, m79, m713, ⟨⟨by decide +kernel, by decide +kernel, by decide +kernel⟩, by decide⟩⟩
abbrev qX7_allOf : QM := (yX7_allOf, cX7_allOf, 4, some .boolean)
theorem m634 : Cond.methodLink RX7 69 yX7_allOf ∈ gW := gW_of (i := 634) (by decide +kernel) rfl
theorem m636 : Cond.instanceMethod yX7_allOf ∈ gW := gW_of (i := 636) (by decide +kernel) rfl
theorem m8 : Cond.selects RX7 yX7_allOf yX7_allOf ∈ gW := gW_of (i := 8) (by decide +kernel) rfl
theorem m637 : Cond.code yX7_allOf cX7_allOf 4 (some .boolean) ∈ gW := gW_of (i := 637) (by decide +kernel) rfl
theorem cv_X7_69 : CWV RX7 69 qX7_allOf 2 := ⟨m634, m636, m8, m75, m637, ⟨⟨by decide +kernel, by decide +kernel, by decide +kernel⟩, by decide⟩⟩
abbrev qX0_add : QM := (yX0_add, cX0_add, 2, none)
theorem m642 : Cond.methodLink RX7 72 yX0_add ∈ gW := gW_of (i := 642) (by decide +kernel) rfl
theorem m643 : Cond.instanceMethod yX0_add ∈ gW := gW_of (i := 643) (by decide +kernel) rfl
theorem m644 : Cond.selects RX0 yX0_add yX0_add ∈ gW := gW_of (i := 644) (by decide +kernel) rfl
theorem m645 : Cond.code yX0_add cX0_add 2 none ∈ gW := gW_of (i := 645) (by decide +kernel) rfl
theorem cv_X7_72 : CWV RX7 72 qX0_add 1 := ⟨m642, m643, m644, m79, m645, ⟨⟨by decide +kernel, by decide +kernel, by decide +kernel⟩, by decide⟩⟩
abbrev qX7_factor : QM := (yX7_factor, cX7_factor, 4, some .boolean)
theorem m638 : Cond.methodLink RX7 76 yX7_factor ∈ gW := gW_of (i := 638) (by decide +kernel) rfl
theorem m640 : Cond.instanceMethod yX7_factor ∈ gW := gW_of (i := 640) (by decide +kernel) rfl
theorem m9 : Cond.selects RX7 yX7_factor yX7_factor ∈ gW := gW_of (i := 9) (by decide +kernel) rfl
theorem m641 : Cond.code yX7_factor cX7_factor 4 (some .boolean) ∈ gW := gW_of (i := 641) (by decide +kernel) rfl
theorem cv_X7_76 : CWV RX7 76 qX7_factor 2 := ⟨m638, m640, m9, m75, m641, ⟨⟨by decide +kernel, by decide +kernel, by decide +kernel⟩, by decide⟩⟩
abbrev qX7_test : QM := (yX7_test, cX7_test, 5, some .boolean)
theorem m646 : Cond.methodLink RX7 79 yX7_test ∈ gW := gW_of (i := 646) (by decide +kernel) rfl
theorem m648 : Cond.instanceMethod yX7_test ∈ gW := gW_of (i := 648) (by decide +kernel) rfl
theorem m10 : Cond.selects RX7 yX7_test yX7_test ∈ gW := gW_of (i := 10) (by decide +kernel) rfl
theorem m649 : Cond.code yX7_test cX7_test 5 (some .boolean) ∈ gW := gW_of (i := 649) (by decide +kernel) rfl
theorem cv_X7_79 : CWV RX7 79 qX7_test 1 := ⟨m646, m648, m10, m75, m649, ⟨⟨by decide +kernel, by decide +kernel, by decide +kernel⟩, by decide⟩⟩
abbrev qJ0_indexOf_0f7a4 : QM := (yJ0_indexOf_0f7a4, cJ0_indexOf_0f7a4, 2, some .int)
theorem m651 : Cond.methodLink RX7 84 yJ0_indexOf_0f7a4 ∈ gW := gW_of (i := 651) (by decide +kernel) rfl
theorem m652 : Cond.instanceMethod yJ0_indexOf_0f7a4 ∈ gW := gW_of (i := 652) (by decide +kernel) rfl
theorem m653 : Cond.selects RJ0 yJ0_indexOf_0f7a4 yJ0_indexOf_0f7a4 ∈ gW := gW_of (i := 653) (by decide +kernel) rfl
theorem m654 : Cond.code yJ0_indexOf_0f7a4 cJ0_indexOf_0f7a4 2 (some .int) ∈ gW := gW_of (i := 654) (by decide +kernel) rfl
theorem cv_X7_84 : CWV RX7 84 qJ0_indexOf_0f7a4 1 := ⟨m651, m652, m653, m74, m654, ⟨⟨by decide +kernel, by decide +kernel, by decide +kernel⟩, by decide⟩⟩
theorem m707 : Cond.methodLink RX7 90 yX0_testOf ∈ gW := gW_of (i := 707) (by decide +kernel) rfl
abbrev qX0_testOf : QM := (yX0_testOf, cX0_testOf, 3, some .int)
theorem m708 : Cond.static yX0_testOf ∈ gW := gW_of (i := 708) (by decide +kernel) rfl
theorem m709 : Cond.code yX0_testOf cX0_testOf 3 (some .int) ∈ gW := gW_of (i := 709) (by decide +kernel) rfl
theorem cs_X7_90 : CWS RX7 90 qX0_testOf 3 := ⟨Or.inl m707, m708, m79, m709, ⟨⟨by decide +kernel, by decide +kernel, by decide +kernel⟩, by decide⟩⟩
theorem m629 : Cond.methodLink RX7 94 yJ9_max_7cf53 ∈ gW := gW_of (i := 629) (by decide +kernel) rfl
theorem cs_X7_94 : CWS RX7 94 qJ9_max_7cf53 2 := ⟨Or.inl m629, m485, m89, m486, ⟨⟨by decide +kernel, by decide +kernel, by decide +kernel⟩, by decide⟩⟩
theorem m393 : Cond.methodLink RX8 1 yX3_init ∈ gW := gW_of (i := 393) (by decide +kernel) rfl
theorem ci_X8_1 : CWI RX8 1 qX3_init 3 := ⟨Or.inl m393, m356, m82, m357, ⟨⟨by decide +kernel, by decide +kernel, by decide +kernel⟩, by decide⟩, rfl, rfl⟩
theorem m1005 : Cond.methodLink RX8 19 yJ6_valueOf_2dffe ∈ gW := gW_of (i := 1005) (by decide +kernel) rfl
theorem cs_X8_19 : CWS RX8 19 qJ6_valueOf_2dffe 1 := ⟨Or.inl m1005, m924, m96, m925, ⟨⟨by decide +kernel, by decide +kernel, by decide +kernel⟩, by decide⟩⟩
theorem m1006 : Cond.methodLink RX8 25 yJx4a65c_add_9ea2d ∈ gW := gW_of (i := 1006) (by decide +kernel) rfl
theorem cv_X8_25 : CWV RX8 25 qJx4a65c_add_9ea2d 1 := ⟨m1006, m944, m945, m78, m946, ⟨⟨by decide +kernel, by decide +kernel, by decide +kernel⟩, by decide⟩⟩
theorem m1007 : Cond.methodLink RX8 31 yX3_tosses ∈ gW := gW_of (i := 1007) (by decide +kernel) rfl
theorem m397 : Cond.superclass RX8 RX3 ∈ gW := gW_of (i := 397) (by decide +kernel) rfl
theorem cp_X8_31 : CWP RX8 31 qX3_tosses 2 := ⟨m1007, m918, m397, m916, m82, m1017, by decide +kernel, by decide +kernel, by decide⟩
theorem m403 : Cond.methodLink RX9 1 yX3_init ∈ gW := gW_of (i := 403) (by decide +kernel) rfl
theorem ci_X9_1 : CWI RX9 1 qX3_init 3 := ⟨Or.inl m403, m356, m82, m357, ⟨⟨by decide +kernel, by decide +kernel, by decide +kernel⟩, by decide⟩, rfl, rfl⟩
theorem m521 : Cond.methodLink RX9 22 yJ9_max_7cf53 ∈ gW := gW_of (i := 521) (by decide +kernel) rfl
theorem cs_X9_22 : CWS RX9 22 qJ9_max_7cf53 2 := ⟨Or.inl m521, m485, m89, m486, ⟨⟨by decide +kernel, by decide +kernel, by decide +kernel⟩, by decide⟩⟩
theorem m1063 : Cond.methodLink RX9 28 yJ6_valueOf_2dffe ∈ gW := gW_of (i := 1063) (by decide +kernel) rfl
theorem cs_X9_28 : CWS RX9 28 qJ6_valueOf_2dffe 1 := ⟨Or.inl m1063, m924, m96, m925, ⟨⟨by decide +kernel, by decide +kernel, by decide +kernel⟩, by decide⟩⟩
theorem m1064 : Cond.methodLink RX9 34 yJx4a65c_add_9ea2d ∈ gW := gW_of (i := 1064) (by decide +kernel) rfl
theorem cv_X9_34 : CWV RX9 34 qJx4a65c_add_9ea2d 1 := ⟨m1064, m944, m945, m78, m946, ⟨⟨by decide +kernel, by decide +kernel, by decide +kernel⟩, by decide⟩⟩
theorem m1065 : Cond.methodLink RX9 40 yX3_tells ∈ gW := gW_of (i := 1065) (by decide +kernel) rfl
theorem m407 : Cond.superclass RX9 RX3 ∈ gW := gW_of (i := 407) (by decide +kernel) rfl
theorem cp_X9_40 : CWP RX9 40 qX3_tells 2 := ⟨m1065, m1048, m407, m1046, m82, m1070, by decide +kernel, by decide +kernel, by decide⟩
theorem m1041 : Cond.sameMethod RX9 RX3 "strikes" "(ILjava/util/ArrayList;)I" ∈ gW := gW_of (i := 1041) (by decide +kernel) rfl
theorem m1066 : Cond.methodLink RX9 44 ⟨"TwoServes$Tiring", "strikes", "(ILjava/util/ArrayList;)I"⟩ ∈ gW := gW_of (i := 1066) (by decide +kernel) rfl
theorem m1067 : Cond.selects RX9 ⟨"TwoServes$Tiring", "strikes", "(ILjava/util/ArrayList;)I"⟩ yX3_strikes ∈ gW := gW_of (i := 1067) (by decide +kernel) rfl
theorem cu_X9_44_11 : CWU RX9 44 RX9 ⟨"TwoServes$Tiring", "strikes", "(ILjava/util/ArrayList;)I"⟩ qX3_strikes 2 := ⟨m1066, ⟨RX3, _, _, _, m1041, m1021, m1043, by decide +kernel, by decide +kernel⟩, m1067, m1021, m82, m1043, by decide +kernel, by decide⟩
theorem m1068 : Cond.selects RX10 ⟨"TwoServes$Tiring", "strikes", "(ILjava/util/ArrayList;)I"⟩ yX10_strikes ∈ gW := gW_of (i := 1068) (by decide +kernel) rfl
theorem cu_X9_44_12 : CWU RX9 44 RX10 ⟨"TwoServes$Tiring", "strikes", "(ILjava/util/ArrayList;)I"⟩ qX10_strikes 2 := ⟨m1066, ⟨RX3, _, _, _, m1041, m1021, m1043, by decide +kernel, by decide +kernel⟩, m1068, m1038, m88, m1039, by decide +kernel, by decide⟩
theorem m433 : Cond.methodLink RX10 3 yX9_init ∈ gW := gW_of (i := 433) (by decide +kernel) rfl
theorem ci_X10_3 : CWI RX10 3 qX9_init 3 := ⟨Or.inl m433, m401, m85, m402, ⟨⟨by decide +kernel, by decide +kernel, by decide +kernel⟩, by decide⟩, rfl, rfl⟩
theorem m1013 : Cond.methodLink RX10 24 yJ6_valueOf_2dffe ∈ gW := gW_of (i := 1013) (by decide +kernel) rfl
theorem cs_X10_24 : CWS RX10 24 qJ6_valueOf_2dffe 1 := ⟨Or.inl m1013, m924, m96, m925, ⟨⟨by decide +kernel, by decide +kernel, by decide +kernel⟩, by decide⟩⟩
theorem m1014 : Cond.methodLink RX10 30 yJx4a65c_add_9ea2d ∈ gW := gW_of (i := 1014) (by decide +kernel) rfl
theorem cv_X10_30 : CWV RX10 30 qJx4a65c_add_9ea2d 1 := ⟨m1014, m944, m945, m78, m946, ⟨⟨by decide +kernel, by decide +kernel, by decide +kernel⟩, by decide⟩⟩
theorem m103 : Cond.methodLink RL 9 yX11_init ∈ gW := gW_of (i := 103) (by decide +kernel) rfl
abbrev qX11_init : QM := (yX11_init, cX11_init, 2, none)
theorem m104 : Cond.instanceMethod yX11_init ∈ gW := gW_of (i := 104) (by decide +kernel) rfl
theorem m105 : Cond.code yX11_init cX11_init 2 none ∈ gW := gW_of (i := 105) (by decide +kernel) rfl
theorem ci_L_9 : CWI RL 9 qX11_init 0 := ⟨Or.inl m103, m104, m72, m105, ⟨⟨by decide +kernel, by decide +kernel, by decide +kernel⟩, by decide⟩, rfl, rfl⟩
theorem m1152 : Cond.methodLink RL 12 yX12_init ∈ gW := gW_of (i := 1152) (by decide +kernel) rfl
theorem m1153 : Cond.instanceMethod yX12_init ∈ gW := gW_of (i := 1153) (by decide +kernel) rfl
theorem m1154 : Cond.code yX12_init cX12_init 1 none ∈ gW := gW_of (i := 1154) (by decide +kernel) rfl
theorem ci_L_12 : CWI RL 12 qX12_init 0 := ⟨Or.inl m1152, m1153, m81, m1154, ⟨⟨by decide +kernel, by decide +kernel, by decide +kernel⟩, by decide⟩, rfl, rfl⟩
abbrev qX11_server : QM := (yX11_server, cX11_server, 5, some .int)
theorem m340 : Cond.methodLink RL 13 yX11_server ∈ gW := gW_of (i := 340) (by decide +kernel) rfl
theorem m341 : Cond.instanceMethod yX11_server ∈ gW := gW_of (i := 341) (by decide +kernel) rfl
theorem m342 : Cond.selects RX11 yX11_server yX11_server ∈ gW := gW_of (i := 342) (by decide +kernel) rfl
theorem m343 : Cond.code yX11_server cX11_server 5 (some .int) ∈ gW := gW_of (i := 343) (by decide +kernel) rfl
theorem cv_L_13 : CWV RL 13 qX11_server 4 := ⟨m340, m341, m342, m72, m343, ⟨⟨by decide +kernel, by decide +kernel, by decide +kernel⟩, by decide⟩⟩
theorem m1347 : Cond.methodLink RL 17 yX12_server ∈ gW := gW_of (i := 1347) (by decide +kernel) rfl
theorem m1348 : Cond.instanceMethod yX12_server ∈ gW := gW_of (i := 1348) (by decide +kernel) rfl
theorem m1349 : Cond.selects RX12 yX12_server yX12_server ∈ gW := gW_of (i := 1349) (by decide +kernel) rfl
theorem m1350 : Cond.code yX12_server cX12_server 6 (some .int) ∈ gW := gW_of (i := 1350) (by decide +kernel) rfl
theorem cv_L_17 : CWV RL 17 qX12_server 4 := ⟨m1347, m1348, m1349, m81, m1350, ⟨⟨by decide +kernel, by decide +kernel, by decide +kernel⟩, by decide⟩⟩
abbrev qX11_of : QM := (yX11_of, cX11_of, 4, some .int)
theorem m450 : Cond.methodLink RL 18 yX11_of ∈ gW := gW_of (i := 450) (by decide +kernel) rfl
theorem m451 : Cond.instanceMethod yX11_of ∈ gW := gW_of (i := 451) (by decide +kernel) rfl
theorem m452 : Cond.selects RX11 yX11_of yX11_of ∈ gW := gW_of (i := 452) (by decide +kernel) rfl
theorem m453 : Cond.code yX11_of cX11_of 4 (some .int) ∈ gW := gW_of (i := 453) (by decide +kernel) rfl
theorem cv_L_18 : CWV RL 18 qX11_of 2 := ⟨m450, m451, m452, m72, m453, ⟨⟨by decide +kernel, by decide +kernel, by decide +kernel⟩, by decide⟩⟩
theorem m1435 : Cond.methodLink RL 22 yX12_of ∈ gW := gW_of (i := 1435) (by decide +kernel) rfl
theorem m1436 : Cond.instanceMethod yX12_of ∈ gW := gW_of (i := 1436) (by decide +kernel) rfl
theorem m1437 : Cond.selects RX12 yX12_of yX12_of ∈ gW := gW_of (i := 1437) (by decide +kernel) rfl
theorem m1438 : Cond.code yX12_of cX12_of 3 (some .int) ∈ gW := gW_of (i := 1438) (by decide +kernel) rfl
theorem cv_L_22 : CWV RL 22 qX12_of 2 := ⟨m1435, m1436, m1437, m81, m1438, ⟨⟨by decide +kernel, by decide +kernel, by decide +kernel⟩, by decide⟩⟩
abbrev qX11_set : QM := (yX11_set, cX11_set, 6, some .int)
theorem m539 : Cond.methodLink RL 23 yX11_set ∈ gW := gW_of (i := 539) (by decide +kernel) rfl
theorem m540 : Cond.instanceMethod yX11_set ∈ gW := gW_of (i := 540) (by decide +kernel) rfl
theorem m541 : Cond.selects RX11 yX11_set yX11_set ∈ gW := gW_of (i := 541) (by decide +kernel) rfl
theorem m542 : Cond.code yX11_set cX11_set 6 (some .int) ∈ gW := gW_of (i := 542) (by decide +kernel) rfl
theorem cv_L_23 : CWV RL 23 qX11_set 3 := ⟨m539, m540, m541, m72, m542, ⟨⟨by decide +kernel, by decide +kernel, by decide +kernel⟩, by decide⟩⟩
theorem m1359 : Cond.methodLink RL 27 yX12_set ∈ gW := gW_of (i := 1359) (by decide +kernel) rfl
theorem m1360 : Cond.instanceMethod yX12_set ∈ gW := gW_of (i := 1360) (by decide +kernel) rfl
theorem m1361 : Cond.selects RX12 yX12_set yX12_set ∈ gW := gW_of (i := 1361) (by decide +kernel) rfl
theorem m1362 : Cond.code yX12_set cX12_set 5 (some .int) ∈ gW := gW_of (i := 1362) (by decide +kernel) rfl
theorem cv_L_27 : CWV RL 27 qX12_set 3 := ⟨m1359, m1360, m1361, m81, m1362, ⟨⟨by decide +kernel, by decide +kernel, by decide +kernel⟩, by decide⟩⟩
abbrev qX11_row : QM := (yX11_row, cX11_row, 5, some .int)
theorem m546 : Cond.methodLink RL 28 yX11_row ∈ gW := gW_of (i := 546) (by decide +kernel) rfl
theorem m547 : Cond.instanceMethod yX11_row ∈ gW := gW_of (i := 547) (by decide +kernel) rfl
theorem m548 : Cond.selects RX11 yX11_row yX11_row ∈ gW := gW_of (i := 548) (by decide +kernel) rfl
theorem m549 : Cond.code yX11_row cX11_row 5 (some .int) ∈ gW := gW_of (i := 549) (by decide +kernel) rfl
theorem cv_L_28 : CWV RL 28 qX11_row 3 := ⟨m546, m547, m548, m72, m549, ⟨⟨by decide +kernel, by decide +kernel, by decide +kernel⟩, by decide⟩⟩
theorem m1367 : Cond.methodLink RL 31 yX12_row ∈ gW := gW_of (i := 1367) (by decide +kernel) rfl
theorem m1368 : Cond.instanceMethod yX12_row ∈ gW := gW_of (i := 1368) (by decide +kernel) rfl
theorem m1369 : Cond.selects RX12 yX12_row yX12_row ∈ gW := gW_of (i := 1369) (by decide +kernel) rfl
theorem m1370 : Cond.code yX12_row cX12_row 5 (some .int) ∈ gW := gW_of (i := 1370) (by decide +kernel) rfl
theorem cv_L_31 : CWV RL 31 qX12_row 3 := ⟨m1367, m1368, m1369, m81, m1370, ⟨⟨by decide +kernel, by decide +kernel, by decide +kernel⟩, by decide⟩⟩
abbrev qX11_feed : QM := (yX11_feed, cX11_feed, 2, some .int)
theorem m550 : Cond.methodLink RL 32 yX11_feed ∈ gW := gW_of (i := 550) (by decide +kernel) rfl
theorem m551 : Cond.instanceMethod yX11_feed ∈ gW := gW_of (i := 551) (by decide +kernel) rfl
theorem m552 : Cond.selects RX11 yX11_feed yX11_feed ∈ gW := gW_of (i := 552) (by decide +kernel) rfl
theorem m553 : Cond.code yX11_feed cX11_feed 2 (some .int) ∈ gW := gW_of (i := 553) (by decide +kernel) rfl
theorem cv_L_32 : CWV RL 32 qX11_feed 1 := ⟨m550, m551, m552, m72, m553, ⟨⟨by decide +kernel, by decide +kernel, by decide +kernel⟩, by decide⟩⟩
theorem m1371 : Cond.methodLink RL 36 yX12_feed ∈ gW := gW_of (i := 1371) (by decide +kernel) rfl
theorem m1372 : Cond.instanceMethod yX12_feed ∈ gW := gW_of (i := 1372) (by decide +kernel) rfl
theorem m1373 : Cond.selects RX12 yX12_feed yX12_feed ∈ gW := gW_of (i := 1373) (by decide +kernel) rfl
theorem m1374 : Cond.code yX12_feed cX12_feed 2 (some .int) ∈ gW := gW_of (i := 1374) (by decide +kernel) rfl
theorem cv_L_36 : CWV RL 36 qX12_feed 1 := ⟨m1371, m1372, m1373, m81, m1374, ⟨⟨by decide +kernel, by decide +kernel, by decide +kernel⟩, by decide⟩⟩
abbrev qX11_court : QM := (yX11_court, cX11_court, 3, some .int)
theorem m559 : Cond.methodLink RL 37 yX11_court ∈ gW := gW_of (i := 559) (by decide +kernel) rfl
theorem m560 : Cond.instanceMethod yX11_court ∈ gW := gW_of (i := 560) (by decide +kernel) rfl
theorem m561 : Cond.selects RX11 yX11_court yX11_court ∈ gW := gW_of (i := 561) (by decide +kernel) rfl
theorem m562 : Cond.code yX11_court cX11_court 3 (some .int) ∈ gW := gW_of (i := 562) (by decide +kernel) rfl
theorem cv_L_37 : CWV RL 37 qX11_court 0 := ⟨m559, m560, m561, m72, m562, ⟨⟨by decide +kernel, by decide +kernel, by decide +kernel⟩, by decide⟩⟩
theorem m1375 : Cond.methodLink RL 41 yX12_court ∈ gW := gW_of (i := 1375) (by decide +kernel) rfl
theorem m1376 : Cond.instanceMethod yX12_court ∈ gW := gW_of (i := 1376) (by decide +kernel) rfl
theorem m1377 : Cond.selects RX12 yX12_court yX12_court ∈ gW := gW_of (i := 1377) (by decide +kernel) rfl
theorem m1378 : Cond.code yX12_court cX12_court 2 (some .int) ∈ gW := gW_of (i := 1378) (by decide +kernel) rfl
theorem cv_L_41 : CWV RL 41 qX12_court 0 := ⟨m1375, m1376, m1377, m81, m1378, ⟨⟨by decide +kernel, by decide +kernel, by decide +kernel⟩, by decide⟩⟩
abbrev qX11_told : QM := (yX11_told, cX11_told, 2, some .int)
theorem m714 : Cond.methodLink RL 42 yX11_told ∈ gW := gW_of (i := 714) (by decide +kernel) rfl
theorem m715 : Cond.instanceMethod yX11_told ∈ gW := gW_of (i := 715) (by decide +kernel) rfl
theorem m716 : Cond.selects RX11 yX11_told yX11_told ∈ gW := gW_of (i := 716) (by decide +kernel) rfl
theorem m717 : Cond.code yX11_told cX11_told 2 (some .int) ∈ gW := gW_of (i := 717) (by decide +kernel) rfl
theorem cv_L_42 : CWV RL 42 qX11_told 1 := ⟨m714, m715, m716, m72, m717, ⟨⟨by decide +kernel, by decide +kernel, by decide +kernel⟩, by decide⟩⟩
theorem m1479 : Cond.methodLink RL 45 yX12_told ∈ gW := gW_of (i := 1479) (by decide +kernel) rfl
theorem m1480 : Cond.instanceMethod yX12_told ∈ gW := gW_of (i := 1480) (by decide +kernel) rfl
theorem m1481 : Cond.selects RX12 yX12_told yX12_told ∈ gW := gW_of (i := 1481) (by decide +kernel) rfl
theorem m1482 : Cond.code yX12_told cX12_told 2 (some .int) ∈ gW := gW_of (i := 1482) (by decide +kernel) rfl
theorem cv_L_45 : CWV RL 45 qX12_told 1 := ⟨m1479, m1480, m1481, m81, m1482, ⟨⟨by decide +kernel, by decide +kernel, by decide +kernel⟩, by decide⟩⟩
abbrev qX11_stance : QM := (yX11_stance, cX11_stance, 3, some .int)
theorem m718 : Cond.methodLink RL 46 yX11_stance ∈ gW := gW_of (i := 718) (by decide +kernel) rfl
theorem m719 : Cond.instanceMethod yX11_stance ∈ gW := gW_of (i := 719) (by decide +kernel) rfl
theorem m720 : Cond.selects RX11 yX11_stance yX11_stance ∈ gW := gW_of (i := 720) (by decide +kernel) rfl
theorem m721 : Cond.code yX11_stance cX11_stance 3 (some .int) ∈ gW := gW_of (i := 721) (by decide +kernel) rfl
theorem cv_L_46 : CWV RL 46 qX11_stance 1 := ⟨m718, m719, m720, m72, m721, ⟨⟨by decide +kernel, by decide +kernel, by decide +kernel⟩, by decide⟩⟩
theorem m1483 : Cond.methodLink RL 49 yX12_stance ∈ gW := gW_of (i := 1483) (by decide +kernel) rfl
theorem m1484 : Cond.instanceMethod yX12_stance ∈ gW := gW_of (i := 1484) (by decide +kernel) rfl
theorem m1485 : Cond.selects RX12 yX12_stance yX12_stance ∈ gW := gW_of (i := 1485) (by decide +kernel) rfl
theorem m1486 : Cond.code yX12_stance cX12_stance 3 (some .int) ∈ gW := gW_of (i := 1486) (by decide +kernel) rfl
theorem cv_L_49 : CWV RL 49 qX12_stance 1 := ⟨m1483, m1484, m1485, m81, m1486, ⟨⟨by decide +kernel, by decide +kernel, by decide +kernel⟩, by decide⟩⟩
abbrev qX11_score : QM := (yX11_score, cX11_score, 3, some .int)
theorem m722 : Cond.methodLink RL 50 yX11_score ∈ gW := gW_of (i := 722) (by decide +kernel) rfl
theorem m723 : Cond.instanceMethod yX11_score ∈ gW := gW_of (i := 723) (by decide +kernel) rfl
theorem m724 : Cond.selects RX11 yX11_score yX11_score ∈ gW := gW_of (i := 724) (by decide +kernel) rfl
theorem m725 : Cond.code yX11_score cX11_score 3 (some .int) ∈ gW := gW_of (i := 725) (by decide +kernel) rfl
theorem cv_L_50 : CWV RL 50 qX11_score 2 := ⟨m722, m723, m724, m72, m725, ⟨⟨by decide +kernel, by decide +kernel, by decide +kernel⟩, by decide⟩⟩
theorem m1487 : Cond.methodLink RL 53 yX12_score ∈ gW := gW_of (i := 1487) (by decide +kernel) rfl
theorem m1488 : Cond.instanceMethod yX12_score ∈ gW := gW_of (i := 1488) (by decide +kernel) rfl
theorem m1489 : Cond.selects RX12 yX12_score yX12_score ∈ gW := gW_of (i := 1489) (by decide +kernel) rfl
theorem m1490 : Cond.code yX12_score cX12_score 3 (some .int) ∈ gW := gW_of (i := 1490) (by decide +kernel) rfl
theorem cv_L_53 : CWV RL 53 qX12_score 2 := ⟨m1487, m1488, m1489, m81, m1490, ⟨⟨by decide +kernel, by decide +kernel, by decide +kernel⟩, by decide⟩⟩
abbrev qX11_chance : QM := (yX11_chance, cX11_chance, 5, some .int)
theorem m726 : Cond.methodLink RL 54 yX11_chance ∈ gW := gW_of (i := 726) (by decide +kernel) rfl
theorem m727 : Cond.instanceMethod yX11_chance ∈ gW := gW_of (i := 727) (by decide +kernel) rfl
theorem m728 : Cond.selects RX11 yX11_chance yX11_chance ∈ gW := gW_of (i := 728) (by decide +kernel) rfl
theorem m729 : Cond.code yX11_chance cX11_chance 5 (some .int) ∈ gW := gW_of (i := 729) (by decide +kernel) rfl
theorem cv_L_54 : CWV RL 54 qX11_chance 3 := ⟨m726, m727, m728, m72, m729, ⟨⟨by decide +kernel, by decide +kernel, by decide +kernel⟩, by decide⟩⟩
theorem m1491 : Cond.methodLink RL 57 yX12_chance ∈ gW := gW_of (i := 1491) (by decide +kernel) rfl
theorem m1492 : Cond.instanceMethod yX12_chance ∈ gW := gW_of (i := 1492) (by decide +kernel) rfl
theorem m1493 : Cond.selects RX12 yX12_chance yX12_chance ∈ gW := gW_of (i := 1493) (by decide +kernel) rfl
theorem m1494 : Cond.code yX12_chance cX12_chance 4 (some .int) ∈ gW := gW_of (i := 1494) (by decide +kernel) rfl
theorem cv_L_57 : CWV RL 57 qX12_chance 3 := ⟨m1491, m1492, m1493, m81, m1494, ⟨⟨by decide +kernel, by decide +kernel, by decide +kernel⟩, by decide⟩⟩
abbrev qX11_faults : QM := (yX11_faults, cX11_faults, 5, some .int)
theorem m739 : Cond.methodLink RL 58 yX11_faults ∈ gW := gW_of (i := 739) (by decide +kernel) rfl
theorem m740 : Cond.instanceMethod yX11_faults ∈ gW := gW_of (i := 740) (by decide +kernel) rfl
theorem m741 : Cond.selects RX11 yX11_faults yX11_faults ∈ gW := gW_of (i := 741) (by decide +kernel) rfl
theorem m742 : Cond.code yX11_faults cX11_faults 5 (some .int) ∈ gW := gW_of (i := 742) (by decide +kernel) rfl
theorem cv_L_58 : CWV RL 58 qX11_faults 3 := ⟨m739, m740, m741, m72, m742, ⟨⟨by decide +kernel, by decide +kernel, by decide +kernel⟩, by decide⟩⟩
theorem m1499 : Cond.methodLink RL 61 yX12_faults ∈ gW := gW_of (i := 1499) (by decide +kernel) rfl
theorem m1500 : Cond.instanceMethod yX12_faults ∈ gW := gW_of (i := 1500) (by decide +kernel) rfl
theorem m1501 : Cond.selects RX12 yX12_faults yX12_faults ∈ gW := gW_of (i := 1501) (by decide +kernel) rfl
theorem m1502 : Cond.code yX12_faults cX12_faults 4 (some .int) ∈ gW := gW_of (i := 1502) (by decide +kernel) rfl
theorem cv_L_61 : CWV RL 61 qX12_faults 3 := ⟨m1499, m1500, m1501, m81, m1502, ⟨⟨by decide +kernel, by decide +kernel, by decide +kernel⟩, by decide⟩⟩
abbrev qX11_play : QM := (yX11_play, cX11_play, 5, some .int)
theorem m747 : Cond.methodLink RL 62 yX11_play ∈ gW := gW_of (i := 747) (by decide +kernel) rfl
theorem m748 : Cond.instanceMethod yX11_play ∈ gW := gW_of (i := 748) (by decide +kernel) rfl
theorem m749 : Cond.selects RX11 yX11_play yX11_play ∈ gW := gW_of (i := 749) (by decide +kernel) rfl
theorem m750 : Cond.code yX11_play cX11_play 5 (some .int) ∈ gW := gW_of (i := 750) (by decide +kernel) rfl
theorem cv_L_62 : CWV RL 62 qX11_play 3 := ⟨m747, m748, m749, m72, m750, ⟨⟨by decide +kernel, by decide +kernel, by decide +kernel⟩, by decide⟩⟩
theorem m1507 : Cond.methodLink RL 65 yX12_play ∈ gW := gW_of (i := 1507) (by decide +kernel) rfl
theorem m1508 : Cond.instanceMethod yX12_play ∈ gW := gW_of (i := 1508) (by decide +kernel) rfl
theorem m1509 : Cond.selects RX12 yX12_play yX12_play ∈ gW := gW_of (i := 1509) (by decide +kernel) rfl
theorem m1510 : Cond.code yX12_play cX12_play 4 (some .int) ∈ gW := gW_of (i := 1510) (by decide +kernel) rfl
theorem cv_L_65 : CWV RL 65 qX12_play 3 := ⟨m1507, m1508, m1509, m81, m1510, ⟨⟨by decide +kernel, by decide +kernel, by decide +kernel⟩, by decide⟩⟩
abbrev qX11_best : QM := (yX11_best, cX11_best, 4, some .int)
theorem m765 : Cond.methodLink RL 66 yX11_best ∈ gW := gW_of (i := 765) (by decide +kernel) rfl
theorem m766 : Cond.instanceMethod yX11_best ∈ gW := gW_of (i := 766) (by decide +kernel) rfl
theorem m767 : Cond.selects RX11 yX11_best yX11_best ∈ gW := gW_of (i := 767) (by decide +kernel) rfl
theorem m768 : Cond.code yX11_best cX11_best 4 (some .int) ∈ gW := gW_of (i := 768) (by decide +kernel) rfl
theorem cv_L_66 : CWV RL 66 qX11_best 2 := ⟨m765, m766, m767, m72, m768, ⟨⟨by decide +kernel, by decide +kernel, by decide +kernel⟩, by decide⟩⟩
theorem m1523 : Cond.methodLink RL 69 yX12_best ∈ gW := gW_of (i := 1523) (by decide +kernel) rfl
theorem m1524 : Cond.instanceMethod yX12_best ∈ gW := gW_of (i := 1524) (by decide +kernel) rfl
theorem m1525 : Cond.selects RX12 yX12_best yX12_best ∈ gW := gW_of (i := 1525) (by decide +kernel) rfl
theorem m1526 : Cond.code yX12_best cX12_best 7 (some .int) ∈ gW := gW_of (i := 1526) (by decide +kernel) rfl
theorem cv_L_69 : CWV RL 69 qX12_best 2 := ⟨m1523, m1524, m1525, m81, m1526, ⟨⟨by decide +kernel, by decide +kernel, by decide +kernel⟩, by decide⟩⟩
abbrev qX11_risk : QM := (yX11_risk, cX11_risk, 6, some .int)
theorem m777 : Cond.methodLink RL 70 yX11_risk ∈ gW := gW_of (i := 777) (by decide +kernel) rfl
theorem m778 : Cond.instanceMethod yX11_risk ∈ gW := gW_of (i := 778) (by decide +kernel) rfl
theorem m779 : Cond.selects RX11 yX11_risk yX11_risk ∈ gW := gW_of (i := 779) (by decide +kernel) rfl
theorem m780 : Cond.code yX11_risk cX11_risk 6 (some .int) ∈ gW := gW_of (i := 780) (by decide +kernel) rfl
theorem cv_L_70 : CWV RL 70 qX11_risk 1 := ⟨m777, m778, m779, m72, m780, ⟨⟨by decide +kernel, by decide +kernel, by decide +kernel⟩, by decide⟩⟩
theorem m1527 : Cond.methodLink RL 73 yX12_risk ∈ gW := gW_of (i := 1527) (by decide +kernel) rfl
theorem m1528 : Cond.instanceMethod yX12_risk ∈ gW := gW_of (i := 1528) (by decide +kernel) rfl
theorem m1529 : Cond.selects RX12 yX12_risk yX12_risk ∈ gW := gW_of (i := 1529) (by decide +kernel) rfl
theorem m1530 : Cond.code yX12_risk cX12_risk 5 (some .int) ∈ gW := gW_of (i := 1530) (by decide +kernel) rfl
theorem cv_L_73 : CWV RL 73 qX12_risk 1 := ⟨m1527, m1528, m1529, m81, m1530, ⟨⟨by decide +kernel, by decide +kernel, by decide +kernel⟩, by decide⟩⟩
abbrev qX11_dare : QM := (yX11_dare, cX11_dare, 4, some .int)
theorem m781 : Cond.methodLink RL 74 yX11_dare ∈ gW := gW_of (i := 781) (by decide +kernel) rfl
theorem m782 : Cond.instanceMethod yX11_dare ∈ gW := gW_of (i := 782) (by decide +kernel) rfl
theorem m783 : Cond.selects RX11 yX11_dare yX11_dare ∈ gW := gW_of (i := 783) (by decide +kernel) rfl
theorem m784 : Cond.code yX11_dare cX11_dare 4 (some .int) ∈ gW := gW_of (i := 784) (by decide +kernel) rfl
theorem cv_L_74 : CWV RL 74 qX11_dare 1 := ⟨m781, m782, m783, m72, m784, ⟨⟨by decide +kernel, by decide +kernel, by decide +kernel⟩, by decide⟩⟩
theorem m1531 : Cond.methodLink RL 77 yX12_dare ∈ gW := gW_of (i := 1531) (by decide +kernel) rfl
theorem m1532 : Cond.instanceMethod yX12_dare ∈ gW := gW_of (i := 1532) (by decide +kernel) rfl
theorem m1533 : Cond.selects RX12 yX12_dare yX12_dare ∈ gW := gW_of (i := 1533) (by decide +kernel) rfl
theorem m1534 : Cond.code yX12_dare cX12_dare 3 (some .int) ∈ gW := gW_of (i := 1534) (by decide +kernel) rfl
theorem cv_L_77 : CWV RL 77 qX12_dare 1 := ⟨m1531, m1532, m1533, m81, m1534, ⟨⟨by decide +kernel, by decide +kernel, by decide +kernel⟩, by decide⟩⟩
abbrev qX11_more : QM := (yX11_more, cX11_more, 4, some .int)
theorem m791 : Cond.methodLink RL 78 yX11_more ∈ gW := gW_of (i := 791) (by decide +kernel) rfl
theorem m792 : Cond.instanceMethod yX11_more ∈ gW := gW_of (i := 792) (by decide +kernel) rfl
theorem m793 : Cond.selects RX11 yX11_more yX11_more ∈ gW := gW_of (i := 793) (by decide +kernel) rfl
theorem m794 : Cond.code yX11_more cX11_more 4 (some .int) ∈ gW := gW_of (i := 794) (by decide +kernel) rfl
theorem cv_L_78 : CWV RL 78 qX11_more 2 := ⟨m791, m792, m793, m72, m794, ⟨⟨by decide +kernel, by decide +kernel, by decide +kernel⟩, by decide⟩⟩
theorem m1540 : Cond.methodLink RL 81 yX12_more ∈ gW := gW_of (i := 1540) (by decide +kernel) rfl
theorem m1541 : Cond.instanceMethod yX12_more ∈ gW := gW_of (i := 1541) (by decide +kernel) rfl
theorem m1542 : Cond.selects RX12 yX12_more yX12_more ∈ gW := gW_of (i := 1542) (by decide +kernel) rfl
theorem m1543 : Cond.code yX12_more cX12_more 8 (some .int) ∈ gW := gW_of (i := 1543) (by decide +kernel) rfl
theorem cv_L_81 : CWV RL 81 qX12_more 2 := ⟨m1540, m1541, m1542, m81, m1543, ⟨⟨by decide +kernel, by decide +kernel, by decide +kernel⟩, by decide⟩⟩
abbrev qX11_safe : QM := (yX11_safe, cX11_safe, 5, some .int)
theorem m802 : Cond.methodLink RL 82 yX11_safe ∈ gW := gW_of (i := 802) (by decide +kernel) rfl
theorem m803 : Cond.instanceMethod yX11_safe ∈ gW := gW_of (i := 803) (by decide +kernel) rfl
theorem m804 : Cond.selects RX11 yX11_safe yX11_safe ∈ gW := gW_of (i := 804) (by decide +kernel) rfl
theorem m805 : Cond.code yX11_safe cX11_safe 5 (some .int) ∈ gW := gW_of (i := 805) (by decide +kernel) rfl
theorem cv_L_82 : CWV RL 82 qX11_safe 2 := ⟨m802, m803, m804, m72, m805, ⟨⟨by decide +kernel, by decide +kernel, by decide +kernel⟩, by decide⟩⟩
theorem m1544 : Cond.methodLink RL 85 yX12_safe ∈ gW := gW_of (i := 1544) (by decide +kernel) rfl
theorem m1545 : Cond.instanceMethod yX12_safe ∈ gW := gW_of (i := 1545) (by decide +kernel) rfl
theorem m1546 : Cond.selects RX12 yX12_safe yX12_safe ∈ gW := gW_of (i := 1546) (by decide +kernel) rfl
theorem m1547 : Cond.code yX12_safe cX12_safe 4 (some .int) ∈ gW := gW_of (i := 1547) (by decide +kernel) rfl
theorem cv_L_85 : CWV RL 85 qX12_safe 2 := ⟨m1544, m1545, m1546, m81, m1547, ⟨⟨by decide +kernel, by decide +kernel, by decide +kernel⟩, by decide⟩⟩
abbrev qX11_stand : QM := (yX11_stand, cX11_stand, 8, some .int)
theorem m806 : Cond.methodLink RL 86 yX11_stand ∈ gW := gW_of (i := 806) (by decide +kernel) rfl
theorem m807 : Cond.instanceMethod yX11_stand ∈ gW := gW_of (i := 807) (by decide +kernel) rfl
theorem m808 : Cond.selects RX11 yX11_stand yX11_stand ∈ gW := gW_of (i := 808) (by decide +kernel) rfl
theorem m809 : Cond.code yX11_stand cX11_stand 8 (some .int) ∈ gW := gW_of (i := 809) (by decide +kernel) rfl
theorem cv_L_86 : CWV RL 86 qX11_stand 2 := ⟨m806, m807, m808, m72, m809, ⟨⟨by decide +kernel, by decide +kernel, by decide +kernel⟩, by decide⟩⟩
theorem m1548 : Cond.methodLink RL 89 yX12_stand ∈ gW := gW_of (i := 1548) (by decide +kernel) rfl
theorem m1549 : Cond.instanceMethod yX12_stand ∈ gW := gW_of (i := 1549) (by decide +kernel) rfl
theorem m1550 : Cond.selects RX12 yX12_stand yX12_stand ∈ gW := gW_of (i := 1550) (by decide +kernel) rfl
theorem m1551 : Cond.code yX12_stand cX12_stand 8 (some .int) ∈ gW := gW_of (i := 1551) (by decide +kernel) rfl
theorem cv_L_89 : CWV RL 89 qX12_stand 2 := ⟨m1548, m1549, m1550, m81, m1551, ⟨⟨by decide +kernel, by decide +kernel, by decide +kernel⟩, by decide⟩⟩
abbrev qX11_game : QM := (yX11_game, cX11_game, 4, some .int)
theorem m814 : Cond.methodLink RL 90 yX11_game ∈ gW := gW_of (i := 814) (by decide +kernel) rfl
theorem m815 : Cond.instanceMethod yX11_game ∈ gW := gW_of (i := 815) (by decide +kernel) rfl
theorem m816 : Cond.selects RX11 yX11_game yX11_game ∈ gW := gW_of (i := 816) (by decide +kernel) rfl
theorem m817 : Cond.code yX11_game cX11_game 4 (some .int) ∈ gW := gW_of (i := 817) (by decide +kernel) rfl
theorem cv_L_90 : CWV RL 90 qX11_game 2 := ⟨m814, m815, m816, m72, m817, ⟨⟨by decide +kernel, by decide +kernel, by decide +kernel⟩, by decide⟩⟩
theorem m1553 : Cond.methodLink RL 93 yX12_game ∈ gW := gW_of (i := 1553) (by decide +kernel) rfl
theorem m1554 : Cond.instanceMethod yX12_game ∈ gW := gW_of (i := 1554) (by decide +kernel) rfl
theorem m1555 : Cond.selects RX12 yX12_game yX12_game ∈ gW := gW_of (i := 1555) (by decide +kernel) rfl
theorem m1556 : Cond.code yX12_game cX12_game 3 (some .int) ∈ gW := gW_of (i := 1556) (by decide +kernel) rfl
theorem cv_L_93 : CWV RL 93 qX12_game 2 := ⟨m1553, m1554, m1555, m81, m1556, ⟨⟨by decide +kernel, by decide +kernel, by decide +kernel⟩, by decide⟩⟩
abbrev qX11_swing : QM := (yX11_swing, cX11_swing, 3, some .int)
theorem m827 : Cond.methodLink RL 94 yX11_swing ∈ gW := gW_of (i := 827) (by decide +kernel) rfl
theorem m828 : Cond.instanceMethod yX11_swing ∈ gW := gW_of (i := 828) (by decide +kernel) rfl
theorem m829 : Cond.selects RX11 yX11_swing yX11_swing ∈ gW := gW_of (i := 829) (by decide +kernel) rfl
theorem m830 : Cond.code yX11_swing cX11_swing 3 (some .int) ∈ gW := gW_of (i := 830) (by decide +kernel) rfl
theorem cv_L_94 : CWV RL 94 qX11_swing 1 := ⟨m827, m828, m829, m72, m830, ⟨⟨by decide +kernel, by decide +kernel, by decide +kernel⟩, by decide⟩⟩
theorem m1571 : Cond.methodLink RL 97 yX12_swing ∈ gW := gW_of (i := 1571) (by decide +kernel) rfl
theorem m1572 : Cond.instanceMethod yX12_swing ∈ gW := gW_of (i := 1572) (by decide +kernel) rfl
theorem m1573 : Cond.selects RX12 yX12_swing yX12_swing ∈ gW := gW_of (i := 1573) (by decide +kernel) rfl
theorem m1574 : Cond.code yX12_swing cX12_swing 2 (some .int) ∈ gW := gW_of (i := 1574) (by decide +kernel) rfl
theorem cv_L_97 : CWV RL 97 qX12_swing 1 := ⟨m1571, m1572, m1573, m81, m1574, ⟨⟨by decide +kernel, by decide +kernel, by decide +kernel⟩, by decide⟩⟩
abbrev qX11_match : QM := (yX11_match, cX11_match, 6, some .int)
theorem m831 : Cond.methodLink RL 98 yX11_match ∈ gW := gW_of (i := 831) (by decide +kernel) rfl
theorem m832 : Cond.instanceMethod yX11_match ∈ gW := gW_of (i := 832) (by decide +kernel) rfl
theorem m833 : Cond.selects RX11 yX11_match yX11_match ∈ gW := gW_of (i := 833) (by decide +kernel) rfl
theorem m834 : Cond.code yX11_match cX11_match 6 (some .int) ∈ gW := gW_of (i := 834) (by decide +kernel) rfl
theorem cv_L_98 : CWV RL 98 qX11_match 3 := ⟨m831, m832, m833, m72, m834, ⟨⟨by decide +kernel, by decide +kernel, by decide +kernel⟩, by decide⟩⟩
theorem m1575 : Cond.methodLink RL 101 yX12_match ∈ gW := gW_of (i := 1575) (by decide +kernel) rfl
theorem m1576 : Cond.instanceMethod yX12_match ∈ gW := gW_of (i := 1576) (by decide +kernel) rfl
theorem m1577 : Cond.selects RX12 yX12_match yX12_match ∈ gW := gW_of (i := 1577) (by decide +kernel) rfl
theorem m1578 : Cond.code yX12_match cX12_match 4 (some .int) ∈ gW := gW_of (i := 1578) (by decide +kernel) rfl
theorem cv_L_101 : CWV RL 101 qX12_match 3 := ⟨m1575, m1576, m1577, m81, m1578, ⟨⟨by decide +kernel, by decide +kernel, by decide +kernel⟩, by decide⟩⟩
abbrev qX11_ahead : QM := (yX11_ahead, cX11_ahead, 8, some .int)
theorem m839 : Cond.methodLink RL 102 yX11_ahead ∈ gW := gW_of (i := 839) (by decide +kernel) rfl
theorem m840 : Cond.instanceMethod yX11_ahead ∈ gW := gW_of (i := 840) (by decide +kernel) rfl
theorem m841 : Cond.selects RX11 yX11_ahead yX11_ahead ∈ gW := gW_of (i := 841) (by decide +kernel) rfl
theorem m842 : Cond.code yX11_ahead cX11_ahead 8 (some .int) ∈ gW := gW_of (i := 842) (by decide +kernel) rfl
theorem cv_L_102 : CWV RL 102 qX11_ahead 3 := ⟨m839, m840, m841, m72, m842, ⟨⟨by decide +kernel, by decide +kernel, by decide +kernel⟩, by decide⟩⟩
theorem m1583 : Cond.methodLink RL 105 yX12_ahead ∈ gW := gW_of (i := 1583) (by decide +kernel) rfl
theorem m1584 : Cond.instanceMethod yX12_ahead ∈ gW := gW_of (i := 1584) (by decide +kernel) rfl
theorem m1585 : Cond.selects RX12 yX12_ahead yX12_ahead ∈ gW := gW_of (i := 1585) (by decide +kernel) rfl
theorem m1586 : Cond.code yX12_ahead cX12_ahead 4 (some .int) ∈ gW := gW_of (i := 1586) (by decide +kernel) rfl
theorem cv_L_105 : CWV RL 105 qX12_ahead 3 := ⟨m1583, m1584, m1585, m81, m1586, ⟨⟨by decide +kernel, by decide +kernel, by decide +kernel⟩, by decide⟩⟩
abbrev qX11_see : QM := (yX11_see, cX11_see, 3, some .int)
theorem m844 : Cond.methodLink RL 106 yX11_see ∈ gW := gW_of (i := 844) (by decide +kernel) rfl
theorem m845 : Cond.instanceMethod yX11_see ∈ gW := gW_of (i := 845) (by decide +kernel) rfl
theorem m846 : Cond.selects RX11 yX11_see yX11_see ∈ gW := gW_of (i := 846) (by decide +kernel) rfl
theorem m847 : Cond.code yX11_see cX11_see 3 (some .int) ∈ gW := gW_of (i := 847) (by decide +kernel) rfl
theorem cv_L_106 : CWV RL 106 qX11_see 2 := ⟨m844, m845, m846, m72, m847, ⟨⟨by decide +kernel, by decide +kernel, by decide +kernel⟩, by decide⟩⟩
theorem m1588 : Cond.methodLink RL 109 yX12_see ∈ gW := gW_of (i := 1588) (by decide +kernel) rfl
theorem m1589 : Cond.instanceMethod yX12_see ∈ gW := gW_of (i := 1589) (by decide +kernel) rfl
theorem m1590 : Cond.selects RX12 yX12_see yX12_see ∈ gW := gW_of (i := 1590) (by decide +kernel) rfl
theorem m1591 : Cond.code yX12_see cX12_see 3 (some .int) ∈ gW := gW_of (i := 1591) (by decide +kernel) rfl
theorem cv_L_109 : CWV RL 109 qX12_see 2 := ⟨m1588, m1589, m1590, m81, m1591, ⟨⟨by decide +kernel, by decide +kernel, by decide +kernel⟩, by decide⟩⟩
abbrev qX11_who : QM := (yX11_who, cX11_who, 4, some .int)
theorem m848 : Cond.methodLink RL 110 yX11_who ∈ gW := gW_of (i := 848) (by decide +kernel) rfl
theorem m849 : Cond.instanceMethod yX11_who ∈ gW := gW_of (i := 849) (by decide +kernel) rfl
theorem m850 : Cond.selects RX11 yX11_who yX11_who ∈ gW := gW_of (i := 850) (by decide +kernel) rfl
theorem m851 : Cond.code yX11_who cX11_who 4 (some .int) ∈ gW := gW_of (i := 851) (by decide +kernel) rfl
theorem cv_L_110 : CWV RL 110 qX11_who 0 := ⟨m848, m849, m850, m72, m851, ⟨⟨by decide +kernel, by decide +kernel, by decide +kernel⟩, by decide⟩⟩
theorem m1592 : Cond.methodLink RL 113 yX12_who ∈ gW := gW_of (i := 1592) (by decide +kernel) rfl
theorem m1593 : Cond.instanceMethod yX12_who ∈ gW := gW_of (i := 1593) (by decide +kernel) rfl
theorem m1594 : Cond.selects RX12 yX12_who yX12_who ∈ gW := gW_of (i := 1594) (by decide +kernel) rfl
theorem m1595 : Cond.code yX12_who cX12_who 4 (some .int) ∈ gW := gW_of (i := 1595) (by decide +kernel) rfl
theorem cv_L_113 : CWV RL 113 qX12_who 0 := ⟨m1592, m1593, m1594, m81, m1595, ⟨⟨by decide +kernel, by decide +kernel, by decide +kernel⟩, by decide⟩⟩
abbrev qX11_odds : QM := (yX11_odds, cX11_odds, 7, some .long)
theorem m856 : Cond.methodLink RL 114 yX11_odds ∈ gW := gW_of (i := 856) (by decide +kernel) rfl
theorem m857 : Cond.instanceMethod yX11_odds ∈ gW := gW_of (i := 857) (by decide +kernel) rfl
theorem m858 : Cond.selects RX11 yX11_odds yX11_odds ∈ gW := gW_of (i := 858) (by decide +kernel) rfl
theorem m859 : Cond.code yX11_odds cX11_odds 7 (some .long) ∈ gW := gW_of (i := 859) (by decide +kernel) rfl
theorem cv_L_114 : CWV RL 114 qX11_odds 2 := ⟨m856, m857, m858, m72, m859, ⟨⟨by decide +kernel, by decide +kernel, by decide +kernel⟩, by decide⟩⟩
theorem m1596 : Cond.methodLink RL 118 yX12_odds ∈ gW := gW_of (i := 1596) (by decide +kernel) rfl
theorem m1597 : Cond.instanceMethod yX12_odds ∈ gW := gW_of (i := 1597) (by decide +kernel) rfl
theorem m1598 : Cond.selects RX12 yX12_odds yX12_odds ∈ gW := gW_of (i := 1598) (by decide +kernel) rfl
theorem m1599 : Cond.code yX12_odds cX12_odds 6 (some .long) ∈ gW := gW_of (i := 1599) (by decide +kernel) rfl
theorem cv_L_118 : CWV RL 118 qX12_odds 2 := ⟨m1596, m1597, m1598, m81, m1599, ⟨⟨by decide +kernel, by decide +kernel, by decide +kernel⟩, by decide⟩⟩
abbrev qX11_mean : QM := (yX11_mean, cX11_mean, 6, some .long)
theorem m865 : Cond.methodLink RL 119 yX11_mean ∈ gW := gW_of (i := 865) (by decide +kernel) rfl
theorem m866 : Cond.instanceMethod yX11_mean ∈ gW := gW_of (i := 866) (by decide +kernel) rfl
theorem m867 : Cond.selects RX11 yX11_mean yX11_mean ∈ gW := gW_of (i := 867) (by decide +kernel) rfl
theorem m868 : Cond.code yX11_mean cX11_mean 6 (some .long) ∈ gW := gW_of (i := 868) (by decide +kernel) rfl
theorem cv_L_119 : CWV RL 119 qX11_mean 1 := ⟨m865, m866, m867, m72, m868, ⟨⟨by decide +kernel, by decide +kernel, by decide +kernel⟩, by decide⟩⟩
theorem m1610 : Cond.methodLink RL 123 yX12_mean ∈ gW := gW_of (i := 1610) (by decide +kernel) rfl
theorem m1611 : Cond.instanceMethod yX12_mean ∈ gW := gW_of (i := 1611) (by decide +kernel) rfl
theorem m1612 : Cond.selects RX12 yX12_mean yX12_mean ∈ gW := gW_of (i := 1612) (by decide +kernel) rfl
theorem m1613 : Cond.code yX12_mean cX12_mean 4 (some .long) ∈ gW := gW_of (i := 1613) (by decide +kernel) rfl
theorem cv_L_123 : CWV RL 123 qX12_mean 1 := ⟨m1610, m1611, m1612, m81, m1613, ⟨⟨by decide +kernel, by decide +kernel, by decide +kernel⟩, by decide⟩⟩
abbrev qX11_book : QM := (yX11_book, cX11_book, 4, some .int)
theorem m869 : Cond.methodLink RL 124 yX11_book ∈ gW := gW_of (i := 869) (by decide +kernel) rfl
theorem m870 : Cond.instanceMethod yX11_book ∈ gW := gW_of (i := 870) (by decide +kernel) rfl
theorem m871 : Cond.selects RX11 yX11_book yX11_book ∈ gW := gW_of (i := 871) (by decide +kernel) rfl
theorem m872 : Cond.code yX11_book cX11_book 4 (some .int) ∈ gW := gW_of (i := 872) (by decide +kernel) rfl
theorem cv_L_124 : CWV RL 124 qX11_book 3 := ⟨m869, m870, m871, m72, m872, ⟨⟨by decide +kernel, by decide +kernel, by decide +kernel⟩, by decide⟩⟩
theorem m1614 : Cond.methodLink RL 127 yX12_book ∈ gW := gW_of (i := 1614) (by decide +kernel) rfl
theorem m1615 : Cond.instanceMethod yX12_book ∈ gW := gW_of (i := 1615) (by decide +kernel) rfl
theorem m1616 : Cond.selects RX12 yX12_book yX12_book ∈ gW := gW_of (i := 1616) (by decide +kernel) rfl
theorem m1617 : Cond.code yX12_book cX12_book 4 (some .int) ∈ gW := gW_of (i := 1617) (by decide +kernel) rfl
theorem cv_L_127 : CWV RL 127 qX12_book 3 := ⟨m1614, m1615, m1616, m81, m1617, ⟨⟨by decide +kernel, by decide +kernel, by decide +kernel⟩, by decide⟩⟩
abbrev qX11_looked : QM := (yX11_looked, cX11_looked, 3, some .int)
theorem m877 : Cond.methodLink RL 128 yX11_looked ∈ gW := gW_of (i := 877) (by decide +kernel) rfl
theorem m878 : Cond.instanceMethod yX11_looked ∈ gW := gW_of (i := 878) (by decide +kernel) rfl
theorem m879 : Cond.selects RX11 yX11_looked yX11_looked ∈ gW := gW_of (i := 879) (by decide +kernel) rfl
theorem m880 : Cond.code yX11_looked cX11_looked 3 (some .int) ∈ gW := gW_of (i := 880) (by decide +kernel) rfl
theorem cv_L_128 : CWV RL 128 qX11_looked 0 := ⟨m877, m878, m879, m72, m880, ⟨⟨by decide +kernel, by decide +kernel, by decide +kernel⟩, by decide⟩⟩
theorem m1618 : Cond.methodLink RL 131 yX12_looked ∈ gW := gW_of (i := 1618) (by decide +kernel) rfl
theorem m1619 : Cond.instanceMethod yX12_looked ∈ gW := gW_of (i := 1619) (by decide +kernel) rfl
theorem m1620 : Cond.selects RX12 yX12_looked yX12_looked ∈ gW := gW_of (i := 1620) (by decide +kernel) rfl
theorem m1621 : Cond.code yX12_looked cX12_looked 5 (some .int) ∈ gW := gW_of (i := 1621) (by decide +kernel) rfl
theorem cv_L_131 : CWV RL 131 qX12_looked 0 := ⟨m1618, m1619, m1620, m81, m1621, ⟨⟨by decide +kernel, by decide +kernel, by decide +kernel⟩, by decide⟩⟩
abbrev qX11_judge : QM := (yX11_judge, cX11_judge, 5, some .int)
theorem m881 : Cond.methodLink RL 132 yX11_judge ∈ gW := gW_of (i := 881) (by decide +kernel) rfl
theorem m882 : Cond.instanceMethod yX11_judge ∈ gW := gW_of (i := 882) (by decide +kernel) rfl
theorem m883 : Cond.selects RX11 yX11_judge yX11_judge ∈ gW := gW_of (i := 883) (by decide +kernel) rfl
theorem m884 : Cond.code yX11_judge cX11_judge 5 (some .int) ∈ gW := gW_of (i := 884) (by decide +kernel) rfl
theorem cv_L_132 : CWV RL 132 qX11_judge 2 := ⟨m881, m882, m883, m72, m884, ⟨⟨by decide +kernel, by decide +kernel, by decide +kernel⟩, by decide⟩⟩
theorem m1622 : Cond.methodLink RL 135 yX12_judge ∈ gW := gW_of (i := 1622) (by decide +kernel) rfl
theorem m1623 : Cond.instanceMethod yX12_judge ∈ gW := gW_of (i := 1623) (by decide +kernel) rfl
theorem m1624 : Cond.selects RX12 yX12_judge yX12_judge ∈ gW := gW_of (i := 1624) (by decide +kernel) rfl
theorem m1625 : Cond.code yX12_judge cX12_judge 4 (some .int) ∈ gW := gW_of (i := 1625) (by decide +kernel) rfl
theorem cv_L_135 : CWV RL 135 qX12_judge 2 := ⟨m1622, m1623, m1624, m81, m1625, ⟨⟨by decide +kernel, by decide +kernel, by decide +kernel⟩, by decide⟩⟩
abbrev qX11_image : QM := (yX11_image, cX11_image, 1, some .int)
theorem m899 : Cond.methodLink RL 136 yX11_image ∈ gW := gW_of (i := 899) (by decide +kernel) rfl
theorem m900 : Cond.instanceMethod yX11_image ∈ gW := gW_of (i := 900) (by decide +kernel) rfl
theorem m901 : Cond.selects RX11 yX11_image yX11_image ∈ gW := gW_of (i := 901) (by decide +kernel) rfl
theorem m902 : Cond.code yX11_image cX11_image 1 (some .int) ∈ gW := gW_of (i := 902) (by decide +kernel) rfl
theorem cv_L_136 : CWV RL 136 qX11_image 0 := ⟨m899, m900, m901, m72, m902, ⟨⟨by decide +kernel, by decide +kernel, by decide +kernel⟩, by decide⟩⟩
theorem m1630 : Cond.methodLink RL 139 yX12_image ∈ gW := gW_of (i := 1630) (by decide +kernel) rfl
theorem m1631 : Cond.instanceMethod yX12_image ∈ gW := gW_of (i := 1631) (by decide +kernel) rfl
theorem m1632 : Cond.selects RX12 yX12_image yX12_image ∈ gW := gW_of (i := 1632) (by decide +kernel) rfl
theorem m1633 : Cond.code yX12_image cX12_image 2 (some .int) ∈ gW := gW_of (i := 1633) (by decide +kernel) rfl
theorem cv_L_139 : CWV RL 139 qX12_image 0 := ⟨m1630, m1631, m1632, m81, m1633, ⟨⟨by decide +kernel, by decide +kernel, by decide +kernel⟩, by decide⟩⟩
abbrev qX11_undo : QM := (yX11_undo, cX11_undo, 1, some .int)
theorem m903 : Cond.methodLink RL 140 yX11_undo ∈ gW := gW_of (i := 903) (by decide +kernel) rfl
theorem m904 : Cond.instanceMethod yX11_undo ∈ gW := gW_of (i := 904) (by decide +kernel) rfl
theorem m905 : Cond.selects RX11 yX11_undo yX11_undo ∈ gW := gW_of (i := 905) (by decide +kernel) rfl
theorem m906 : Cond.code yX11_undo cX11_undo 1 (some .int) ∈ gW := gW_of (i := 906) (by decide +kernel) rfl
theorem cv_L_140 : CWV RL 140 qX11_undo 0 := ⟨m903, m904, m905, m72, m906, ⟨⟨by decide +kernel, by decide +kernel, by decide +kernel⟩, by decide⟩⟩
theorem m1634 : Cond.methodLink RL 143 yX12_undo ∈ gW := gW_of (i := 1634) (by decide +kernel) rfl
theorem m1635 : Cond.instanceMethod yX12_undo ∈ gW := gW_of (i := 1635) (by decide +kernel) rfl
theorem m1636 : Cond.selects RX12 yX12_undo yX12_undo ∈ gW := gW_of (i := 1636) (by decide +kernel) rfl
theorem m1637 : Cond.code yX12_undo cX12_undo 2 (some .int) ∈ gW := gW_of (i := 1637) (by decide +kernel) rfl
theorem cv_L_143 : CWV RL 143 qX12_undo 0 := ⟨m1634, m1635, m1636, m81, m1637, ⟨⟨by decide +kernel, by decide +kernel, by decide +kernel⟩, by decide⟩⟩
abbrev qX11_act : QM := (yX11_act, cX11_act, 5, some .int)
theorem m907 : Cond.methodLink RL 144 yX11_act ∈ gW := gW_of (i := 907) (by decide +kernel) rfl
theorem m908 : Cond.instanceMethod yX11_act ∈ gW := gW_of (i := 908) (by decide +kernel) rfl
theorem m909 : Cond.selects RX11 yX11_act yX11_act ∈ gW := gW_of (i := 909) (by decide +kernel) rfl
theorem m910 : Cond.code yX11_act cX11_act 5 (some .int) ∈ gW := gW_of (i := 910) (by decide +kernel) rfl
theorem cv_L_144 : CWV RL 144 qX11_act 3 := ⟨m907, m908, m909, m72, m910, ⟨⟨by decide +kernel, by decide +kernel, by decide +kernel⟩, by decide⟩⟩
theorem m1638 : Cond.methodLink RL 147 yX12_act ∈ gW := gW_of (i := 1638) (by decide +kernel) rfl
theorem m1639 : Cond.instanceMethod yX12_act ∈ gW := gW_of (i := 1639) (by decide +kernel) rfl
theorem m1640 : Cond.selects RX12 yX12_act yX12_act ∈ gW := gW_of (i := 1640) (by decide +kernel) rfl
theorem m1641 : Cond.code yX12_act cX12_act 4 (some .int) ∈ gW := gW_of (i := 1641) (by decide +kernel) rfl
theorem cv_L_147 : CWV RL 147 qX12_act 3 := ⟨m1638, m1639, m1640, m81, m1641, ⟨⟨by decide +kernel, by decide +kernel, by decide +kernel⟩, by decide⟩⟩
abbrev qX11_trace : QM := (yX11_trace, cX11_trace, 2, some .int)
theorem m1072 : Cond.methodLink RL 148 yX11_trace ∈ gW := gW_of (i := 1072) (by decide +kernel) rfl
theorem m1073 : Cond.instanceMethod yX11_trace ∈ gW := gW_of (i := 1073) (by decide +kernel) rfl
theorem m1074 : Cond.selects RX11 yX11_trace yX11_trace ∈ gW := gW_of (i := 1074) (by decide +kernel) rfl
theorem m1075 : Cond.code yX11_trace cX11_trace 2 (some .int) ∈ gW := gW_of (i := 1075) (by decide +kernel) rfl
theorem cv_L_148 : CWV RL 148 qX11_trace 1 := ⟨m1072, m1073, m1074, m72, m1075, ⟨⟨by decide +kernel, by decide +kernel, by decide +kernel⟩, by decide⟩⟩
theorem m1674 : Cond.methodLink RL 151 yX12_trace ∈ gW := gW_of (i := 1674) (by decide +kernel) rfl
theorem m1675 : Cond.instanceMethod yX12_trace ∈ gW := gW_of (i := 1675) (by decide +kernel) rfl
theorem m1676 : Cond.selects RX12 yX12_trace yX12_trace ∈ gW := gW_of (i := 1676) (by decide +kernel) rfl
theorem m1677 : Cond.code yX12_trace cX12_trace 2 (some .int) ∈ gW := gW_of (i := 1677) (by decide +kernel) rfl
theorem cv_L_151 : CWV RL 151 qX12_trace 1 := ⟨m1674, m1675, m1676, m81, m1677, ⟨⟨by decide +kernel, by decide +kernel, by decide +kernel⟩, by decide⟩⟩
abbrev qX11_taken : QM := (yX11_taken, cX11_taken, 4, some .int)
theorem m1097 : Cond.methodLink RL 152 yX11_taken ∈ gW := gW_of (i := 1097) (by decide +kernel) rfl
theorem m1098 : Cond.instanceMethod yX11_taken ∈ gW := gW_of (i := 1098) (by decide +kernel) rfl
theorem m1099 : Cond.selects RX11 yX11_taken yX11_taken ∈ gW := gW_of (i := 1099) (by decide +kernel) rfl
theorem m1100 : Cond.code yX11_taken cX11_taken 4 (some .int) ∈ gW := gW_of (i := 1100) (by decide +kernel) rfl
theorem cv_L_152 : CWV RL 152 qX11_taken 2 := ⟨m1097, m1098, m1099, m72, m1100, ⟨⟨by decide +kernel, by decide +kernel, by decide +kernel⟩, by decide⟩⟩
theorem m1678 : Cond.methodLink RL 155 yX12_taken ∈ gW := gW_of (i := 1678) (by decide +kernel) rfl
theorem m1679 : Cond.instanceMethod yX12_taken ∈ gW := gW_of (i := 1679) (by decide +kernel) rfl
theorem m1680 : Cond.selects RX12 yX12_taken yX12_taken ∈ gW := gW_of (i := 1680) (by decide +kernel) rfl
theorem m1681 : Cond.code yX12_taken cX12_taken 4 (some .int) ∈ gW := gW_of (i := 1681) (by decide +kernel) rfl
theorem cv_L_155 : CWV RL 155 qX12_taken 2 := ⟨m1678, m1679, m1680, m81, m1681, ⟨⟨by decide +kernel, by decide +kernel, by decide +kernel⟩, by decide⟩⟩
abbrev qX11_count : QM := (yX11_count, cX11_count, 2, some .int)
theorem m1104 : Cond.methodLink RL 156 yX11_count ∈ gW := gW_of (i := 1104) (by decide +kernel) rfl
theorem m1105 : Cond.instanceMethod yX11_count ∈ gW := gW_of (i := 1105) (by decide +kernel) rfl
theorem m1106 : Cond.selects RX11 yX11_count yX11_count ∈ gW := gW_of (i := 1106) (by decide +kernel) rfl
theorem m1107 : Cond.code yX11_count cX11_count 2 (some .int) ∈ gW := gW_of (i := 1107) (by decide +kernel) rfl
theorem cv_L_156 : CWV RL 156 qX11_count 1 := ⟨m1104, m1105, m1106, m72, m1107, ⟨⟨by decide +kernel, by decide +kernel, by decide +kernel⟩, by decide⟩⟩
theorem m1682 : Cond.methodLink RL 159 yX12_count ∈ gW := gW_of (i := 1682) (by decide +kernel) rfl
theorem m1683 : Cond.instanceMethod yX12_count ∈ gW := gW_of (i := 1683) (by decide +kernel) rfl
theorem m1684 : Cond.selects RX12 yX12_count yX12_count ∈ gW := gW_of (i := 1684) (by decide +kernel) rfl
theorem m1685 : Cond.code yX12_count cX12_count 2 (some .int) ∈ gW := gW_of (i := 1685) (by decide +kernel) rfl
theorem cv_L_159 : CWV RL 159 qX12_count 1 := ⟨m1682, m1683, m1684, m81, m1685, ⟨⟨by decide +kernel, by decide +kernel, by decide +kernel⟩, by decide⟩⟩
abbrev qX11_tape : QM := (yX11_tape, cX11_tape, 5, some .int)
theorem m1108 : Cond.methodLink RL 160 yX11_tape ∈ gW := gW_of (i := 1108) (by decide +kernel) rfl
theorem m1109 : Cond.instanceMethod yX11_tape ∈ gW := gW_of (i := 1109) (by decide +kernel) rfl
theorem m1110 : Cond.selects RX11 yX11_tape yX11_tape ∈ gW := gW_of (i := 1110) (by decide +kernel) rfl
theorem m1111 : Cond.code yX11_tape cX11_tape 5 (some .int) ∈ gW := gW_of (i := 1111) (by decide +kernel) rfl
theorem cv_L_160 : CWV RL 160 qX11_tape 3 := ⟨m1108, m1109, m1110, m72, m1111, ⟨⟨by decide +kernel, by decide +kernel, by decide +kernel⟩, by decide⟩⟩
theorem m1686 : Cond.methodLink RL 163 yX12_tape ∈ gW := gW_of (i := 1686) (by decide +kernel) rfl
theorem m1687 : Cond.instanceMethod yX12_tape ∈ gW := gW_of (i := 1687) (by decide +kernel) rfl
theorem m1688 : Cond.selects RX12 yX12_tape yX12_tape ∈ gW := gW_of (i := 1688) (by decide +kernel) rfl
theorem m1689 : Cond.code yX12_tape cX12_tape 5 (some .int) ∈ gW := gW_of (i := 1689) (by decide +kernel) rfl
theorem cv_L_163 : CWV RL 163 qX12_tape 3 := ⟨m1686, m1687, m1688, m81, m1689, ⟨⟨by decide +kernel, by decide +kernel, by decide +kernel⟩, by decide⟩⟩
abbrev qX11_item : QM := (yX11_item, cX11_item, 6, some .int)
theorem m1121 : Cond.methodLink RL 166 yX11_item ∈ gW := gW_of (i := 1121) (by decide +kernel) rfl
theorem m1122 : Cond.instanceMethod yX11_item ∈ gW := gW_of (i := 1122) (by decide +kernel) rfl
theorem m1123 : Cond.selects RX11 yX11_item yX11_item ∈ gW := gW_of (i := 1123) (by decide +kernel) rfl
theorem m1124 : Cond.code yX11_item cX11_item 6 (some .int) ∈ gW := gW_of (i := 1124) (by decide +kernel) rfl
theorem cv_L_166 : CWV RL 166 qX11_item 3 := ⟨m1121, m1122, m1123, m72, m1124, ⟨⟨by decide +kernel, by decide +kernel, by decide +kernel⟩, by decide⟩⟩
theorem m1690 : Cond.methodLink RL 170 yX12_item ∈ gW := gW_of (i := 1690) (by decide +kernel) rfl
theorem m1691 : Cond.instanceMethod yX12_item ∈ gW := gW_of (i := 1691) (by decide +kernel) rfl
theorem m1692 : Cond.selects RX12 yX12_item yX12_item ∈ gW := gW_of (i := 1692) (by decide +kernel) rfl
theorem m1693 : Cond.code yX12_item cX12_item 5 (some .int) ∈ gW := gW_of (i := 1693) (by decide +kernel) rfl
theorem cv_L_170 : CWV RL 170 qX12_item 3 := ⟨m1690, m1691, m1692, m81, m1693, ⟨⟨by decide +kernel, by decide +kernel, by decide +kernel⟩, by decide⟩⟩
abbrev qX11_read : QM := (yX11_read, cX11_read, 4, some .long)
theorem m1133 : Cond.methodLink RL 171 yX11_read ∈ gW := gW_of (i := 1133) (by decide +kernel) rfl
theorem m1134 : Cond.instanceMethod yX11_read ∈ gW := gW_of (i := 1134) (by decide +kernel) rfl
theorem m1135 : Cond.selects RX11 yX11_read yX11_read ∈ gW := gW_of (i := 1135) (by decide +kernel) rfl
theorem m1136 : Cond.code yX11_read cX11_read 4 (some .long) ∈ gW := gW_of (i := 1136) (by decide +kernel) rfl
theorem cv_L_171 : CWV RL 171 qX11_read 2 := ⟨m1133, m1134, m1135, m72, m1136, ⟨⟨by decide +kernel, by decide +kernel, by decide +kernel⟩, by decide⟩⟩
theorem m1698 : Cond.methodLink RL 174 yX12_read ∈ gW := gW_of (i := 1698) (by decide +kernel) rfl
theorem m1699 : Cond.instanceMethod yX12_read ∈ gW := gW_of (i := 1699) (by decide +kernel) rfl
theorem m1700 : Cond.selects RX12 yX12_read yX12_read ∈ gW := gW_of (i := 1700) (by decide +kernel) rfl
theorem m1701 : Cond.code yX12_read cX12_read 3 (some .long) ∈ gW := gW_of (i := 1701) (by decide +kernel) rfl
theorem cv_L_174 : CWV RL 174 qX12_read 2 := ⟨m1698, m1699, m1700, m81, m1701, ⟨⟨by decide +kernel, by decide +kernel, by decide +kernel⟩, by decide⟩⟩
abbrev qX11_shift : QM := (yX11_shift, cX11_shift, 8, some .int)
theorem m1137 : Cond.methodLink RL 175 yX11_shift ∈ gW := gW_of (i := 1137) (by decide +kernel) rfl
theorem m1138 : Cond.instanceMethod yX11_shift ∈ gW := gW_of (i := 1138) (by decide +kernel) rfl
theorem m1139 : Cond.selects RX11 yX11_shift yX11_shift ∈ gW := gW_of (i := 1139) (by decide +kernel) rfl
theorem m1140 : Cond.code yX11_shift cX11_shift 8 (some .int) ∈ gW := gW_of (i := 1140) (by decide +kernel) rfl
theorem cv_L_175 : CWV RL 175 qX11_shift 5 := ⟨m1137, m1138, m1139, m72, m1140, ⟨⟨by decide +kernel, by decide +kernel, by decide +kernel⟩, by decide⟩⟩
theorem m1702 : Cond.methodLink RL 179 yX12_shift ∈ gW := gW_of (i := 1702) (by decide +kernel) rfl
theorem m1703 : Cond.instanceMethod yX12_shift ∈ gW := gW_of (i := 1703) (by decide +kernel) rfl
theorem m1704 : Cond.selects RX12 yX12_shift yX12_shift ∈ gW := gW_of (i := 1704) (by decide +kernel) rfl
theorem m1705 : Cond.code yX12_shift cX12_shift 7 (some .int) ∈ gW := gW_of (i := 1705) (by decide +kernel) rfl
theorem cv_L_179 : CWV RL 179 qX12_shift 5 := ⟨m1702, m1703, m1704, m81, m1705, ⟨⟨by decide +kernel, by decide +kernel, by decide +kernel⟩, by decide⟩⟩
theorem m242 : Cond.methodLink RJxa1e45 1 objectInit ∈ gW := gW_of (i := 242) (by decide +kernel) rfl
theorem m239 : Cond.methodLink RJxc12de 1 yJxa1e45_init_da8c8 ∈ gW := gW_of (i := 239) (by decide +kernel) rfl
abbrev qJxa1e45_init_da8c8 : QM := (yJxa1e45_init_da8c8, cJxa1e45_init_da8c8, 1, none)
theorem m240 : Cond.instanceMethod yJxa1e45_init_da8c8 ∈ gW := gW_of (i := 240) (by decide +kernel) rfl
theorem m76 : Cond.initialized RJxa1e45 ∈ gW := gW_of (i := 76) (by decide +kernel) rfl
theorem m241 : Cond.code yJxa1e45_init_da8c8 cJxa1e45_init_da8c8 1 none ∈ gW := gW_of (i := 241) (by decide +kernel) rfl
theorem ci_Jxc12de_1 : CWI RJxc12de 1 qJxa1e45_init_da8c8 0 := ⟨Or.inl m239, m240, m76, m241, ⟨⟨by decide +kernel, by decide +kernel, by decide +kernel⟩, by decide⟩, rfl, rfl⟩
theorem m236 : Cond.methodLink RJx4a65c 1 yJxc12de_init_da8c8 ∈ gW := gW_of (i := 236) (by decide +kernel) rfl
abbrev qJxc12de_init_da8c8 : QM := (yJxc12de_init_da8c8, cJxc12de_init_da8c8, 1, none)
theorem m237 : Cond.instanceMethod yJxc12de_init_da8c8 ∈ gW := gW_of (i := 237) (by decide +kernel) rfl
theorem m77 : Cond.initialized RJxc12de ∈ gW := gW_of (i := 77) (by decide +kernel) rfl
theorem m238 : Cond.code yJxc12de_init_da8c8 cJxc12de_init_da8c8 1 none ∈ gW := gW_of (i := 238) (by decide +kernel) rfl
theorem ci_Jx4a65c_1 : CWI RJx4a65c 1 qJxc12de_init_da8c8 0 := ⟨Or.inl m236, m237, m77, m238, ⟨⟨by decide +kernel, by decide +kernel, by decide +kernel⟩, by decide⟩, rfl, rfl⟩
theorem m967 : Cond.methodLink RJx4a65c 66 yJ7_copyOf_1904c ∈ gW := gW_of (i := 967) (by decide +kernel) rfl
abbrev qJ7_copyOf_1904c : QM := (yJ7_copyOf_1904c, cJ7_copyOf_1904c, 2, some (.array (.object "java/lang/Object")))
theorem m968 : Cond.static yJ7_copyOf_1904c ∈ gW := gW_of (i := 968) (by decide +kernel) rfl
theorem m969 : Cond.code yJ7_copyOf_1904c cJ7_copyOf_1904c 2 (some (.array (.object "java/lang/Object"))) ∈ gW := gW_of (i := 969) (by decide +kernel) rfl
theorem cs_Jx4a65c_66 : CWS RJx4a65c 66 qJ7_copyOf_1904c 2 := ⟨Or.inl m967, m968, m99, m969, ⟨⟨by decide +kernel, by decide +kernel, by decide +kernel⟩, by decide⟩⟩
abbrev qJx4a65c_grow_92f84 : QM := (yJx4a65c_grow_92f84, cJx4a65c_grow_92f84, 4, some (.array (.object "java/lang/Object")))
theorem m955 : Cond.methodLink RJx4a65c 69 yJx4a65c_grow_92f84 ∈ gW := gW_of (i := 955) (by decide +kernel) rfl
theorem m957 : Cond.instanceMethod yJx4a65c_grow_92f84 ∈ gW := gW_of (i := 957) (by decide +kernel) rfl
theorem m19 : Cond.selects RJx4a65c yJx4a65c_grow_92f84 yJx4a65c_grow_92f84 ∈ gW := gW_of (i := 19) (by decide +kernel) rfl
theorem m958 : Cond.code yJx4a65c_grow_92f84 cJx4a65c_grow_92f84 4 (some (.array (.object "java/lang/Object"))) ∈ gW := gW_of (i := 958) (by decide +kernel) rfl
theorem cv_Jx4a65c_69 : CWV RJx4a65c 69 qJx4a65c_grow_92f84 1 := ⟨m955, m957, m19, m78, m958, ⟨⟨by decide +kernel, by decide +kernel, by decide +kernel⟩, by decide⟩⟩
theorem m959 : Cond.methodLink RJx4a65c 73 yJ8_newLength_cabcc ∈ gW := gW_of (i := 959) (by decide +kernel) rfl
abbrev qJ8_newLength_cabcc : QM := (yJ8_newLength_cabcc, cJ8_newLength_cabcc, 4, some .int)
theorem m960 : Cond.static yJ8_newLength_cabcc ∈ gW := gW_of (i := 960) (by decide +kernel) rfl
theorem m98 : Cond.initialized RJ8 ∈ gW := gW_of (i := 98) (by decide +kernel) rfl
theorem m961 : Cond.code yJ8_newLength_cabcc cJ8_newLength_cabcc 4 (some .int) ∈ gW := gW_of (i := 961) (by decide +kernel) rfl
theorem cs_Jx4a65c_73 : CWS RJx4a65c 73 qJ8_newLength_cabcc 3 := ⟨Or.inl m959, m960, m98, m961, ⟨⟨by decide +kernel, by decide +kernel, by decide +kernel⟩, by decide⟩⟩
theorem m997 : Cond.methodLink RJx4a65c 79 yJ9_max_7cf53 ∈ gW := gW_of (i := 997) (by decide +kernel) rfl
theorem cs_Jx4a65c_79 : CWS RJx4a65c 79 qJ9_max_7cf53 2 := ⟨Or.inl m997, m485, m89, m486, ⟨⟨by decide +kernel, by decide +kernel, by decide +kernel⟩, by decide⟩⟩
theorem m1084 : Cond.methodLink RJx4a65c 118 yJ15_checkIndex_7cf53 ∈ gW := gW_of (i := 1084) (by decide +kernel) rfl
abbrev qJ15_checkIndex_7cf53 : QM := (yJ15_checkIndex_7cf53, cJ15_checkIndex_7cf53, 2, some .int)
theorem m1085 : Cond.static yJ15_checkIndex_7cf53 ∈ gW := gW_of (i := 1085) (by decide +kernel) rfl
theorem m100 : Cond.initialized RJ15 ∈ gW := gW_of (i := 100) (by decide +kernel) rfl
theorem m1086 : Cond.code yJ15_checkIndex_7cf53 cJ15_checkIndex_7cf53 2 (some .int) ∈ gW := gW_of (i := 1086) (by decide +kernel) rfl
theorem cs_Jx4a65c_118 : CWS RJx4a65c 118 qJ15_checkIndex_7cf53 2 := ⟨Or.inl m1084, m1085, m100, m1086, ⟨⟨by decide +kernel, by decide +kernel, by decide +kernel⟩, by decide⟩⟩
abbrev qJx4a65c_elementData_915e3 : QM := (yJx4a65c_elementData_915e3, cJx4a65c_elementData_915e3, 2, some (.object "java/lang/Object"))
theorem m1088 : Cond.methodLink RJx4a65c 123 yJx4a65c_elementData_915e3 ∈ gW := gW_of (i := 1088) (by decide +kernel) rfl
theorem m1089 : Cond.instanceMethod yJx4a65c_elementData_915e3 ∈ gW := gW_of (i := 1089) (by decide +kernel) rfl
theorem m1090 : Cond.selects RJx4a65c yJx4a65c_elementData_915e3 yJx4a65c_elementData_915e3 ∈ gW := gW_of (i := 1090) (by decide +kernel) rfl
theorem m1091 : Cond.code yJx4a65c_elementData_915e3 cJx4a65c_elementData_915e3 2 (some (.object "java/lang/Object")) ∈ gW := gW_of (i := 1091) (by decide +kernel) rfl
theorem cv_Jx4a65c_123 : CWV RJx4a65c 123 qJx4a65c_elementData_915e3 1 := ⟨m1088, m1089, m1090, m78, m1091, ⟨⟨by decide +kernel, by decide +kernel, by decide +kernel⟩, by decide⟩⟩
abbrev qJx4a65c_grow_d5877 : QM := (yJx4a65c_grow_d5877, cJx4a65c_grow_d5877, 1, some (.array (.object "java/lang/Object")))
theorem m951 : Cond.methodLink RJx4a65c 129 yJx4a65c_grow_d5877 ∈ gW := gW_of (i := 951) (by decide +kernel) rfl
theorem m953 : Cond.instanceMethod yJx4a65c_grow_d5877 ∈ gW := gW_of (i := 953) (by decide +kernel) rfl
theorem m18 : Cond.selects RJx4a65c yJx4a65c_grow_d5877 yJx4a65c_grow_d5877 ∈ gW := gW_of (i := 18) (by decide +kernel) rfl
theorem m954 : Cond.code yJx4a65c_grow_d5877 cJx4a65c_grow_d5877 1 (some (.array (.object "java/lang/Object"))) ∈ gW := gW_of (i := 954) (by decide +kernel) rfl
theorem cv_Jx4a65c_129 : CWV RJx4a65c 129 qJx4a65c_grow_d5877 0 := ⟨m951, m953, m18, m78, m954, ⟨⟨by decide +kernel, by decide +kernel, by decide +kernel⟩, by decide⟩⟩
abbrev qJx4a65c_add_72be8 : QM := (yJx4a65c_add_72be8, cJx4a65c_add_72be8, 4, none)
theorem m947 : Cond.methodLink RJx4a65c 131 yJx4a65c_add_72be8 ∈ gW := gW_of (i := 947) (by decide +kernel) rfl
theorem m949 : Cond.instanceMethod yJx4a65c_add_72be8 ∈ gW := gW_of (i := 949) (by decide +kernel) rfl
theorem m17 : Cond.selects RJx4a65c yJx4a65c_add_72be8 yJx4a65c_add_72be8 ∈ gW := gW_of (i := 17) (by decide +kernel) rfl
theorem m950 : Cond.code yJx4a65c_add_72be8 cJx4a65c_add_72be8 4 none ∈ gW := gW_of (i := 950) (by decide +kernel) rfl
theorem cv_Jx4a65c_131 : CWV RJx4a65c 131 qJx4a65c_add_72be8 3 := ⟨m947, m949, m17, m78, m950, ⟨⟨by decide +kernel, by decide +kernel, by decide +kernel⟩, by decide⟩⟩
theorem m989 : Cond.methodLink RJ7 300 yJ7_copyOf_6403c ∈ gW := gW_of (i := 989) (by decide +kernel) rfl
abbrev qJ7_copyOf_6403c : QM := (yJ7_copyOf_6403c, cJ7_copyOf_6403c, 4, some (.array (.object "java/lang/Object")))
theorem m990 : Cond.static yJ7_copyOf_6403c ∈ gW := gW_of (i := 990) (by decide +kernel) rfl
theorem m991 : Cond.code yJ7_copyOf_6403c cJ7_copyOf_6403c 4 (some (.array (.object "java/lang/Object"))) ∈ gW := gW_of (i := 991) (by decide +kernel) rfl
theorem cs_J7_300 : CWS RJ7 300 qJ7_copyOf_6403c 3 := ⟨Or.inl m989, m990, m99, m991, ⟨⟨by decide +kernel, by decide +kernel, by decide +kernel⟩, by decide⟩⟩
theorem m995 : Cond.methodLink RJ7 304 yJ9_min_7cf53 ∈ gW := gW_of (i := 995) (by decide +kernel) rfl
theorem cs_J7_304 : CWS RJ7 304 qJ9_min_7cf53 2 := ⟨Or.inl m995, m459, m89, m460, ⟨⟨by decide +kernel, by decide +kernel, by decide +kernel⟩, by decide⟩⟩
theorem m109 : Cond.classLink RX11 9 RX4 ∈ gW := gW_of (i := 109) (by decide +kernel) rfl
theorem m209 : Cond.classLink RX11 24 RX7 ∈ gW := gW_of (i := 209) (by decide +kernel) rfl
theorem m227 : Cond.classLink RX11 31 RX0 ∈ gW := gW_of (i := 227) (by decide +kernel) rfl
theorem m229 : Cond.classLink RX11 37 RX6 ∈ gW := gW_of (i := 229) (by decide +kernel) rfl
theorem m231 : Cond.classLink RX11 43 RJx4a65c ∈ gW := gW_of (i := 231) (by decide +kernel) rfl
theorem m257 : Cond.classLink RX11 57 "[[I" ∈ gW := gW_of (i := 257) (by decide +kernel) rfl
theorem m438 : Cond.classLink RX11 95 RX3 ∈ gW := gW_of (i := 438) (by decide +kernel) rfl
theorem m428 : Cond.classLink RX11 125 RX10 ∈ gW := gW_of (i := 428) (by decide +kernel) rfl
theorem m785 : Cond.constant RX11 174 (-1000001) ∈ gW := gW_of (i := 785) (by decide +kernel) rfl
theorem m843 : Cond.constant RX11 199 (-1000002) ∈ gW := gW_of (i := 843) (by decide +kernel) rfl
theorem m822 : Cond.constant RX11 200 1000000 ∈ gW := gW_of (i := 822) (by decide +kernel) rfl
theorem m860 : Cond.constantLong RX11 213 (-9223372036854775808) ∈ gW := gW_of (i := 860) (by decide +kernel) rfl
theorem m861 : Cond.constantLong RX11 215 3000000 ∈ gW := gW_of (i := 861) (by decide +kernel) rfl
theorem m1092 : Cond.classLink RX11 277 RJ6 ∈ gW := gW_of (i := 1092) (by decide +kernel) rfl
theorem m350 : Cond.classLink RX11 301 RX1 ∈ gW := gW_of (i := 350) (by decide +kernel) rfl
theorem m388 : Cond.classLink RX11 306 RX8 ∈ gW := gW_of (i := 388) (by decide +kernel) rfl
theorem m398 : Cond.classLink RX11 309 RX9 ∈ gW := gW_of (i := 398) (by decide +kernel) rfl
theorem m408 : Cond.classLink RX11 312 RX2 ∈ gW := gW_of (i := 408) (by decide +kernel) rfl
theorem m418 : Cond.classLink RX11 315 RX5 ∈ gW := gW_of (i := 418) (by decide +kernel) rfl
theorem m826 : Cond.constantLong RX11 328 1000000 ∈ gW := gW_of (i := 826) (by decide +kernel) rfl
theorem m115 : Cond.classLink RX4 9 RX3 ∈ gW := gW_of (i := 115) (by decide +kernel) rfl
theorem m898 : Cond.constantLong RX6 41 (-9223372036854775808) ∈ gW := gW_of (i := 898) (by decide +kernel) rfl
theorem m101 : Cond.classLink RL 7 RX11 ∈ gW := gW_of (i := 101) (by decide +kernel) rfl
theorem m1150 : Cond.classLink RL 10 RX12 ∈ gW := gW_of (i := 1150) (by decide +kernel) rfl
theorem m1706 : Cond.constantLong RL 164 4294967295 ∈ gW := gW_of (i := 1706) (by decide +kernel) rfl
theorem m998 : Cond.classLink RJx4a65c 7 "java/lang/Object" ∈ gW := gW_of (i := 998) (by decide +kernel) rfl
theorem m994 : Cond.classLink RJ7 2 "java/lang/Object" ∈ gW := gW_of (i := 994) (by decide +kernel) rfl
theorem m992 : Cond.classLink RJ7 110 "[Ljava/lang/Object;" ∈ gW := gW_of (i := 992) (by decide +kernel) rfl
theorem m259 : Cond.instantiable RX0 6 ∈ gW := gW_of (i := 259) (by decide +kernel) rfl
theorem m351 : Cond.instantiable RX1 3 ∈ gW := gW_of (i := 351) (by decide +kernel) rfl
theorem m409 : Cond.instantiable RX2 3 ∈ gW := gW_of (i := 409) (by decide +kernel) rfl
theorem m439 : Cond.instantiable RX3 3 ∈ gW := gW_of (i := 439) (by decide +kernel) rfl
theorem m110 : Cond.instantiable RX4 17 ∈ gW := gW_of (i := 110) (by decide +kernel) rfl
theorem m419 : Cond.instantiable RX5 3 ∈ gW := gW_of (i := 419) (by decide +kernel) rfl
theorem m283 : Cond.instantiable RX6 3 ∈ gW := gW_of (i := 283) (by decide +kernel) rfl
theorem m210 : Cond.instantiable RX7 3 ∈ gW := gW_of (i := 210) (by decide +kernel) rfl
theorem m389 : Cond.instantiable RX8 3 ∈ gW := gW_of (i := 389) (by decide +kernel) rfl
theorem m399 : Cond.instantiable RX9 3 ∈ gW := gW_of (i := 399) (by decide +kernel) rfl
theorem m429 : Cond.instantiable RX10 3 ∈ gW := gW_of (i := 429) (by decide +kernel) rfl
theorem m102 : Cond.instantiable RX11 13 ∈ gW := gW_of (i := 102) (by decide +kernel) rfl
theorem m232 : Cond.instantiable RJx4a65c 3 ∈ gW := gW_of (i := 232) (by decide +kernel) rfl
