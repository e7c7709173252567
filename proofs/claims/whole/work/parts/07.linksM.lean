theorem m1156 : Cond.fieldLink RX12 7 "TwoServesModel" "servers" "I" ∈ gW := gW_of (i := 1156) (by decide +kernel) rfl
theorem uw_X12 : ∀ x ∈ u_ws RX12 TX12 63, x ∈ gW := by
  show ∀ x ∈ [u_lay RX12 TX12 0, u_lay RX12 TX12 1, u_lay RX12 TX12 2, u_lay RX12 TX12 3, u_lay RX12 TX12 4, u_lay RX12 TX12 5, u_lay RX12 TX12 6, u_lay RX12 TX12 7, u_lay RX12 TX12 8, u_lay RX12 TX12 9, u_lay RX12 TX12 10, u_lay RX12 TX12 11, u_lay RX12 TX12 12, u_lay RX12 TX12 13, u_lay RX12 TX12 14, u_lay RX12 TX12 15, u_lay RX12 TX12 16, u_lay RX12 TX12 17, u_lay RX12 TX12 18, u_lay RX12 TX12 19, u_lay RX12 TX12 20, u_lay RX12 TX12 21, u_lay RX12 TX12 22, u_lay RX12 TX12 23, u_lay RX12 TX12 24, u_lay RX12 TX12 25, u_lay RX12 TX12 26, u_lay RX12 TX12 27, u_lay RX12 TX12 28, u_lay RX12 TX12 29, u_lay RX12 TX12 30, u_lay RX12 TX12 31, u_lay RX12 TX12 32, u_lay RX12 TX12 33, u_lay RX12 TX12 34, u_lay RX12 TX12 35, u_lay RX12 TX12 36, u_lay RX12 TX12 37, u_lay RX12 TX12 38, u_lay RX12 TX12 39, u_lay RX12 TX12 40, u_lay RX12 TX12 41, u_lay RX12 TX12 42, u_lay RX12 TX12 43, u_lay RX12 TX12 44, u_lay RX12 TX12 45, u_lay RX12 TX12 46, u_lay RX12 TX12 47, u_lay RX12 TX12 48, u_lay RX12 TX12 49, u_lay RX12 TX12 50, u_lay RX12 TX12 51, u_lay RX12 TX12 52, u_lay RX12 TX12 53, u_lay RX12 TX12 54, u_lay RX12 TX12 55, u_lay RX12 TX12 56, u_lay RX12 TX12 57, u_lay RX12 TX12 58, u_lay RX12 TX12 59, u_lay RX12 TX12 60, u_lay RX12 TX12 61, u_lay RX12 TX12 62], x ∈ gW
  exact List.forall_mem_cons.mpr ⟨gW_of (i := 1219) (by decide +kernel) (by decide +kernel), List.forall_mem_cons.mpr ⟨gW_of (i := 1221) (by decide +kernel) (by decide +kernel), List.forall_mem_cons.mpr ⟨gW_of (i := 1223) (by decide +kernel) (by decide +kernel), List.forall_mem_cons.mpr ⟨gW_of (i := 1225) (by decide +kernel) (by decide +kernel), List.forall_mem_cons.mpr ⟨gW_of (i := 1227) (by decide +kernel) (by decide +kernel), List.forall_mem_cons.mpr ⟨gW_of (i := 1229) (by decide +kernel) (by decide +kernel), List.forall_mem_cons.mpr ⟨gW_of (i := 1231) (by decide +kernel) (by decide +kernel), List.forall_mem_cons.mpr ⟨gW_of (i := 1233) (by decide +kernel) (by decide +kernel), List.forall_mem_cons.mpr ⟨gW_of (i := 1235) (by decide +kernel) (by decide +kernel), List.forall_mem_cons.mpr ⟨gW_of (i := 1237) (by decide +kernel) (by decide +kernel), List.forall_mem_cons.mpr ⟨gW_of (i := 1239) (by decide +kernel) (by decide +kernel), List.forall_mem_cons.mpr ⟨gW_of (i := 1241) (by decide +kernel) (by decide +kernel), List.forall_mem_cons.mpr ⟨gW_of (i := 1243) (by decide +kernel) (by decide +kernel), List.forall_mem_cons.mpr ⟨gW_of (i := 1245) (by decide +kernel) (by decide +kernel), List.forall_mem_cons.mpr ⟨gW_of (i := 1247) (by decide +kernel) (by decide +kernel), List.forall_mem_cons.mpr ⟨gW_of (i := 1249) (by decide +kernel) (by decide +kernel), List.forall_mem_cons.mpr ⟨gW_of (i := 1251) (by decide +kernel) (by decide +kernel), List.forall_mem_cons.mpr ⟨gW_of (i := 1253) (by decide +kernel) (by decide +kernel), List.forall_mem_cons.mpr ⟨gW_of (i := 1255) (by decide +kernel) (by decide +kernel), List.forall_mem_cons.mpr ⟨gW_of (i := 1257) (by decide +kernel) (by decide +kernel), List.forall_mem_cons.mpr ⟨gW_of (i := 1259) (by decide +kernel) (by decide +kernel), List.forall_mem_cons.mpr ⟨gW_of (i := 1261) (by decide +kernel) (by decide +kernel), List.forall_mem_cons.mpr ⟨gW_of (i := 1263) (by decide +kernel) (by decide +kernel), List.forall_mem_cons.mpr ⟨gW_of (i := 1265) (by decide +kernel) (by decide +kernel), List.forall_mem_cons.mpr ⟨gW_of (i := 1267) (by decide +kernel) (by decide +kernel), List.forall_mem_cons.mpr ⟨gW_of (i := 1269) (by decide +kernel) (by decide +kernel), List.forall_mem_cons.mpr ⟨gW_of (i := 1271) (by decide +kernel) (by decide +kernel), List.forall_mem_cons.mpr ⟨gW_of (i := 1273) (by decide +kernel) (by decide +kernel), List.forall_mem_cons.mpr ⟨gW_of (i := 1275) (by decide +kernel) (by decide +kernel), List.forall_mem_cons.mpr ⟨gW_of (i := 1277) (by decide +kernel) (by decide +kernel), List.forall_mem_cons.mpr ⟨gW_of (i := 1279) (by decide +kernel) (by decide +kernel), List.forall_mem_cons.mpr ⟨gW_of (i := 1281) (by decide +kernel) (by decide +kernel), List.forall_mem_cons.mpr ⟨gW_of (i := 1283) (by decide +kernel) (by decide +kernel), List.forall_mem_cons.mpr ⟨gW_of (i := 1285) (by decide +kernel) (by decide +kernel), List.forall_mem_cons.mpr ⟨gW_of (i := 1287) (by decide +kernel) (by decide +kernel), List.forall_mem_cons.mpr ⟨gW_of (i := 1289) (by decide +kernel) (by decide +kernel), List.forall_mem_cons.mpr ⟨gW_of (i := 1291) (by decide +kernel) (by decide +kernel), List.forall_mem_cons.mpr ⟨gW_of (i := 1293) (by decide +kernel) (by decide +kernel), List.forall_mem_cons.mpr ⟨gW_of (i := 1295) (by decide +kernel) (by decide +kernel), List.forall_mem_cons.mpr ⟨gW_of (i := 1297) (by decide +kernel) (by decide +kernel), List.forall_mem_cons.mpr ⟨gW_of (i := 1299) (by decide +kernel) (by decide +kernel), List.forall_mem_cons.mpr ⟨gW_of (i := 1301) (by decide +kernel) (by decide +kernel), List.forall_mem_cons.mpr ⟨gW_of (i := 1303) (by decide +kernel) (by decide +kernel), List.forall_mem_cons.mpr ⟨gW_of (i := 1305) (by decide +kernel) (by decide +kernel), List.forall_mem_cons.mpr ⟨gW_of (i := 1307) (by decide +kernel) (by decide +kernel), List.forall_mem_cons.mpr ⟨gW_of (i := 1309) (by decide +kernel) (by decide +kernel), List.forall_mem_cons.mpr ⟨gW_of (i := 1311) (by decide +kernel) (by decide +kernel), List.forall_mem_cons.mpr ⟨gW_of (i := 1313) (by decide +kernel) (by decide +kernel), List.forall_mem_cons.mpr ⟨gW_of (i := 1315) (by decide +kernel) (by decide +kernel), List.forall_mem_cons.mpr ⟨gW_of (i := 1317) (by decide +kernel) (by decide +kernel), List.forall_mem_cons.mpr ⟨gW_of (i := 1319) (by decide +kernel) (by decide +kernel), List.forall_mem_cons.mpr ⟨gW_of (i := 1321) (by decide +kernel) (by decide +kernel), List.forall_mem_cons.mpr ⟨gW_of (i := 1323) (by decide +kernel) (by decide +kernel), List.forall_mem_cons.mpr ⟨gW_of (i := 1325) (by decide +kernel) (by decide +kernel), List.forall_mem_cons.mpr ⟨gW_of (i := 1327) (by decide +kernel) (by decide +kernel), List.forall_mem_cons.mpr ⟨gW_of (i := 1329) (by decide +kernel) (by decide +kernel), List.forall_mem_cons.mpr ⟨gW_of (i := 1331) (by decide +kernel) (by decide +kernel), List.forall_mem_cons.mpr ⟨gW_of (i := 1333) (by decide +kernel) (by decide +kernel), List.forall_mem_cons.mpr ⟨gW_of (i := 1335) (by decide +kernel) (by decide +kernel), List.forall_mem_cons.mpr ⟨gW_of (i := 1337) (by decide +kernel) (by decide +kernel), List.forall_mem_cons.mpr ⟨gW_of (i := 1339) (by decide +kernel) (by decide +kernel), List.forall_mem_cons.mpr ⟨gW_of (i := 1341) (by decide +kernel) (by decide +kernel), List.forall_mem_cons.mpr ⟨gW_of (i := 1343) (by decide +kernel) (by decide +kernel), fun _ h => nomatch h⟩⟩⟩⟩⟩⟩⟩⟩⟩⟩⟩⟩⟩⟩⟩⟩⟩⟩⟩⟩⟩⟩⟩⟩⟩⟩⟩⟩⟩⟩⟩⟩⟩⟩⟩⟩⟩⟩⟩⟩⟩⟩⟩⟩⟩⟩⟩⟩⟩⟩⟩⟩⟩⟩⟩⟩⟩⟩⟩⟩⟩⟩⟩
theorem fl_X12_7_14 : FL RX12 7 14 0 RX12 TX12 63 := ⟨rfl, by decide, uw_X12, "TwoServesModel", m1156, Or.inl rfl⟩
theorem m1157 : Cond.fieldLink RX12 13 "TwoServesModel" "won" "I" ∈ gW := gW_of (i := 1157) (by decide +kernel) rfl
theorem fl_X12_13_14 : FL RX12 13 14 1 RX12 TX12 63 := ⟨rfl, by decide, uw_X12, "TwoServesModel", m1157, Or.inl rfl⟩
theorem m1158 : Cond.fieldLink RX12 16 "TwoServesModel" "lost" "I" ∈ gW := gW_of (i := 1158) (by decide +kernel) rfl
theorem fl_X12_16_14 : FL RX12 16 14 2 RX12 TX12 63 := ⟨rfl, by decide, uw_X12, "TwoServesModel", m1158, Or.inl rfl⟩
theorem m1159 : Cond.fieldLink RX12 19 "TwoServesModel" "stance" "I" ∈ gW := gW_of (i := 1159) (by decide +kernel) rfl
theorem fl_X12_19_14 : FL RX12 19 14 3 RX12 TX12 63 := ⟨rfl, by decide, uw_X12, "TwoServesModel", m1159, Or.inl rfl⟩
theorem m1160 : Cond.fieldLink RX12 22 "TwoServesModel" "kind" "[I" ∈ gW := gW_of (i := 1160) (by decide +kernel) rfl
theorem fl_X12_22_14 : FL RX12 22 14 4 RX12 TX12 63 := ⟨rfl, by decide, uw_X12, "TwoServesModel", m1160, Or.inl rfl⟩
theorem m1161 : Cond.fieldLink RX12 26 "TwoServesModel" "v" "[I" ∈ gW := gW_of (i := 1161) (by decide +kernel) rfl
theorem fl_X12_26_14 : FL RX12 26 14 5 RX12 TX12 63 := ⟨rfl, by decide, uw_X12, "TwoServesModel", m1161, Or.inl rfl⟩
theorem m1162 : Cond.fieldLink RX12 29 "TwoServesModel" "hard" "[I" ∈ gW := gW_of (i := 1162) (by decide +kernel) rfl
theorem fl_X12_29_14 : FL RX12 29 14 6 RX12 TX12 63 := ⟨rfl, by decide, uw_X12, "TwoServesModel", m1162, Or.inl rfl⟩
theorem m1163 : Cond.fieldLink RX12 32 "TwoServesModel" "soft" "[I" ∈ gW := gW_of (i := 1163) (by decide +kernel) rfl
theorem fl_X12_32_14 : FL RX12 32 14 7 RX12 TX12 63 := ⟨rfl, by decide, uw_X12, "TwoServesModel", m1163, Or.inl rfl⟩
theorem m1164 : Cond.fieldLink RX12 35 "TwoServesModel" "served" "[I" ∈ gW := gW_of (i := 1164) (by decide +kernel) rfl
theorem fl_X12_35_14 : FL RX12 35 14 8 RX12 TX12 63 := ⟨rfl, by decide, uw_X12, "TwoServesModel", m1164, Or.inl rfl⟩
theorem m1165 : Cond.fieldLink RX12 38 "TwoServesModel" "rows" "[I" ∈ gW := gW_of (i := 1165) (by decide +kernel) rfl
theorem fl_X12_38_14 : FL RX12 38 14 9 RX12 TX12 63 := ⟨rfl, by decide, uw_X12, "TwoServesModel", m1165, Or.inl rfl⟩
theorem m1166 : Cond.fieldLink RX12 41 "TwoServesModel" "courts" "I" ∈ gW := gW_of (i := 1166) (by decide +kernel) rfl
theorem fl_X12_41_14 : FL RX12 41 14 10 RX12 TX12 63 := ⟨rfl, by decide, uw_X12, "TwoServesModel", m1166, Or.inl rfl⟩
theorem m1167 : Cond.fieldLink RX12 44 "TwoServesModel" "the" "I" ∈ gW := gW_of (i := 1167) (by decide +kernel) rfl
theorem fl_X12_44_14 : FL RX12 44 14 11 RX12 TX12 63 := ⟨rfl, by decide, uw_X12, "TwoServesModel", m1167, Or.inl rfl⟩
theorem m1168 : Cond.fieldLink RX12 47 "TwoServesModel" "fed" "I" ∈ gW := gW_of (i := 1168) (by decide +kernel) rfl
theorem fl_X12_47_14 : FL RX12 47 14 12 RX12 TX12 63 := ⟨rfl, by decide, uw_X12, "TwoServesModel", m1168, Or.inl rfl⟩
theorem m1169 : Cond.fieldLink RX12 50 "TwoServesModel" "at" "I" ∈ gW := gW_of (i := 1169) (by decide +kernel) rfl
theorem fl_X12_50_14 : FL RX12 50 14 13 RX12 TX12 63 := ⟨rfl, by decide, uw_X12, "TwoServesModel", m1169, Or.inl rfl⟩
theorem m1170 : Cond.fieldLink RX12 53 "TwoServesModel" "digits" "I" ∈ gW := gW_of (i := 1170) (by decide +kernel) rfl
theorem fl_X12_53_14 : FL RX12 53 14 14 RX12 TX12 63 := ⟨rfl, by decide, uw_X12, "TwoServesModel", m1170, Or.inl rfl⟩
theorem m1171 : Cond.fieldLink RX12 56 "TwoServesModel" "text" "[I" ∈ gW := gW_of (i := 1171) (by decide +kernel) rfl
theorem fl_X12_56_14 : FL RX12 56 14 15 RX12 TX12 63 := ⟨rfl, by decide, uw_X12, "TwoServesModel", m1171, Or.inl rfl⟩
theorem m1172 : Cond.fieldLink RX12 59 "TwoServesModel" "clauses" "[I" ∈ gW := gW_of (i := 1172) (by decide +kernel) rfl
theorem fl_X12_59_14 : FL RX12 59 14 16 RX12 TX12 63 := ⟨rfl, by decide, uw_X12, "TwoServesModel", m1172, Or.inl rfl⟩
theorem m1173 : Cond.fieldLink RX12 62 "TwoServesModel" "word" "[I" ∈ gW := gW_of (i := 1173) (by decide +kernel) rfl
theorem fl_X12_62_14 : FL RX12 62 14 17 RX12 TX12 63 := ⟨rfl, by decide, uw_X12, "TwoServesModel", m1173, Or.inl rfl⟩
theorem m1174 : Cond.fieldLink RX12 65 "TwoServesModel" "number" "[I" ∈ gW := gW_of (i := 1174) (by decide +kernel) rfl
theorem fl_X12_65_14 : FL RX12 65 14 18 RX12 TX12 63 := ⟨rfl, by decide, uw_X12, "TwoServesModel", m1174, Or.inl rfl⟩
theorem m1175 : Cond.fieldLink RX12 68 "TwoServesModel" "from" "[I" ∈ gW := gW_of (i := 1175) (by decide +kernel) rfl
theorem fl_X12_68_14 : FL RX12 68 14 19 RX12 TX12 63 := ⟨rfl, by decide, uw_X12, "TwoServesModel", m1175, Or.inl rfl⟩
theorem m1176 : Cond.fieldLink RX12 71 "TwoServesModel" "to" "[I" ∈ gW := gW_of (i := 1176) (by decide +kernel) rfl
theorem fl_X12_71_14 : FL RX12 71 14 20 RX12 TX12 63 := ⟨rfl, by decide, uw_X12, "TwoServesModel", m1176, Or.inl rfl⟩
theorem m1177 : Cond.fieldLink RX12 74 "TwoServesModel" "sign" "[I" ∈ gW := gW_of (i := 1177) (by decide +kernel) rfl
theorem fl_X12_74_14 : FL RX12 74 14 21 RX12 TX12 63 := ⟨rfl, by decide, uw_X12, "TwoServesModel", m1177, Or.inl rfl⟩
theorem m1178 : Cond.fieldLink RX12 77 "TwoServesModel" "waits" "[I" ∈ gW := gW_of (i := 1178) (by decide +kernel) rfl
theorem fl_X12_77_14 : FL RX12 77 14 22 RX12 TX12 63 := ⟨rfl, by decide, uw_X12, "TwoServesModel", m1178, Or.inl rfl⟩
theorem m1179 : Cond.fieldLink RX12 80 "TwoServesModel" "signs" "I" ∈ gW := gW_of (i := 1179) (by decide +kernel) rfl
theorem fl_X12_80_14 : FL RX12 80 14 23 RX12 TX12 63 := ⟨rfl, by decide, uw_X12, "TwoServesModel", m1179, Or.inl rfl⟩
theorem m1180 : Cond.fieldLink RX12 83 "TwoServesModel" "waiting" "I" ∈ gW := gW_of (i := 1180) (by decide +kernel) rfl
theorem fl_X12_83_14 : FL RX12 83 14 24 RX12 TX12 63 := ⟨rfl, by decide, uw_X12, "TwoServesModel", m1180, Or.inl rfl⟩
theorem m1181 : Cond.fieldLink RX12 86 "TwoServesModel" "open" "I" ∈ gW := gW_of (i := 1181) (by decide +kernel) rfl
theorem fl_X12_86_14 : FL RX12 86 14 25 RX12 TX12 63 := ⟨rfl, by decide, uw_X12, "TwoServesModel", m1181, Or.inl rfl⟩
theorem m1182 : Cond.fieldLink RX12 89 "TwoServesModel" "letters" "[I" ∈ gW := gW_of (i := 1182) (by decide +kernel) rfl
theorem fl_X12_89_14 : FL RX12 89 14 26 RX12 TX12 63 := ⟨rfl, by decide, uw_X12, "TwoServesModel", m1182, Or.inl rfl⟩
theorem m1183 : Cond.fieldLink RX12 92 "TwoServesModel" "pile" "[Z" ∈ gW := gW_of (i := 1183) (by decide +kernel) rfl
theorem fl_X12_92_14 : FL RX12 92 14 27 RX12 TX12 63 := ⟨rfl, by decide, uw_X12, "TwoServesModel", m1183, Or.inl rfl⟩
theorem m1184 : Cond.fieldLink RX12 96 "TwoServesModel" "games" "[I" ∈ gW := gW_of (i := 1184) (by decide +kernel) rfl
theorem fl_X12_96_14 : FL RX12 96 14 28 RX12 TX12 63 := ⟨rfl, by decide, uw_X12, "TwoServesModel", m1184, Or.inl rfl⟩
theorem m1185 : Cond.fieldLink RX12 99 "TwoServesModel" "matches" "[I" ∈ gW := gW_of (i := 1185) (by decide +kernel) rfl
theorem fl_X12_99_14 : FL RX12 99 14 29 RX12 TX12 63 := ⟨rfl, by decide, uw_X12, "TwoServesModel", m1185, Or.inl rfl⟩
theorem m1186 : Cond.fieldLink RX12 102 "TwoServesModel" "seen" "I" ∈ gW := gW_of (i := 1186) (by decide +kernel) rfl
theorem fl_X12_102_14 : FL RX12 102 14 30 RX12 TX12 63 := ⟨rfl, by decide, uw_X12, "TwoServesModel", m1186, Or.inl rfl⟩
theorem m1187 : Cond.fieldLink RX12 105 "TwoServesModel" "seenOne" "[I" ∈ gW := gW_of (i := 1187) (by decide +kernel) rfl
theorem fl_X12_105_14 : FL RX12 105 14 31 RX12 TX12 63 := ⟨rfl, by decide, uw_X12, "TwoServesModel", m1187, Or.inl rfl⟩
theorem m1188 : Cond.fieldLink RX12 108 "TwoServesModel" "seenTwo" "[I" ∈ gW := gW_of (i := 1188) (by decide +kernel) rfl
theorem fl_X12_108_14 : FL RX12 108 14 32 RX12 TX12 63 := ⟨rfl, by decide, uw_X12, "TwoServesModel", m1188, Or.inl rfl⟩
theorem m1189 : Cond.fieldLink RX12 111 "TwoServesModel" "books" "I" ∈ gW := gW_of (i := 1189) (by decide +kernel) rfl
theorem fl_X12_111_14 : FL RX12 111 14 33 RX12 TX12 63 := ⟨rfl, by decide, uw_X12, "TwoServesModel", m1189, Or.inl rfl⟩
theorem m1190 : Cond.fieldLink RX12 114 "TwoServesModel" "bookWho" "[I" ∈ gW := gW_of (i := 1190) (by decide +kernel) rfl
theorem fl_X12_114_14 : FL RX12 114 14 34 RX12 TX12 63 := ⟨rfl, by decide, uw_X12, "TwoServesModel", m1190, Or.inl rfl⟩
theorem m1191 : Cond.fieldLink RX12 117 "TwoServesModel" "bookOne" "[I" ∈ gW := gW_of (i := 1191) (by decide +kernel) rfl
theorem fl_X12_117_14 : FL RX12 117 14 35 RX12 TX12 63 := ⟨rfl, by decide, uw_X12, "TwoServesModel", m1191, Or.inl rfl⟩
theorem m1192 : Cond.fieldLink RX12 120 "TwoServesModel" "bookTwo" "[I" ∈ gW := gW_of (i := 1192) (by decide +kernel) rfl
theorem fl_X12_120_14 : FL RX12 120 14 36 RX12 TX12 63 := ⟨rfl, by decide, uw_X12, "TwoServesModel", m1192, Or.inl rfl⟩
theorem m1193 : Cond.fieldLink RX12 123 "TwoServesModel" "keptServed" "[I" ∈ gW := gW_of (i := 1193) (by decide +kernel) rfl
theorem fl_X12_123_14 : FL RX12 123 14 37 RX12 TX12 63 := ⟨rfl, by decide, uw_X12, "TwoServesModel", m1193, Or.inl rfl⟩
theorem m1194 : Cond.fieldLink RX12 126 "TwoServesModel" "hasImage" "Z" ∈ gW := gW_of (i := 1194) (by decide +kernel) rfl
theorem fl_X12_126_14 : FL RX12 126 14 38 RX12 TX12 63 := ⟨rfl, by decide, uw_X12, "TwoServesModel", m1194, Or.inl rfl⟩
theorem m1195 : Cond.fieldLink RX12 130 "TwoServesModel" "imageThe" "I" ∈ gW := gW_of (i := 1195) (by decide +kernel) rfl
theorem fl_X12_130_14 : FL RX12 130 14 39 RX12 TX12 63 := ⟨rfl, by decide, uw_X12, "TwoServesModel", m1195, Or.inl rfl⟩
theorem m1196 : Cond.fieldLink RX12 133 "TwoServesModel" "imageServers" "I" ∈ gW := gW_of (i := 1196) (by decide +kernel) rfl
theorem fl_X12_133_14 : FL RX12 133 14 40 RX12 TX12 63 := ⟨rfl, by decide, uw_X12, "TwoServesModel", m1196, Or.inl rfl⟩
theorem m1197 : Cond.fieldLink RX12 136 "TwoServesModel" "imageWon" "I" ∈ gW := gW_of (i := 1197) (by decide +kernel) rfl
theorem fl_X12_136_14 : FL RX12 136 14 41 RX12 TX12 63 := ⟨rfl, by decide, uw_X12, "TwoServesModel", m1197, Or.inl rfl⟩
theorem m1198 : Cond.fieldLink RX12 139 "TwoServesModel" "imageLost" "I" ∈ gW := gW_of (i := 1198) (by decide +kernel) rfl
theorem fl_X12_139_14 : FL RX12 139 14 42 RX12 TX12 63 := ⟨rfl, by decide, uw_X12, "TwoServesModel", m1198, Or.inl rfl⟩
theorem m1199 : Cond.fieldLink RX12 142 "TwoServesModel" "imageStance" "I" ∈ gW := gW_of (i := 1199) (by decide +kernel) rfl
theorem fl_X12_142_14 : FL RX12 142 14 43 RX12 TX12 63 := ⟨rfl, by decide, uw_X12, "TwoServesModel", m1199, Or.inl rfl⟩
theorem m1200 : Cond.fieldLink RX12 145 "TwoServesModel" "imageSeen" "I" ∈ gW := gW_of (i := 1200) (by decide +kernel) rfl
theorem fl_X12_145_14 : FL RX12 145 14 44 RX12 TX12 63 := ⟨rfl, by decide, uw_X12, "TwoServesModel", m1200, Or.inl rfl⟩
theorem m1201 : Cond.fieldLink RX12 148 "TwoServesModel" "imageBooks" "I" ∈ gW := gW_of (i := 1201) (by decide +kernel) rfl
theorem fl_X12_148_14 : FL RX12 148 14 45 RX12 TX12 63 := ⟨rfl, by decide, uw_X12, "TwoServesModel", m1201, Or.inl rfl⟩
theorem m1202 : Cond.fieldLink RX12 151 "TwoServesModel" "imageKind" "[I" ∈ gW := gW_of (i := 1202) (by decide +kernel) rfl
theorem fl_X12_151_14 : FL RX12 151 14 46 RX12 TX12 63 := ⟨rfl, by decide, uw_X12, "TwoServesModel", m1202, Or.inl rfl⟩
theorem m1203 : Cond.fieldLink RX12 154 "TwoServesModel" "imageV" "[I" ∈ gW := gW_of (i := 1203) (by decide +kernel) rfl
theorem fl_X12_154_14 : FL RX12 154 14 47 RX12 TX12 63 := ⟨rfl, by decide, uw_X12, "TwoServesModel", m1203, Or.inl rfl⟩
theorem m1204 : Cond.fieldLink RX12 157 "TwoServesModel" "imageHard" "[I" ∈ gW := gW_of (i := 1204) (by decide +kernel) rfl
theorem fl_X12_157_14 : FL RX12 157 14 48 RX12 TX12 63 := ⟨rfl, by decide, uw_X12, "TwoServesModel", m1204, Or.inl rfl⟩
theorem m1205 : Cond.fieldLink RX12 160 "TwoServesModel" "imageSoft" "[I" ∈ gW := gW_of (i := 1205) (by decide +kernel) rfl
theorem fl_X12_160_14 : FL RX12 160 14 49 RX12 TX12 63 := ⟨rfl, by decide, uw_X12, "TwoServesModel", m1205, Or.inl rfl⟩
theorem m1206 : Cond.fieldLink RX12 163 "TwoServesModel" "imageServed" "[I" ∈ gW := gW_of (i := 1206) (by decide +kernel) rfl
theorem fl_X12_163_14 : FL RX12 163 14 50 RX12 TX12 63 := ⟨rfl, by decide, uw_X12, "TwoServesModel", m1206, Or.inl rfl⟩
theorem m1207 : Cond.fieldLink RX12 166 "TwoServesModel" "imageRows" "[I" ∈ gW := gW_of (i := 1207) (by decide +kernel) rfl
theorem fl_X12_166_14 : FL RX12 166 14 51 RX12 TX12 63 := ⟨rfl, by decide, uw_X12, "TwoServesModel", m1207, Or.inl rfl⟩
theorem m1208 : Cond.fieldLink RX12 169 "TwoServesModel" "imageOne" "[I" ∈ gW := gW_of (i := 1208) (by decide +kernel) rfl
theorem fl_X12_169_14 : FL RX12 169 14 52 RX12 TX12 63 := ⟨rfl, by decide, uw_X12, "TwoServesModel", m1208, Or.inl rfl⟩
theorem m1209 : Cond.fieldLink RX12 172 "TwoServesModel" "imageTwo" "[I" ∈ gW := gW_of (i := 1209) (by decide +kernel) rfl
theorem fl_X12_172_14 : FL RX12 172 14 53 RX12 TX12 63 := ⟨rfl, by decide, uw_X12, "TwoServesModel", m1209, Or.inl rfl⟩
theorem m1210 : Cond.fieldLink RX12 175 "TwoServesModel" "imageWho" "[I" ∈ gW := gW_of (i := 1210) (by decide +kernel) rfl
theorem fl_X12_175_14 : FL RX12 175 14 54 RX12 TX12 63 := ⟨rfl, by decide, uw_X12, "TwoServesModel", m1210, Or.inl rfl⟩
theorem m1211 : Cond.fieldLink RX12 178 "TwoServesModel" "imageD" "[I" ∈ gW := gW_of (i := 1211) (by decide +kernel) rfl
theorem fl_X12_178_14 : FL RX12 178 14 55 RX12 TX12 63 := ⟨rfl, by decide, uw_X12, "TwoServesModel", m1211, Or.inl rfl⟩
theorem m1212 : Cond.fieldLink RX12 181 "TwoServesModel" "imageE" "[I" ∈ gW := gW_of (i := 1212) (by decide +kernel) rfl
theorem fl_X12_181_14 : FL RX12 181 14 56 RX12 TX12 63 := ⟨rfl, by decide, uw_X12, "TwoServesModel", m1212, Or.inl rfl⟩
theorem m1213 : Cond.fieldLink RX12 184 "TwoServesModel" "ran" "I" ∈ gW := gW_of (i := 1213) (by decide +kernel) rfl
theorem fl_X12_184_14 : FL RX12 184 14 57 RX12 TX12 63 := ⟨rfl, by decide, uw_X12, "TwoServesModel", m1213, Or.inl rfl⟩
theorem m1214 : Cond.fieldLink RX12 187 "TwoServesModel" "bodies" "[I" ∈ gW := gW_of (i := 1214) (by decide +kernel) rfl
theorem fl_X12_187_14 : FL RX12 187 14 58 RX12 TX12 63 := ⟨rfl, by decide, uw_X12, "TwoServesModel", m1214, Or.inl rfl⟩
theorem m1215 : Cond.fieldLink RX12 190 "TwoServesModel" "sort" "[I" ∈ gW := gW_of (i := 1215) (by decide +kernel) rfl
theorem fl_X12_190_14 : FL RX12 190 14 59 RX12 TX12 63 := ⟨rfl, by decide, uw_X12, "TwoServesModel", m1215, Or.inl rfl⟩
theorem m1216 : Cond.fieldLink RX12 193 "TwoServesModel" "length" "[I" ∈ gW := gW_of (i := 1216) (by decide +kernel) rfl
theorem fl_X12_193_14 : FL RX12 193 14 60 RX12 TX12 63 := ⟨rfl, by decide, uw_X12, "TwoServesModel", m1216, Or.inl rfl⟩
theorem m1217 : Cond.fieldLink RX12 196 "TwoServesModel" "item" "[J" ∈ gW := gW_of (i := 1217) (by decide +kernel) rfl
theorem fl_X12_196_14 : FL RX12 196 14 61 RX12 TX12 63 := ⟨rfl, by decide, uw_X12, "TwoServesModel", m1217, Or.inl rfl⟩
theorem m1218 : Cond.fieldLink RX12 200 "TwoServesModel" "aside" "[J" ∈ gW := gW_of (i := 1218) (by decide +kernel) rfl
theorem fl_X12_200_14 : FL RX12 200 14 62 RX12 TX12 63 := ⟨rfl, by decide, uw_X12, "TwoServesModel", m1218, Or.inl rfl⟩
theorem m1155 : Cond.methodLink RX12 1 objectInit ∈ gW := gW_of (i := 1155) (by decide +kernel) rfl
theorem m107 : Cond.instanceMethod objectInit ∈ gW := gW_of (i := 107) (by decide +kernel) rfl
theorem m108 : Cond.code objectInit object_method_1_code 1 none ∈ gW := gW_of (i := 108) (by decide +kernel) rfl
abbrev qX12_in : QM := (yX12_in, cX12_in, 4, some .boolean)
theorem m1351 : Cond.methodLink RX12 203 yX12_in ∈ gW := gW_of (i := 1351) (by decide +kernel) rfl
theorem m1353 : Cond.instanceMethod yX12_in ∈ gW := gW_of (i := 1353) (by decide +kernel) rfl
theorem m22 : Cond.selects RX12 yX12_in yX12_in ∈ gW := gW_of (i := 22) (by decide +kernel) rfl
theorem m81 : Cond.initialized RX12 ∈ gW := gW_of (i := 81) (by decide +kernel) rfl
theorem m1354 : Cond.code yX12_in cX12_in 4 (some .boolean) ∈ gW := gW_of (i := 1354) (by decide +kernel) rfl
theorem cv_X12_203 : CWV RX12 203 qX12_in 3 := ⟨m1351, m1353, m22, m81, m1354, ⟨⟨by decide +kernel, by decide +kernel, by decide +kernel⟩, by decide⟩⟩
abbrev qX12_isForce : QM := (yX12_isForce, cX12_isForce, 2, some .boolean)
theorem m1355 : Cond.methodLink RX12 207 yX12_isForce ∈ gW := gW_of (i := 1355) (by decide +kernel) rfl
theorem m1357 : Cond.instanceMethod yX12_isForce ∈ gW := gW_of (i := 1357) (by decide +kernel) rfl
theorem m23 : Cond.selects RX12 yX12_isForce yX12_isForce ∈ gW := gW_of (i := 23) (by decide +kernel) rfl
theorem m1358 : Cond.code yX12_isForce cX12_isForce 2 (some .boolean) ∈ gW := gW_of (i := 1358) (by decide +kernel) rfl
theorem cv_X12_207 : CWV RX12 207 qX12_isForce 1 := ⟨m1355, m1357, m23, m81, m1358, ⟨⟨by decide +kernel, by decide +kernel, by decide +kernel⟩, by decide⟩⟩
abbrev qX12_isServer : QM := (yX12_isServer, cX12_isServer, 2, some .boolean)
theorem m1363 : Cond.methodLink RX12 211 yX12_isServer ∈ gW := gW_of (i := 1363) (by decide +kernel) rfl
theorem m1365 : Cond.instanceMethod yX12_isServer ∈ gW := gW_of (i := 1365) (by decide +kernel) rfl
theorem m24 : Cond.selects RX12 yX12_isServer yX12_isServer ∈ gW := gW_of (i := 24) (by decide +kernel) rfl
theorem m1366 : Cond.code yX12_isServer cX12_isServer 2 (some .boolean) ∈ gW := gW_of (i := 1366) (by decide +kernel) rfl
theorem cv_X12_211 : CWV RX12 211 qX12_isServer 1 := ⟨m1363, m1365, m24, m81, m1366, ⟨⟨by decide +kernel, by decide +kernel, by decide +kernel⟩, by decide⟩⟩
abbrev qX12_next : QM := (yX12_next, cX12_next, 1, some .int)
theorem m1391 : Cond.methodLink RX12 214 yX12_next ∈ gW := gW_of (i := 1391) (by decide +kernel) rfl
theorem m1393 : Cond.instanceMethod yX12_next ∈ gW := gW_of (i := 1393) (by decide +kernel) rfl
theorem m28 : Cond.selects RX12 yX12_next yX12_next ∈ gW := gW_of (i := 28) (by decide +kernel) rfl
theorem m1394 : Cond.code yX12_next cX12_next 1 (some .int) ∈ gW := gW_of (i := 1394) (by decide +kernel) rfl
theorem cv_X12_214 : CWV RX12 214 qX12_next 0 := ⟨m1391, m1393, m28, m81, m1394, ⟨⟨by decide +kernel, by decide +kernel, by decide +kernel⟩, by decide⟩⟩
abbrev qX12_takes : QM := (yX12_takes, cX12_takes, 2, some .boolean)
theorem m1399 : Cond.methodLink RX12 218 yX12_takes ∈ gW := gW_of (i := 1399) (by decide +kernel) rfl
theorem m1401 : Cond.instanceMethod yX12_takes ∈ gW := gW_of (i := 1401) (by decide +kernel) rfl
theorem m30 : Cond.selects RX12 yX12_takes yX12_takes ∈ gW := gW_of (i := 30) (by decide +kernel) rfl
theorem m1402 : Cond.code yX12_takes cX12_takes 2 (some .boolean) ∈ gW := gW_of (i := 1402) (by decide +kernel) rfl
theorem cv_X12_218 : CWV RX12 218 qX12_takes 1 := ⟨m1399, m1401, m30, m81, m1402, ⟨⟨by decide +kernel, by decide +kernel, by decide +kernel⟩, by decide⟩⟩
abbrev qX12_isDigit : QM := (yX12_isDigit, cX12_isDigit, 1, some .boolean)
theorem m1407 : Cond.methodLink RX12 221 yX12_isDigit ∈ gW := gW_of (i := 1407) (by decide +kernel) rfl
theorem m1409 : Cond.instanceMethod yX12_isDigit ∈ gW := gW_of (i := 1409) (by decide +kernel) rfl
theorem m32 : Cond.selects RX12 yX12_isDigit yX12_isDigit ∈ gW := gW_of (i := 32) (by decide +kernel) rfl
theorem m1410 : Cond.code yX12_isDigit cX12_isDigit 1 (some .boolean) ∈ gW := gW_of (i := 1410) (by decide +kernel) rfl
theorem cv_X12_221 : CWV RX12 221 qX12_isDigit 0 := ⟨m1407, m1409, m32, m81, m1410, ⟨⟨by decide +kernel, by decide +kernel, by decide +kernel⟩, by decide⟩⟩
abbrev qX12_emits : QM := (yX12_emits, cX12_emits, 2, none)
theorem m1423 : Cond.methodLink RX12 225 yX12_emits ∈ gW := gW_of (i := 1423) (by decide +kernel) rfl
theorem m1425 : Cond.instanceMethod yX12_emits ∈ gW := gW_of (i := 1425) (by decide +kernel) rfl
theorem m36 : Cond.selects RX12 yX12_emits yX12_emits ∈ gW := gW_of (i := 36) (by decide +kernel) rfl
theorem m1426 : Cond.code yX12_emits cX12_emits 2 none ∈ gW := gW_of (i := 1426) (by decide +kernel) rfl
theorem cv_X12_225 : CWV RX12 225 qX12_emits 1 := ⟨m1423, m1425, m36, m81, m1426, ⟨⟨by decide +kernel, by decide +kernel, by decide +kernel⟩, by decide⟩⟩
abbrev qX12_place : QM := (yX12_place, cX12_place, 2, some .int)
theorem m1419 : Cond.methodLink RX12 229 yX12_place ∈ gW := gW_of (i := 1419) (by decide +kernel) rfl
theorem m1421 : Cond.instanceMethod yX12_place ∈ gW := gW_of (i := 1421) (by decide +kernel) rfl
theorem m35 : Cond.selects RX12 yX12_place yX12_place ∈ gW := gW_of (i := 35) (by decide +kernel) rfl
theorem m1422 : Cond.code yX12_place cX12_place 2 (some .int) ∈ gW := gW_of (i := 1422) (by decide +kernel) rfl
theorem cv_X12_229 : CWV RX12 229 qX12_place 1 := ⟨m1419, m1421, m35, m81, m1422, ⟨⟨by decide +kernel, by decide +kernel, by decide +kernel⟩, by decide⟩⟩
abbrev qX12_takesNumber : QM := (yX12_takesNumber, cX12_takesNumber, 2, some .boolean)
theorem m1403 : Cond.methodLink RX12 233 yX12_takesNumber ∈ gW := gW_of (i := 1403) (by decide +kernel) rfl
theorem m1405 : Cond.instanceMethod yX12_takesNumber ∈ gW := gW_of (i := 1405) (by decide +kernel) rfl
theorem m31 : Cond.selects RX12 yX12_takesNumber yX12_takesNumber ∈ gW := gW_of (i := 31) (by decide +kernel) rfl
theorem m1406 : Cond.code yX12_takesNumber cX12_takesNumber 2 (some .boolean) ∈ gW := gW_of (i := 1406) (by decide +kernel) rfl
theorem cv_X12_233 : CWV RX12 233 qX12_takesNumber 0 := ⟨m1403, m1405, m31, m81, m1406, ⟨⟨by decide +kernel, by decide +kernel, by decide +kernel⟩, by decide⟩⟩
abbrev qX12_whole : QM := (yX12_whole, cX12_whole, 1, none)
theorem m1427 : Cond.methodLink RX12 236 yX12_whole ∈ gW := gW_of (i := 1427) (by decide +kernel) rfl
theorem m1429 : Cond.instanceMethod yX12_whole ∈ gW := gW_of (i := 1429) (by decide +kernel) rfl
theorem m37 : Cond.selects RX12 yX12_whole yX12_whole ∈ gW := gW_of (i := 37) (by decide +kernel) rfl
theorem m1430 : Cond.code yX12_whole cX12_whole 1 none ∈ gW := gW_of (i := 1430) (by decide +kernel) rfl
theorem cv_X12_236 : CWV RX12 236 qX12_whole 0 := ⟨m1427, m1429, m37, m81, m1430, ⟨⟨by decide +kernel, by decide +kernel, by decide +kernel⟩, by decide⟩⟩
abbrev qX12_takesTest : QM := (yX12_takesTest, cX12_takesTest, 3, some .boolean)
theorem m1415 : Cond.methodLink RX12 239 yX12_takesTest ∈ gW := gW_of (i := 1415) (by decide +kernel) rfl
theorem m1417 : Cond.instanceMethod yX12_takesTest ∈ gW := gW_of (i := 1417) (by decide +kernel) rfl
theorem m34 : Cond.selects RX12 yX12_takesTest yX12_takesTest ∈ gW := gW_of (i := 34) (by decide +kernel) rfl
theorem m1418 : Cond.code yX12_takesTest cX12_takesTest 3 (some .boolean) ∈ gW := gW_of (i := 1418) (by decide +kernel) rfl
theorem cv_X12_239 : CWV RX12 239 qX12_takesTest 0 := ⟨m1415, m1417, m34, m81, m1418, ⟨⟨by decide +kernel, by decide +kernel, by decide +kernel⟩, by decide⟩⟩
abbrev qX12_settle : QM := (yX12_settle, cX12_settle, 2, none)
theorem m1431 : Cond.methodLink RX12 242 yX12_settle ∈ gW := gW_of (i := 1431) (by decide +kernel) rfl
theorem m1433 : Cond.instanceMethod yX12_settle ∈ gW := gW_of (i := 1433) (by decide +kernel) rfl
theorem m38 : Cond.selects RX12 yX12_settle yX12_settle ∈ gW := gW_of (i := 38) (by decide +kernel) rfl
theorem m1434 : Cond.code yX12_settle cX12_settle 2 none ∈ gW := gW_of (i := 1434) (by decide +kernel) rfl
theorem cv_X12_242 : CWV RX12 242 qX12_settle 1 := ⟨m1431, m1433, m38, m81, m1434, ⟨⟨by decide +kernel, by decide +kernel, by decide +kernel⟩, by decide⟩⟩
abbrev qX12_takesWord : QM := (yX12_takesWord, cX12_takesWord, 4, some .boolean)
theorem m1395 : Cond.methodLink RX12 245 yX12_takesWord ∈ gW := gW_of (i := 1395) (by decide +kernel) rfl
theorem m1397 : Cond.instanceMethod yX12_takesWord ∈ gW := gW_of (i := 1397) (by decide +kernel) rfl
theorem m29 : Cond.selects RX12 yX12_takesWord yX12_takesWord ∈ gW := gW_of (i := 29) (by decide +kernel) rfl
theorem m1398 : Cond.code yX12_takesWord cX12_takesWord 4 (some .boolean) ∈ gW := gW_of (i := 1398) (by decide +kernel) rfl
theorem cv_X12_245 : CWV RX12 245 qX12_takesWord 2 := ⟨m1395, m1397, m29, m81, m1398, ⟨⟨by decide +kernel, by decide +kernel, by decide +kernel⟩, by decide⟩⟩
abbrev qX12_takesHead : QM := (yX12_takesHead, cX12_takesHead, 2, some .boolean)
theorem m1387 : Cond.methodLink RX12 249 yX12_takesHead ∈ gW := gW_of (i := 1387) (by decide +kernel) rfl
theorem m1389 : Cond.instanceMethod yX12_takesHead ∈ gW := gW_of (i := 1389) (by decide +kernel) rfl
theorem m27 : Cond.selects RX12 yX12_takesHead yX12_takesHead ∈ gW := gW_of (i := 27) (by decide +kernel) rfl
theorem m1390 : Cond.code yX12_takesHead cX12_takesHead 2 (some .boolean) ∈ gW := gW_of (i := 1390) (by decide +kernel) rfl
theorem cv_X12_249 : CWV RX12 249 qX12_takesHead 1 := ⟨m1387, m1389, m27, m81, m1390, ⟨⟨by decide +kernel, by decide +kernel, by decide +kernel⟩, by decide⟩⟩
abbrev qX12_takesE : QM := (yX12_takesE, cX12_takesE, 4, some .boolean)
theorem m1411 : Cond.methodLink RX12 252 yX12_takesE ∈ gW := gW_of (i := 1411) (by decide +kernel) rfl
theorem m1413 : Cond.instanceMethod yX12_takesE ∈ gW := gW_of (i := 1413) (by decide +kernel) rfl
theorem m33 : Cond.selects RX12 yX12_takesE yX12_takesE ∈ gW := gW_of (i := 33) (by decide +kernel) rfl
theorem m1414 : Cond.code yX12_takesE cX12_takesE 4 (some .boolean) ∈ gW := gW_of (i := 1414) (by decide +kernel) rfl
theorem cv_X12_252 : CWV RX12 252 qX12_takesE 1 := ⟨m1411, m1413, m33, m81, m1414, ⟨⟨by decide +kernel, by decide +kernel, by decide +kernel⟩, by decide⟩⟩
abbrev qX12_takesClause : QM := (yX12_takesClause, cX12_takesClause, 2, some .boolean)
theorem m1383 : Cond.methodLink RX12 255 yX12_takesClause ∈ gW := gW_of (i := 1383) (by decide +kernel) rfl
theorem m1385 : Cond.instanceMethod yX12_takesClause ∈ gW := gW_of (i := 1385) (by decide +kernel) rfl
theorem m26 : Cond.selects RX12 yX12_takesClause yX12_takesClause ∈ gW := gW_of (i := 26) (by decide +kernel) rfl
theorem m1386 : Cond.code yX12_takesClause cX12_takesClause 2 (some .boolean) ∈ gW := gW_of (i := 1386) (by decide +kernel) rfl
theorem cv_X12_255 : CWV RX12 255 qX12_takesClause 1 := ⟨m1383, m1385, m26, m81, m1386, ⟨⟨by decide +kernel, by decide +kernel, by decide +kernel⟩, by decide⟩⟩
abbrev qX12_goesText : QM := (yX12_goesText, cX12_goesText, 3, some .boolean)
theorem m1379 : Cond.methodLink RX12 258 yX12_goesText ∈ gW := gW_of (i := 1379) (by decide +kernel) rfl
theorem m1381 : Cond.instanceMethod yX12_goesText ∈ gW := gW_of (i := 1381) (by decide +kernel) rfl
theorem m25 : Cond.selects RX12 yX12_goesText yX12_goesText ∈ gW := gW_of (i := 25) (by decide +kernel) rfl
theorem m1382 : Cond.code yX12_goesText cX12_goesText 3 (some .boolean) ∈ gW := gW_of (i := 1382) (by decide +kernel) rfl
theorem cv_X12_258 : CWV RX12 258 qX12_goesText 1 := ⟨m1379, m1381, m25, m81, m1382, ⟨⟨by decide +kernel, by decide +kernel, by decide +kernel⟩, by decide⟩⟩
abbrev qX12_factOf : QM := (yX12_factOf, cX12_factOf, 4, some .int)
theorem m1459 : Cond.methodLink RX12 261 yX12_factOf ∈ gW := gW_of (i := 1459) (by decide +kernel) rfl
theorem m1461 : Cond.instanceMethod yX12_factOf ∈ gW := gW_of (i := 1461) (by decide +kernel) rfl
theorem m44 : Cond.selects RX12 yX12_factOf yX12_factOf ∈ gW := gW_of (i := 44) (by decide +kernel) rfl
theorem m1462 : Cond.code yX12_factOf cX12_factOf 4 (some .int) ∈ gW := gW_of (i := 1462) (by decide +kernel) rfl
theorem cv_X12_261 : CWV RX12 261 qX12_factOf 3 := ⟨m1459, m1461, m44, m81, m1462, ⟨⟨by decide +kernel, by decide +kernel, by decide +kernel⟩, by decide⟩⟩
abbrev qX12_begin : QM := (yX12_begin, cX12_begin, 1, some .int)
theorem m1447 : Cond.methodLink RX12 265 yX12_begin ∈ gW := gW_of (i := 1447) (by decide +kernel) rfl
theorem m1449 : Cond.instanceMethod yX12_begin ∈ gW := gW_of (i := 1449) (by decide +kernel) rfl
theorem m41 : Cond.selects RX12 yX12_begin yX12_begin ∈ gW := gW_of (i := 41) (by decide +kernel) rfl
theorem m1450 : Cond.code yX12_begin cX12_begin 1 (some .int) ∈ gW := gW_of (i := 1450) (by decide +kernel) rfl
theorem cv_X12_265 : CWV RX12 265 qX12_begin 0 := ⟨m1447, m1449, m41, m81, m1450, ⟨⟨by decide +kernel, by decide +kernel, by decide +kernel⟩, by decide⟩⟩
abbrev qX12_behind : QM := (yX12_behind, cX12_behind, 1, some .int)
theorem m1451 : Cond.methodLink RX12 268 yX12_behind ∈ gW := gW_of (i := 1451) (by decide +kernel) rfl
theorem m1453 : Cond.instanceMethod yX12_behind ∈ gW := gW_of (i := 1453) (by decide +kernel) rfl
theorem m42 : Cond.selects RX12 yX12_behind yX12_behind ∈ gW := gW_of (i := 42) (by decide +kernel) rfl
theorem m1454 : Cond.code yX12_behind cX12_behind 1 (some .int) ∈ gW := gW_of (i := 1454) (by decide +kernel) rfl
theorem cv_X12_268 : CWV RX12 268 qX12_behind 0 := ⟨m1451, m1453, m42, m81, m1454, ⟨⟨by decide +kernel, by decide +kernel, by decide +kernel⟩, by decide⟩⟩
abbrev qX12_holds : QM := (yX12_holds, cX12_holds, 9, some .boolean)
theorem m1455 : Cond.methodLink RX12 271 yX12_holds ∈ gW := gW_of (i := 1455) (by decide +kernel) rfl
theorem m1457 : Cond.instanceMethod yX12_holds ∈ gW := gW_of (i := 1457) (by decide +kernel) rfl
theorem m43 : Cond.selects RX12 yX12_holds yX12_holds ∈ gW := gW_of (i := 43) (by decide +kernel) rfl
theorem m1458 : Cond.code yX12_holds cX12_holds 9 (some .boolean) ∈ gW := gW_of (i := 1458) (by decide +kernel) rfl
theorem cv_X12_271 : CWV RX12 271 qX12_holds 3 := ⟨m1455, m1457, m43, m81, m1458, ⟨⟨by decide +kernel, by decide +kernel, by decide +kernel⟩, by decide⟩⟩
abbrev qX12_sumOf : QM := (yX12_sumOf, cX12_sumOf, 6, some .int)
theorem m1443 : Cond.methodLink RX12 274 yX12_sumOf ∈ gW := gW_of (i := 1443) (by decide +kernel) rfl
theorem m1445 : Cond.instanceMethod yX12_sumOf ∈ gW := gW_of (i := 1445) (by decide +kernel) rfl
theorem m40 : Cond.selects RX12 yX12_sumOf yX12_sumOf ∈ gW := gW_of (i := 40) (by decide +kernel) rfl
theorem m1446 : Cond.code yX12_sumOf cX12_sumOf 6 (some .int) ∈ gW := gW_of (i := 1446) (by decide +kernel) rfl
theorem cv_X12_274 : CWV RX12 274 qX12_sumOf 3 := ⟨m1443, m1445, m40, m81, m1446, ⟨⟨by decide +kernel, by decide +kernel, by decide +kernel⟩, by decide⟩⟩
abbrev qX12_percent : QM := (yX12_percent, cX12_percent, 2, some .int)
theorem m1463 : Cond.methodLink RX12 277 yX12_percent ∈ gW := gW_of (i := 1463) (by decide +kernel) rfl
theorem m1465 : Cond.instanceMethod yX12_percent ∈ gW := gW_of (i := 1465) (by decide +kernel) rfl
theorem m45 : Cond.selects RX12 yX12_percent yX12_percent ∈ gW := gW_of (i := 45) (by decide +kernel) rfl
theorem m1466 : Cond.code yX12_percent cX12_percent 2 (some .int) ∈ gW := gW_of (i := 1466) (by decide +kernel) rfl
theorem cv_X12_277 : CWV RX12 277 qX12_percent 1 := ⟨m1463, m1465, m45, m81, m1466, ⟨⟨by decide +kernel, by decide +kernel, by decide +kernel⟩, by decide⟩⟩
abbrev qX12_inOf : QM := (yX12_inOf, cX12_inOf, 3, some .int)
theorem m1439 : Cond.methodLink RX12 280 yX12_inOf ∈ gW := gW_of (i := 1439) (by decide +kernel) rfl
theorem m1441 : Cond.instanceMethod yX12_inOf ∈ gW := gW_of (i := 1441) (by decide +kernel) rfl
theorem m39 : Cond.selects RX12 yX12_inOf yX12_inOf ∈ gW := gW_of (i := 39) (by decide +kernel) rfl
theorem m1442 : Cond.code yX12_inOf cX12_inOf 3 (some .int) ∈ gW := gW_of (i := 1442) (by decide +kernel) rfl
theorem cv_X12_280 : CWV RX12 280 qX12_inOf 2 := ⟨m1439, m1441, m39, m81, m1442, ⟨⟨by decide +kernel, by decide +kernel, by decide +kernel⟩, by decide⟩⟩
abbrev qX12_winsOf : QM := (yX12_winsOf, cX12_winsOf, 4, some .int)
theorem m1467 : Cond.methodLink RX12 284 yX12_winsOf ∈ gW := gW_of (i := 1467) (by decide +kernel) rfl
theorem m1469 : Cond.instanceMethod yX12_winsOf ∈ gW := gW_of (i := 1469) (by decide +kernel) rfl
theorem m46 : Cond.selects RX12 yX12_winsOf yX12_winsOf ∈ gW := gW_of (i := 46) (by decide +kernel) rfl
theorem m1470 : Cond.code yX12_winsOf cX12_winsOf 4 (some .int) ∈ gW := gW_of (i := 1470) (by decide +kernel) rfl
theorem cv_X12_284 : CWV RX12 284 qX12_winsOf 2 := ⟨m1467, m1469, m46, m81, m1470, ⟨⟨by decide +kernel, by decide +kernel, by decide +kernel⟩, by decide⟩⟩
abbrev qX12_firstOf : QM := (yX12_firstOf, cX12_firstOf, 2, some .int)
theorem m1471 : Cond.methodLink RX12 287 yX12_firstOf ∈ gW := gW_of (i := 1471) (by decide +kernel) rfl
theorem m1473 : Cond.instanceMethod yX12_firstOf ∈ gW := gW_of (i := 1473) (by decide +kernel) rfl
theorem m47 : Cond.selects RX12 yX12_firstOf yX12_firstOf ∈ gW := gW_of (i := 47) (by decide +kernel) rfl
theorem m1474 : Cond.code yX12_firstOf cX12_firstOf 2 (some .int) ∈ gW := gW_of (i := 1474) (by decide +kernel) rfl
theorem cv_X12_287 : CWV RX12 287 qX12_firstOf 1 := ⟨m1471, m1473, m47, m81, m1474, ⟨⟨by decide +kernel, by decide +kernel, by decide +kernel⟩, by decide⟩⟩
abbrev qX12_secondOf : QM := (yX12_secondOf, cX12_secondOf, 2, some .int)
theorem m1475 : Cond.methodLink RX12 290 yX12_secondOf ∈ gW := gW_of (i := 1475) (by decide +kernel) rfl
theorem m1477 : Cond.instanceMethod yX12_secondOf ∈ gW := gW_of (i := 1477) (by decide +kernel) rfl
theorem m48 : Cond.selects RX12 yX12_secondOf yX12_secondOf ∈ gW := gW_of (i := 48) (by decide +kernel) rfl
theorem m1478 : Cond.code yX12_secondOf cX12_secondOf 2 (some .int) ∈ gW := gW_of (i := 1478) (by decide +kernel) rfl
theorem cv_X12_290 : CWV RX12 290 qX12_secondOf 1 := ⟨m1475, m1477, m48, m81, m1478, ⟨⟨by decide +kernel, by decide +kernel, by decide +kernel⟩, by decide⟩⟩
abbrev qX12_chanceOf : QM := (yX12_chanceOf, cX12_chanceOf, 5, some .int)
theorem m1495 : Cond.methodLink RX12 293 yX12_chanceOf ∈ gW := gW_of (i := 1495) (by decide +kernel) rfl
theorem m1497 : Cond.instanceMethod yX12_chanceOf ∈ gW := gW_of (i := 1497) (by decide +kernel) rfl
theorem m49 : Cond.selects RX12 yX12_chanceOf yX12_chanceOf ∈ gW := gW_of (i := 49) (by decide +kernel) rfl
theorem m1498 : Cond.code yX12_chanceOf cX12_chanceOf 5 (some .int) ∈ gW := gW_of (i := 1498) (by decide +kernel) rfl
theorem cv_X12_293 : CWV RX12 293 qX12_chanceOf 3 := ⟨m1495, m1497, m49, m81, m1498, ⟨⟨by decide +kernel, by decide +kernel, by decide +kernel⟩, by decide⟩⟩
abbrev qX12_faultsOf : QM := (yX12_faultsOf, cX12_faultsOf, 4, some .int)
theorem m1503 : Cond.methodLink RX12 296 yX12_faultsOf ∈ gW := gW_of (i := 1503) (by decide +kernel) rfl
theorem m1505 : Cond.instanceMethod yX12_faultsOf ∈ gW := gW_of (i := 1505) (by decide +kernel) rfl
theorem m50 : Cond.selects RX12 yX12_faultsOf yX12_faultsOf ∈ gW := gW_of (i := 50) (by decide +kernel) rfl
theorem m1506 : Cond.code yX12_faultsOf cX12_faultsOf 4 (some .int) ∈ gW := gW_of (i := 1506) (by decide +kernel) rfl
theorem cv_X12_296 : CWV RX12 296 qX12_faultsOf 3 := ⟨m1503, m1505, m50, m81, m1506, ⟨⟨by decide +kernel, by decide +kernel, by decide +kernel⟩, by decide⟩⟩
abbrev qX12_areDraws : QM := (yX12_areDraws, cX12_areDraws, 3, some .boolean)
theorem m1511 : Cond.methodLink RX12 299 yX12_areDraws ∈ gW := gW_of (i := 1511) (by decide +kernel) rfl
theorem m1513 : Cond.instanceMethod yX12_areDraws ∈ gW := gW_of (i := 1513) (by decide +kernel) rfl
theorem m51 : Cond.selects RX12 yX12_areDraws yX12_areDraws ∈ gW := gW_of (i := 51) (by decide +kernel) rfl
theorem m1514 : Cond.code yX12_areDraws cX12_areDraws 3 (some .boolean) ∈ gW := gW_of (i := 1514) (by decide +kernel) rfl
theorem cv_X12_299 : CWV RX12 299 qX12_areDraws 2 := ⟨m1511, m1513, m51, m81, m1514, ⟨⟨by decide +kernel, by decide +kernel, by decide +kernel⟩, by decide⟩⟩
abbrev qX12_isOver : QM := (yX12_isOver, cX12_isOver, 1, some .boolean)
theorem m1515 : Cond.methodLink RX12 302 yX12_isOver ∈ gW := gW_of (i := 1515) (by decide +kernel) rfl
theorem m1517 : Cond.instanceMethod yX12_isOver ∈ gW := gW_of (i := 1517) (by decide +kernel) rfl
theorem m52 : Cond.selects RX12 yX12_isOver yX12_isOver ∈ gW := gW_of (i := 52) (by decide +kernel) rfl
theorem m1518 : Cond.code yX12_isOver cX12_isOver 1 (some .boolean) ∈ gW := gW_of (i := 1518) (by decide +kernel) rfl
theorem cv_X12_302 : CWV RX12 302 qX12_isOver 0 := ⟨m1515, m1517, m52, m81, m1518, ⟨⟨by decide +kernel, by decide +kernel, by decide +kernel⟩, by decide⟩⟩
abbrev qX12_goPoint : QM := (yX12_goPoint, cX12_goPoint, 7, some .boolean)
theorem m1519 : Cond.methodLink RX12 305 yX12_goPoint ∈ gW := gW_of (i := 1519) (by decide +kernel) rfl
theorem m1521 : Cond.instanceMethod yX12_goPoint ∈ gW := gW_of (i := 1521) (by decide +kernel) rfl
theorem m53 : Cond.selects RX12 yX12_goPoint yX12_goPoint ∈ gW := gW_of (i := 53) (by decide +kernel) rfl
theorem m1522 : Cond.code yX12_goPoint cX12_goPoint 7 (some .boolean) ∈ gW := gW_of (i := 1522) (by decide +kernel) rfl
theorem cv_X12_305 : CWV RX12 305 qX12_goPoint 3 := ⟨m1519, m1521, m53, m81, m1522, ⟨⟨by decide +kernel, by decide +kernel, by decide +kernel⟩, by decide⟩⟩
abbrev qX12_chanceNow : QM := (yX12_chanceNow, cX12_chanceNow, 2, some .int)
theorem m1536 : Cond.methodLink RX12 309 yX12_chanceNow ∈ gW := gW_of (i := 1536) (by decide +kernel) rfl
theorem m1538 : Cond.instanceMethod yX12_chanceNow ∈ gW := gW_of (i := 1538) (by decide +kernel) rfl
theorem m54 : Cond.selects RX12 yX12_chanceNow yX12_chanceNow ∈ gW := gW_of (i := 54) (by decide +kernel) rfl
theorem m1539 : Cond.code yX12_chanceNow cX12_chanceNow 2 (some .int) ∈ gW := gW_of (i := 1539) (by decide +kernel) rfl
theorem cv_X12_309 : CWV RX12 309 qX12_chanceNow 1 := ⟨m1536, m1538, m54, m81, m1539, ⟨⟨by decide +kernel, by decide +kernel, by decide +kernel⟩, by decide⟩⟩
abbrev qX12_layGames : QM := (yX12_layGames, cX12_layGames, 8, none)
theorem m1561 : Cond.methodLink RX12 316 yX12_layGames ∈ gW := gW_of (i := 1561) (by decide +kernel) rfl
theorem m1563 : Cond.instanceMethod yX12_layGames ∈ gW := gW_of (i := 1563) (by decide +kernel) rfl
theorem m56 : Cond.selects RX12 yX12_layGames yX12_layGames ∈ gW := gW_of (i := 56) (by decide +kernel) rfl
theorem m1564 : Cond.code yX12_layGames cX12_layGames 8 none ∈ gW := gW_of (i := 1564) (by decide +kernel) rfl
theorem cv_X12_316 : CWV RX12 316 qX12_layGames 1 := ⟨m1561, m1563, m56, m81, m1564, ⟨⟨by decide +kernel, by decide +kernel, by decide +kernel⟩, by decide⟩⟩
abbrev qX12_gameNow : QM := (yX12_gameNow, cX12_gameNow, 2, some .int)
theorem m1557 : Cond.methodLink RX12 319 yX12_gameNow ∈ gW := gW_of (i := 1557) (by decide +kernel) rfl
theorem m1559 : Cond.instanceMethod yX12_gameNow ∈ gW := gW_of (i := 1559) (by decide +kernel) rfl
theorem m55 : Cond.selects RX12 yX12_gameNow yX12_gameNow ∈ gW := gW_of (i := 55) (by decide +kernel) rfl
theorem m1560 : Cond.code yX12_gameNow cX12_gameNow 2 (some .int) ∈ gW := gW_of (i := 1560) (by decide +kernel) rfl
theorem cv_X12_319 : CWV RX12 319 qX12_gameNow 1 := ⟨m1557, m1559, m55, m81, m1560, ⟨⟨by decide +kernel, by decide +kernel, by decide +kernel⟩, by decide⟩⟩
abbrev qX12_clean : QM := (yX12_clean, cX12_clean, 2, some .int)
theorem m1567 : Cond.methodLink RX12 322 yX12_clean ∈ gW := gW_of (i := 1567) (by decide +kernel) rfl
theorem m1569 : Cond.instanceMethod yX12_clean ∈ gW := gW_of (i := 1569) (by decide +kernel) rfl
theorem m57 : Cond.selects RX12 yX12_clean yX12_clean ∈ gW := gW_of (i := 57) (by decide +kernel) rfl
theorem m1570 : Cond.code yX12_clean cX12_clean 2 (some .int) ∈ gW := gW_of (i := 1570) (by decide +kernel) rfl
theorem cv_X12_322 : CWV RX12 322 qX12_clean 1 := ⟨m1567, m1569, m57, m81, m1570, ⟨⟨by decide +kernel, by decide +kernel, by decide +kernel⟩, by decide⟩⟩
abbrev qX12_matchOf : QM := (yX12_matchOf, cX12_matchOf, 12, some .int)
theorem m1579 : Cond.methodLink RX12 325 yX12_matchOf ∈ gW := gW_of (i := 1579) (by decide +kernel) rfl
theorem m1581 : Cond.instanceMethod yX12_matchOf ∈ gW := gW_of (i := 1581) (by decide +kernel) rfl
theorem m58 : Cond.selects RX12 yX12_matchOf yX12_matchOf ∈ gW := gW_of (i := 58) (by decide +kernel) rfl
theorem m1582 : Cond.code yX12_matchOf cX12_matchOf 12 (some .int) ∈ gW := gW_of (i := 1582) (by decide +kernel) rfl
theorem cv_X12_325 : CWV RX12 325 qX12_matchOf 3 := ⟨m1579, m1581, m58, m81, m1582, ⟨⟨by decide +kernel, by decide +kernel, by decide +kernel⟩, by decide⟩⟩
abbrev qX12_divisor : QM := (yX12_divisor, cX12_divisor, 6, some .int)
theorem m1606 : Cond.methodLink RX12 329 yX12_divisor ∈ gW := gW_of (i := 1606) (by decide +kernel) rfl
theorem m1608 : Cond.instanceMethod yX12_divisor ∈ gW := gW_of (i := 1608) (by decide +kernel) rfl
theorem m60 : Cond.selects RX12 yX12_divisor yX12_divisor ∈ gW := gW_of (i := 60) (by decide +kernel) rfl
theorem m1609 : Cond.code yX12_divisor cX12_divisor 6 (some .int) ∈ gW := gW_of (i := 1609) (by decide +kernel) rfl
theorem cv_X12_329 : CWV RX12 329 qX12_divisor 2 := ⟨m1606, m1608, m60, m81, m1609, ⟨⟨by decide +kernel, by decide +kernel, by decide +kernel⟩, by decide⟩⟩
abbrev qX12_lowest : QM := (yX12_lowest, cX12_lowest, 5, some .long)
theorem m1602 : Cond.methodLink RX12 335 yX12_lowest ∈ gW := gW_of (i := 1602) (by decide +kernel) rfl
theorem m1604 : Cond.instanceMethod yX12_lowest ∈ gW := gW_of (i := 1604) (by decide +kernel) rfl
theorem m59 : Cond.selects RX12 yX12_lowest yX12_lowest ∈ gW := gW_of (i := 59) (by decide +kernel) rfl
theorem m1605 : Cond.code yX12_lowest cX12_lowest 5 (some .long) ∈ gW := gW_of (i := 1605) (by decide +kernel) rfl
theorem cv_X12_335 : CWV RX12 335 qX12_lowest 3 := ⟨m1602, m1604, m59, m81, m1605, ⟨⟨by decide +kernel, by decide +kernel, by decide +kernel⟩, by decide⟩⟩
abbrev qX12_isTape : QM := (yX12_isTape, cX12_isTape, 2, some .boolean)
theorem m1626 : Cond.methodLink RX12 339 yX12_isTape ∈ gW := gW_of (i := 1626) (by decide +kernel) rfl
theorem m1628 : Cond.instanceMethod yX12_isTape ∈ gW := gW_of (i := 1628) (by decide +kernel) rfl
theorem m61 : Cond.selects RX12 yX12_isTape yX12_isTape ∈ gW := gW_of (i := 61) (by decide +kernel) rfl
theorem m1629 : Cond.code yX12_isTape cX12_isTape 2 (some .boolean) ∈ gW := gW_of (i := 1629) (by decide +kernel) rfl
theorem cv_X12_339 : CWV RX12 339 qX12_isTape 1 := ⟨m1626, m1628, m61, m81, m1629, ⟨⟨by decide +kernel, by decide +kernel, by decide +kernel⟩, by decide⟩⟩
abbrev qX12_body : QM := (yX12_body, cX12_body, 2, none)
theorem m1646 : Cond.methodLink RX12 342 yX12_body ∈ gW := gW_of (i := 1646) (by decide +kernel) rfl
theorem m1648 : Cond.instanceMethod yX12_body ∈ gW := gW_of (i := 1648) (by decide +kernel) rfl
theorem m63 : Cond.selects RX12 yX12_body yX12_body ∈ gW := gW_of (i := 63) (by decide +kernel) rfl
theorem m1649 : Cond.code yX12_body cX12_body 2 none ∈ gW := gW_of (i := 1649) (by decide +kernel) rfl
theorem cv_X12_342 : CWV RX12 342 qX12_body 1 := ⟨m1646, m1648, m63, m81, m1649, ⟨⟨by decide +kernel, by decide +kernel, by decide +kernel⟩, by decide⟩⟩
abbrev qX12_serverTosses : QM := (yX12_serverTosses, cX12_serverTosses, 3, some .int)
theorem m1650 : Cond.methodLink RX12 345 yX12_serverTosses ∈ gW := gW_of (i := 1650) (by decide +kernel) rfl
theorem m1652 : Cond.instanceMethod yX12_serverTosses ∈ gW := gW_of (i := 1652) (by decide +kernel) rfl
theorem m64 : Cond.selects RX12 yX12_serverTosses yX12_serverTosses ∈ gW := gW_of (i := 64) (by decide +kernel) rfl
theorem m1653 : Cond.code yX12_serverTosses cX12_serverTosses 3 (some .int) ∈ gW := gW_of (i := 1653) (by decide +kernel) rfl
theorem cv_X12_345 : CWV RX12 345 qX12_serverTosses 2 := ⟨m1650, m1652, m64, m81, m1653, ⟨⟨by decide +kernel, by decide +kernel, by decide +kernel⟩, by decide⟩⟩
abbrev qX12_tossesAct : QM := (yX12_tossesAct, cX12_tossesAct, 3, some .int)
theorem m1642 : Cond.methodLink RX12 348 yX12_tossesAct ∈ gW := gW_of (i := 1642) (by decide +kernel) rfl
theorem m1644 : Cond.instanceMethod yX12_tossesAct ∈ gW := gW_of (i := 1644) (by decide +kernel) rfl
theorem m62 : Cond.selects RX12 yX12_tossesAct yX12_tossesAct ∈ gW := gW_of (i := 62) (by decide +kernel) rfl
theorem m1645 : Cond.code yX12_tossesAct cX12_tossesAct 3 (some .int) ∈ gW := gW_of (i := 1645) (by decide +kernel) rfl
theorem cv_X12_348 : CWV RX12 348 qX12_tossesAct 2 := ⟨m1642, m1644, m62, m81, m1645, ⟨⟨by decide +kernel, by decide +kernel, by decide +kernel⟩, by decide⟩⟩
abbrev qX12_serverStrikes : QM := (yX12_serverStrikes, cX12_serverStrikes, 3, some .int)
theorem m1662 : Cond.methodLink RX12 351 yX12_serverStrikes ∈ gW := gW_of (i := 1662) (by decide +kernel) rfl
theorem m1664 : Cond.instanceMethod yX12_serverStrikes ∈ gW := gW_of (i := 1664) (by decide +kernel) rfl
theorem m67 : Cond.selects RX12 yX12_serverStrikes yX12_serverStrikes ∈ gW := gW_of (i := 67) (by decide +kernel) rfl
theorem m1665 : Cond.code yX12_serverStrikes cX12_serverStrikes 3 (some .int) ∈ gW := gW_of (i := 1665) (by decide +kernel) rfl
theorem cv_X12_351 : CWV RX12 351 qX12_serverStrikes 2 := ⟨m1662, m1664, m67, m81, m1665, ⟨⟨by decide +kernel, by decide +kernel, by decide +kernel⟩, by decide⟩⟩
abbrev qX12_daringStrikes : QM := (yX12_daringStrikes, cX12_daringStrikes, 3, some .int)
theorem m1658 : Cond.methodLink RX12 354 yX12_daringStrikes ∈ gW := gW_of (i := 1658) (by decide +kernel) rfl
theorem m1660 : Cond.instanceMethod yX12_daringStrikes ∈ gW := gW_of (i := 1660) (by decide +kernel) rfl
theorem m66 : Cond.selects RX12 yX12_daringStrikes yX12_daringStrikes ∈ gW := gW_of (i := 66) (by decide +kernel) rfl
theorem m1661 : Cond.code yX12_daringStrikes cX12_daringStrikes 3 (some .int) ∈ gW := gW_of (i := 1661) (by decide +kernel) rfl
theorem cv_X12_354 : CWV RX12 354 qX12_daringStrikes 2 := ⟨m1658, m1660, m66, m81, m1661, ⟨⟨by decide +kernel, by decide +kernel, by decide +kernel⟩, by decide⟩⟩
abbrev qX12_strikesAct : QM := (yX12_strikesAct, cX12_strikesAct, 4, some .int)
theorem m1654 : Cond.methodLink RX12 357 yX12_strikesAct ∈ gW := gW_of (i := 1654) (by decide +kernel) rfl
theorem m1656 : Cond.instanceMethod yX12_strikesAct ∈ gW := gW_of (i := 1656) (by decide +kernel) rfl
theorem m65 : Cond.selects RX12 yX12_strikesAct yX12_strikesAct ∈ gW := gW_of (i := 65) (by decide +kernel) rfl
theorem m1657 : Cond.code yX12_strikesAct cX12_strikesAct 4 (some .int) ∈ gW := gW_of (i := 1657) (by decide +kernel) rfl
theorem cv_X12_357 : CWV RX12 357 qX12_strikesAct 2 := ⟨m1654, m1656, m65, m81, m1657, ⟨⟨by decide +kernel, by decide +kernel, by decide +kernel⟩, by decide⟩⟩
abbrev qX12_serverTells : QM := (yX12_serverTells, cX12_serverTells, 3, some .int)
theorem m1670 : Cond.methodLink RX12 360 yX12_serverTells ∈ gW := gW_of (i := 1670) (by decide +kernel) rfl
theorem m1672 : Cond.instanceMethod yX12_serverTells ∈ gW := gW_of (i := 1672) (by decide +kernel) rfl
theorem m69 : Cond.selects RX12 yX12_serverTells yX12_serverTells ∈ gW := gW_of (i := 69) (by decide +kernel) rfl
theorem m1673 : Cond.code yX12_serverTells cX12_serverTells 3 (some .int) ∈ gW := gW_of (i := 1673) (by decide +kernel) rfl
theorem cv_X12_360 : CWV RX12 360 qX12_serverTells 2 := ⟨m1670, m1672, m69, m81, m1673, ⟨⟨by decide +kernel, by decide +kernel, by decide +kernel⟩, by decide⟩⟩
abbrev qX12_tellsAct : QM := (yX12_tellsAct, cX12_tellsAct, 4, some .int)
theorem m1666 : Cond.methodLink RX12 363 yX12_tellsAct ∈ gW := gW_of (i := 1666) (by decide +kernel) rfl
theorem m1668 : Cond.instanceMethod yX12_tellsAct ∈ gW := gW_of (i := 1668) (by decide +kernel) rfl
theorem m68 : Cond.selects RX12 yX12_tellsAct yX12_tellsAct ∈ gW := gW_of (i := 68) (by decide +kernel) rfl
theorem m1669 : Cond.code yX12_tellsAct cX12_tellsAct 4 (some .int) ∈ gW := gW_of (i := 1669) (by decide +kernel) rfl
theorem cv_X12_363 : CWV RX12 363 qX12_tellsAct 2 := ⟨m1666, m1668, m68, m81, m1669, ⟨⟨by decide +kernel, by decide +kernel, by decide +kernel⟩, by decide⟩⟩
abbrev qX12_narrow : QM := (yX12_narrow, cX12_narrow, 4, some .long)
theorem m1694 : Cond.methodLink RX12 366 yX12_narrow ∈ gW := gW_of (i := 1694) (by decide +kernel) rfl
theorem m1696 : Cond.instanceMethod yX12_narrow ∈ gW := gW_of (i := 1696) (by decide +kernel) rfl
theorem m70 : Cond.selects RX12 yX12_narrow yX12_narrow ∈ gW := gW_of (i := 70) (by decide +kernel) rfl
theorem m1697 : Cond.code yX12_narrow cX12_narrow 4 (some .long) ∈ gW := gW_of (i := 1697) (by decide +kernel) rfl
theorem cv_X12_366 : CWV RX12 366 qX12_narrow 2 := ⟨m1694, m1696, m70, m81, m1697, ⟨⟨by decide +kernel, by decide +kernel, by decide +kernel⟩, by decide⟩⟩
theorem m1535 : Cond.constant RX12 308 (-1000001) ∈ gW := gW_of (i := 1535) (by decide +kernel) rfl
theorem m1552 : Cond.constant RX12 312 1000001 ∈ gW := gW_of (i := 1552) (by decide +kernel) rfl
theorem m1565 : Cond.constant RX12 313 1000000 ∈ gW := gW_of (i := 1565) (by decide +kernel) rfl
theorem m1566 : Cond.constantLong RX12 314 1000000 ∈ gW := gW_of (i := 1566) (by decide +kernel) rfl
theorem m1587 : Cond.constant RX12 328 (-1000002) ∈ gW := gW_of (i := 1587) (by decide +kernel) rfl
theorem m1600 : Cond.constantLong RX12 332 (-9223372036854775808) ∈ gW := gW_of (i := 1600) (by decide +kernel) rfl
theorem m1601 : Cond.constant RX12 334 3000000 ∈ gW := gW_of (i := 1601) (by decide +kernel) rfl
theorem m1151 : Cond.instantiable RX12 63 ∈ gW := gW_of (i := 1151) (by decide +kernel) rfl
abbrev qX12_init : QM := (yX12_init, cX12_init, 1, none)
abbrev qX12_server : QM := (yX12_server, cX12_server, 6, some .int)
abbrev qX12_set : QM := (yX12_set, cX12_set, 5, some .int)
abbrev qX12_row : QM := (yX12_row, cX12_row, 5, some .int)
abbrev qX12_feed : QM := (yX12_feed, cX12_feed, 2, some .int)
abbrev qX12_court : QM := (yX12_court, cX12_court, 2, some .int)
abbrev qX12_of : QM := (yX12_of, cX12_of, 3, some .int)
abbrev qX12_told : QM := (yX12_told, cX12_told, 2, some .int)
abbrev qX12_stance : QM := (yX12_stance, cX12_stance, 3, some .int)
abbrev qX12_score : QM := (yX12_score, cX12_score, 3, some .int)
abbrev qX12_chance : QM := (yX12_chance, cX12_chance, 4, some .int)
abbrev qX12_faults : QM := (yX12_faults, cX12_faults, 4, some .int)
abbrev qX12_play : QM := (yX12_play, cX12_play, 4, some .int)
abbrev qX12_best : QM := (yX12_best, cX12_best, 7, some .int)
abbrev qX12_risk : QM := (yX12_risk, cX12_risk, 5, some .int)
abbrev qX12_dare : QM := (yX12_dare, cX12_dare, 3, some .int)
abbrev qX12_more : QM := (yX12_more, cX12_more, 8, some .int)
abbrev qX12_safe : QM := (yX12_safe, cX12_safe, 4, some .int)
abbrev qX12_stand : QM := (yX12_stand, cX12_stand, 8, some .int)
abbrev qX12_game : QM := (yX12_game, cX12_game, 3, some .int)
abbrev qX12_swing : QM := (yX12_swing, cX12_swing, 2, some .int)
abbrev qX12_match : QM := (yX12_match, cX12_match, 4, some .int)
abbrev qX12_ahead : QM := (yX12_ahead, cX12_ahead, 4, some .int)
abbrev qX12_see : QM := (yX12_see, cX12_see, 3, some .int)
abbrev qX12_who : QM := (yX12_who, cX12_who, 4, some .int)
abbrev qX12_odds : QM := (yX12_odds, cX12_odds, 6, some .long)
abbrev qX12_mean : QM := (yX12_mean, cX12_mean, 4, some .long)
abbrev qX12_book : QM := (yX12_book, cX12_book, 4, some .int)
abbrev qX12_looked : QM := (yX12_looked, cX12_looked, 5, some .int)
abbrev qX12_judge : QM := (yX12_judge, cX12_judge, 4, some .int)
abbrev qX12_image : QM := (yX12_image, cX12_image, 2, some .int)
abbrev qX12_undo : QM := (yX12_undo, cX12_undo, 2, some .int)
abbrev qX12_act : QM := (yX12_act, cX12_act, 4, some .int)
abbrev qX12_trace : QM := (yX12_trace, cX12_trace, 2, some .int)
abbrev qX12_taken : QM := (yX12_taken, cX12_taken, 4, some .int)
abbrev qX12_count : QM := (yX12_count, cX12_count, 2, some .int)
abbrev qX12_tape : QM := (yX12_tape, cX12_tape, 5, some .int)
abbrev qX12_item : QM := (yX12_item, cX12_item, 5, some .int)
abbrev qX12_read : QM := (yX12_read, cX12_read, 3, some .long)
abbrev qX12_shift : QM := (yX12_shift, cX12_shift, 7, some .int)
theorem m207 : Cond.arrayClass .int ∈ gW := gW_of (i := 207) (by decide +kernel) rfl
theorem m299 : Cond.arrayClass .long ∈ gW := gW_of (i := 299) (by decide +kernel) rfl
theorem m226 : Cond.arrayClass .char ∈ gW := gW_of (i := 226) (by decide +kernel) rfl
theorem m1346 : Cond.arrayClass .boolean ∈ gW := gW_of (i := 1346) (by decide +kernel) rfl
