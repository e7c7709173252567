theorem dX12_judge_95 : decode cX12_judge 95 = .ok (.ifCond .eq 5, 3) := by decide +kernel
theorem dX12_judge_98 : decode cX12_judge 98 = .ok (.iload_n 3, 1) := by decide +kernel
theorem dX12_judge_99 : decode cX12_judge 99 = .ok (.ireturn, 1) := by decide +kernel
theorem dX12_judge_100 : decode cX12_judge 100 = .ok (.iinc 3 1, 3) := by decide +kernel
theorem dX12_judge_103 : decode cX12_judge 103 = .ok (.goto (-69), 3) := by decide +kernel
theorem dX12_judge_106 : decode cX12_judge 106 = .ok (.bipush (-5), 2) := by decide +kernel
theorem dX12_judge_108 : decode cX12_judge 108 = .ok (.ireturn, 1) := by decide +kernel
theorem dX12_image_0 : decode cX12_image 0 = .ok (.aload_n 0, 1) := by decide +kernel
theorem dX12_image_1 : decode cX12_image 1 = .ok (.iconst 1, 1) := by decide +kernel
theorem dX12_image_2 : decode cX12_image 2 = .ok (.putfield 126, 3) := by decide +kernel
theorem dX12_image_5 : decode cX12_image 5 = .ok (.aload_n 0, 1) := by decide +kernel
theorem dX12_image_6 : decode cX12_image 6 = .ok (.aload_n 0, 1) := by decide +kernel
theorem dX12_image_7 : decode cX12_image 7 = .ok (.getfield 44, 3) := by decide +kernel
theorem dX12_image_10 : decode cX12_image 10 = .ok (.putfield 130, 3) := by decide +kernel
theorem dX12_image_13 : decode cX12_image 13 = .ok (.aload_n 0, 1) := by decide +kernel
theorem dX12_image_14 : decode cX12_image 14 = .ok (.aload_n 0, 1) := by decide +kernel
theorem dX12_image_15 : decode cX12_image 15 = .ok (.getfield 7, 3) := by decide +kernel
theorem dX12_image_18 : decode cX12_image 18 = .ok (.putfield 133, 3) := by decide +kernel
theorem dX12_image_21 : decode cX12_image 21 = .ok (.aload_n 0, 1) := by decide +kernel
theorem dX12_image_22 : decode cX12_image 22 = .ok (.aload_n 0, 1) := by decide +kernel
theorem dX12_image_23 : decode cX12_image 23 = .ok (.getfield 13, 3) := by decide +kernel
theorem dX12_image_26 : decode cX12_image 26 = .ok (.putfield 136, 3) := by decide +kernel
theorem dX12_image_29 : decode cX12_image 29 = .ok (.aload_n 0, 1) := by decide +kernel
theorem dX12_image_30 : decode cX12_image 30 = .ok (.aload_n 0, 1) := by decide +kernel
theorem dX12_image_31 : decode cX12_image 31 = .ok (.getfield 16, 3) := by decide +kernel
theorem dX12_image_34 : decode cX12_image 34 = .ok (.putfield 139, 3) := by decide +kernel
theorem dX12_image_37 : decode cX12_image 37 = .ok (.aload_n 0, 1) := by decide +kernel
theorem dX12_image_38 : decode cX12_image 38 = .ok (.aload_n 0, 1) := by decide +kernel
theorem dX12_image_39 : decode cX12_image 39 = .ok (.getfield 19, 3) := by decide +kernel
theorem dX12_image_42 : decode cX12_image 42 = .ok (.putfield 142, 3) := by decide +kernel
theorem dX12_image_45 : decode cX12_image 45 = .ok (.aload_n 0, 1) := by decide +kernel
theorem dX12_image_46 : decode cX12_image 46 = .ok (.aload_n 0, 1) := by decide +kernel
theorem dX12_image_47 : decode cX12_image 47 = .ok (.getfield 102, 3) := by decide +kernel
theorem dX12_image_50 : decode cX12_image 50 = .ok (.putfield 145, 3) := by decide +kernel
theorem dX12_image_53 : decode cX12_image 53 = .ok (.aload_n 0, 1) := by decide +kernel
theorem dX12_image_54 : decode cX12_image 54 = .ok (.aload_n 0, 1) := by decide +kernel
theorem dX12_image_55 : decode cX12_image 55 = .ok (.getfield 111, 3) := by decide +kernel
theorem dX12_image_58 : decode cX12_image 58 = .ok (.putfield 148, 3) := by decide +kernel
theorem dX12_image_61 : decode cX12_image 61 = .ok (.iconst 0, 1) := by decide +kernel
theorem dX12_image_62 : decode cX12_image 62 = .ok (.istore_n 1, 1) := by decide +kernel
theorem dX12_image_63 : decode cX12_image 63 = .ok (.iload_n 1, 1) := by decide +kernel
theorem dX12_image_64 : decode cX12_image 64 = .ok (.iconst 4, 1) := by decide +kernel
theorem dX12_image_65 : decode cX12_image 65 = .ok (.if_icmp .ge 69, 3) := by decide +kernel
theorem dX12_image_68 : decode cX12_image 68 = .ok (.aload_n 0, 1) := by decide +kernel
theorem dX12_image_69 : decode cX12_image 69 = .ok (.getfield 151, 3) := by decide +kernel
theorem dX12_image_72 : decode cX12_image 72 = .ok (.iload_n 1, 1) := by decide +kernel
theorem dX12_image_73 : decode cX12_image 73 = .ok (.aload_n 0, 1) := by decide +kernel
theorem dX12_image_74 : decode cX12_image 74 = .ok (.getfield 22, 3) := by decide +kernel
theorem dX12_image_77 : decode cX12_image 77 = .ok (.iload_n 1, 1) := by decide +kernel
theorem dX12_image_78 : decode cX12_image 78 = .ok (.iaload, 1) := by decide +kernel
theorem dX12_image_79 : decode cX12_image 79 = .ok (.iastore, 1) := by decide +kernel
theorem dX12_image_80 : decode cX12_image 80 = .ok (.aload_n 0, 1) := by decide +kernel
theorem dX12_image_81 : decode cX12_image 81 = .ok (.getfield 154, 3) := by decide +kernel
theorem dX12_image_84 : decode cX12_image 84 = .ok (.iload_n 1, 1) := by decide +kernel
theorem dX12_image_85 : decode cX12_image 85 = .ok (.aload_n 0, 1) := by decide +kernel
theorem dX12_image_86 : decode cX12_image 86 = .ok (.getfield 26, 3) := by decide +kernel
theorem dX12_image_89 : decode cX12_image 89 = .ok (.iload_n 1, 1) := by decide +kernel
theorem dX12_image_90 : decode cX12_image 90 = .ok (.iaload, 1) := by decide +kernel
theorem dX12_image_91 : decode cX12_image 91 = .ok (.iastore, 1) := by decide +kernel
theorem dX12_image_92 : decode cX12_image 92 = .ok (.aload_n 0, 1) := by decide +kernel
theorem dX12_image_93 : decode cX12_image 93 = .ok (.getfield 157, 3) := by decide +kernel
theorem dX12_image_96 : decode cX12_image 96 = .ok (.iload_n 1, 1) := by decide +kernel
theorem dX12_image_97 : decode cX12_image 97 = .ok (.aload_n 0, 1) := by decide +kernel
theorem dX12_image_98 : decode cX12_image 98 = .ok (.getfield 29, 3) := by decide +kernel
theorem dX12_image_101 : decode cX12_image 101 = .ok (.iload_n 1, 1) := by decide +kernel
theorem dX12_image_102 : decode cX12_image 102 = .ok (.iaload, 1) := by decide +kernel
theorem dX12_image_103 : decode cX12_image 103 = .ok (.iastore, 1) := by decide +kernel
theorem dX12_image_104 : decode cX12_image 104 = .ok (.aload_n 0, 1) := by decide +kernel
theorem dX12_image_105 : decode cX12_image 105 = .ok (.getfield 160, 3) := by decide +kernel
theorem dX12_image_108 : decode cX12_image 108 = .ok (.iload_n 1, 1) := by decide +kernel
theorem dX12_image_109 : decode cX12_image 109 = .ok (.aload_n 0, 1) := by decide +kernel
theorem dX12_image_110 : decode cX12_image 110 = .ok (.getfield 32, 3) := by decide +kernel
theorem dX12_image_113 : decode cX12_image 113 = .ok (.iload_n 1, 1) := by decide +kernel
theorem dX12_image_114 : decode cX12_image 114 = .ok (.iaload, 1) := by decide +kernel
theorem dX12_image_115 : decode cX12_image 115 = .ok (.iastore, 1) := by decide +kernel
theorem dX12_image_116 : decode cX12_image 116 = .ok (.aload_n 0, 1) := by decide +kernel
theorem dX12_image_117 : decode cX12_image 117 = .ok (.getfield 163, 3) := by decide +kernel
theorem dX12_image_120 : decode cX12_image 120 = .ok (.iload_n 1, 1) := by decide +kernel
theorem dX12_image_121 : decode cX12_image 121 = .ok (.aload_n 0, 1) := by decide +kernel
theorem dX12_image_122 : decode cX12_image 122 = .ok (.getfield 35, 3) := by decide +kernel
theorem dX12_image_125 : decode cX12_image 125 = .ok (.iload_n 1, 1) := by decide +kernel
theorem dX12_image_126 : decode cX12_image 126 = .ok (.iaload, 1) := by decide +kernel
theorem dX12_image_127 : decode cX12_image 127 = .ok (.iastore, 1) := by decide +kernel
theorem dX12_image_128 : decode cX12_image 128 = .ok (.iinc 1 1, 3) := by decide +kernel
theorem dX12_image_131 : decode cX12_image 131 = .ok (.goto (-68), 3) := by decide +kernel
theorem dX12_image_134 : decode cX12_image 134 = .ok (.iconst 0, 1) := by decide +kernel
theorem dX12_image_135 : decode cX12_image 135 = .ok (.istore_n 1, 1) := by decide +kernel
theorem dX12_image_136 : decode cX12_image 136 = .ok (.iload_n 1, 1) := by decide +kernel
theorem dX12_image_137 : decode cX12_image 137 = .ok (.bipush 16, 2) := by decide +kernel
theorem dX12_image_139 : decode cX12_image 139 = .ok (.if_icmp .ge 21, 3) := by decide +kernel
theorem dX12_image_142 : decode cX12_image 142 = .ok (.aload_n 0, 1) := by decide +kernel
theorem dX12_image_143 : decode cX12_image 143 = .ok (.getfield 166, 3) := by decide +kernel
theorem dX12_image_146 : decode cX12_image 146 = .ok (.iload_n 1, 1) := by decide +kernel
theorem dX12_image_147 : decode cX12_image 147 = .ok (.aload_n 0, 1) := by decide +kernel
theorem dX12_image_148 : decode cX12_image 148 = .ok (.getfield 38, 3) := by decide +kernel
theorem dX12_image_151 : decode cX12_image 151 = .ok (.iload_n 1, 1) := by decide +kernel
theorem dX12_image_152 : decode cX12_image 152 = .ok (.iaload, 1) := by decide +kernel
theorem dX12_image_153 : decode cX12_image 153 = .ok (.iastore, 1) := by decide +kernel
theorem dX12_image_154 : decode cX12_image 154 = .ok (.iinc 1 1, 3) := by decide +kernel
theorem dX12_image_157 : decode cX12_image 157 = .ok (.goto (-21), 3) := by decide +kernel
theorem dX12_image_160 : decode cX12_image 160 = .ok (.iconst 0, 1) := by decide +kernel
theorem dX12_image_161 : decode cX12_image 161 = .ok (.istore_n 1, 1) := by decide +kernel
theorem dX12_image_162 : decode cX12_image 162 = .ok (.iload_n 1, 1) := by decide +kernel
theorem dX12_image_163 : decode cX12_image 163 = .ok (.bipush 6, 2) := by decide +kernel
theorem dX12_image_165 : decode cX12_image 165 = .ok (.if_icmp .ge 33, 3) := by decide +kernel
theorem dX12_image_168 : decode cX12_image 168 = .ok (.aload_n 0, 1) := by decide +kernel
theorem dX12_image_169 : decode cX12_image 169 = .ok (.getfield 169, 3) := by decide +kernel
theorem dX12_image_172 : decode cX12_image 172 = .ok (.iload_n 1, 1) := by decide +kernel
theorem dX12_image_173 : decode cX12_image 173 = .ok (.aload_n 0, 1) := by decide +kernel
theorem dX12_image_174 : decode cX12_image 174 = .ok (.getfield 105, 3) := by decide +kernel
theorem dX12_image_177 : decode cX12_image 177 = .ok (.iload_n 1, 1) := by decide +kernel
theorem dX12_image_178 : decode cX12_image 178 = .ok (.iaload, 1) := by decide +kernel
theorem dX12_image_179 : decode cX12_image 179 = .ok (.iastore, 1) := by decide +kernel
theorem dX12_image_180 : decode cX12_image 180 = .ok (.aload_n 0, 1) := by decide +kernel
theorem dX12_image_181 : decode cX12_image 181 = .ok (.getfield 172, 3) := by decide +kernel
theorem dX12_image_184 : decode cX12_image 184 = .ok (.iload_n 1, 1) := by decide +kernel
theorem dX12_image_185 : decode cX12_image 185 = .ok (.aload_n 0, 1) := by decide +kernel
theorem dX12_image_186 : decode cX12_image 186 = .ok (.getfield 108, 3) := by decide +kernel
theorem dX12_image_189 : decode cX12_image 189 = .ok (.iload_n 1, 1) := by decide +kernel
theorem dX12_image_190 : decode cX12_image 190 = .ok (.iaload, 1) := by decide +kernel
theorem dX12_image_191 : decode cX12_image 191 = .ok (.iastore, 1) := by decide +kernel
theorem dX12_image_192 : decode cX12_image 192 = .ok (.iinc 1 1, 3) := by decide +kernel
theorem dX12_image_195 : decode cX12_image 195 = .ok (.goto (-33), 3) := by decide +kernel
theorem dX12_image_198 : decode cX12_image 198 = .ok (.iconst 0, 1) := by decide +kernel
theorem dX12_image_199 : decode cX12_image 199 = .ok (.istore_n 1, 1) := by decide +kernel
theorem dX12_image_200 : decode cX12_image 200 = .ok (.iload_n 1, 1) := by decide +kernel
theorem dX12_image_201 : decode cX12_image 201 = .ok (.bipush 10, 2) := by decide +kernel
theorem dX12_image_203 : decode cX12_image 203 = .ok (.if_icmp .ge 45, 3) := by decide +kernel
theorem dX12_image_206 : decode cX12_image 206 = .ok (.aload_n 0, 1) := by decide +kernel
theorem dX12_image_207 : decode cX12_image 207 = .ok (.getfield 175, 3) := by decide +kernel
theorem dX12_image_210 : decode cX12_image 210 = .ok (.iload_n 1, 1) := by decide +kernel
theorem dX12_image_211 : decode cX12_image 211 = .ok (.aload_n 0, 1) := by decide +kernel
theorem dX12_image_212 : decode cX12_image 212 = .ok (.getfield 114, 3) := by decide +kernel
theorem dX12_image_215 : decode cX12_image 215 = .ok (.iload_n 1, 1) := by decide +kernel
theorem dX12_image_216 : decode cX12_image 216 = .ok (.iaload, 1) := by decide +kernel
theorem dX12_image_217 : decode cX12_image 217 = .ok (.iastore, 1) := by decide +kernel
theorem dX12_image_218 : decode cX12_image 218 = .ok (.aload_n 0, 1) := by decide +kernel
theorem dX12_image_219 : decode cX12_image 219 = .ok (.getfield 178, 3) := by decide +kernel
theorem dX12_image_222 : decode cX12_image 222 = .ok (.iload_n 1, 1) := by decide +kernel
theorem dX12_image_223 : decode cX12_image 223 = .ok (.aload_n 0, 1) := by decide +kernel
theorem dX12_image_224 : decode cX12_image 224 = .ok (.getfield 117, 3) := by decide +kernel
theorem dX12_image_227 : decode cX12_image 227 = .ok (.iload_n 1, 1) := by decide +kernel
theorem dX12_image_228 : decode cX12_image 228 = .ok (.iaload, 1) := by decide +kernel
theorem dX12_image_229 : decode cX12_image 229 = .ok (.iastore, 1) := by decide +kernel
theorem dX12_image_230 : decode cX12_image 230 = .ok (.aload_n 0, 1) := by decide +kernel
theorem dX12_image_231 : decode cX12_image 231 = .ok (.getfield 181, 3) := by decide +kernel
theorem dX12_image_234 : decode cX12_image 234 = .ok (.iload_n 1, 1) := by decide +kernel
theorem dX12_image_235 : decode cX12_image 235 = .ok (.aload_n 0, 1) := by decide +kernel
theorem dX12_image_236 : decode cX12_image 236 = .ok (.getfield 120, 3) := by decide +kernel
theorem dX12_image_239 : decode cX12_image 239 = .ok (.iload_n 1, 1) := by decide +kernel
theorem dX12_image_240 : decode cX12_image 240 = .ok (.iaload, 1) := by decide +kernel
theorem dX12_image_241 : decode cX12_image 241 = .ok (.iastore, 1) := by decide +kernel
theorem dX12_image_242 : decode cX12_image 242 = .ok (.iinc 1 1, 3) := by decide +kernel
theorem dX12_image_245 : decode cX12_image 245 = .ok (.goto (-45), 3) := by decide +kernel
theorem dX12_image_248 : decode cX12_image 248 = .ok (.aload_n 0, 1) := by decide +kernel
theorem dX12_image_249 : decode cX12_image 249 = .ok (.getfield 7, 3) := by decide +kernel
theorem dX12_image_252 : decode cX12_image 252 = .ok (.ireturn, 1) := by decide +kernel
theorem dX12_undo_0 : decode cX12_undo 0 = .ok (.aload_n 0, 1) := by decide +kernel
theorem dX12_undo_1 : decode cX12_undo 1 = .ok (.getfield 126, 3) := by decide +kernel
theorem dX12_undo_4 : decode cX12_undo 4 = .ok (.ifCond .ne 6, 3) := by decide +kernel
theorem dX12_undo_7 : decode cX12_undo 7 = .ok (.bipush (-3), 2) := by decide +kernel
theorem dX12_undo_9 : decode cX12_undo 9 = .ok (.ireturn, 1) := by decide +kernel
theorem dX12_undo_10 : decode cX12_undo 10 = .ok (.aload_n 0, 1) := by decide +kernel
theorem dX12_undo_11 : decode cX12_undo 11 = .ok (.aload_n 0, 1) := by decide +kernel
theorem dX12_undo_12 : decode cX12_undo 12 = .ok (.getfield 130, 3) := by decide +kernel
theorem dX12_undo_15 : decode cX12_undo 15 = .ok (.putfield 44, 3) := by decide +kernel
theorem dX12_undo_18 : decode cX12_undo 18 = .ok (.aload_n 0, 1) := by decide +kernel
theorem dX12_undo_19 : decode cX12_undo 19 = .ok (.aload_n 0, 1) := by decide +kernel
theorem dX12_undo_20 : decode cX12_undo 20 = .ok (.getfield 133, 3) := by decide +kernel
theorem dX12_undo_23 : decode cX12_undo 23 = .ok (.putfield 7, 3) := by decide +kernel
theorem dX12_undo_26 : decode cX12_undo 26 = .ok (.aload_n 0, 1) := by decide +kernel
theorem dX12_undo_27 : decode cX12_undo 27 = .ok (.aload_n 0, 1) := by decide +kernel
theorem dX12_undo_28 : decode cX12_undo 28 = .ok (.getfield 136, 3) := by decide +kernel
theorem dX12_undo_31 : decode cX12_undo 31 = .ok (.putfield 13, 3) := by decide +kernel
theorem dX12_undo_34 : decode cX12_undo 34 = .ok (.aload_n 0, 1) := by decide +kernel
theorem dX12_undo_35 : decode cX12_undo 35 = .ok (.aload_n 0, 1) := by decide +kernel
theorem dX12_undo_36 : decode cX12_undo 36 = .ok (.getfield 139, 3) := by decide +kernel
theorem dX12_undo_39 : decode cX12_undo 39 = .ok (.putfield 16, 3) := by decide +kernel
theorem dX12_undo_42 : decode cX12_undo 42 = .ok (.aload_n 0, 1) := by decide +kernel
theorem dX12_undo_43 : decode cX12_undo 43 = .ok (.aload_n 0, 1) := by decide +kernel
theorem dX12_undo_44 : decode cX12_undo 44 = .ok (.getfield 142, 3) := by decide +kernel
theorem dX12_undo_47 : decode cX12_undo 47 = .ok (.putfield 19, 3) := by decide +kernel
theorem dX12_undo_50 : decode cX12_undo 50 = .ok (.aload_n 0, 1) := by decide +kernel
theorem dX12_undo_51 : decode cX12_undo 51 = .ok (.aload_n 0, 1) := by decide +kernel
theorem dX12_undo_52 : decode cX12_undo 52 = .ok (.getfield 145, 3) := by decide +kernel
theorem dX12_undo_55 : decode cX12_undo 55 = .ok (.putfield 102, 3) := by decide +kernel
theorem dX12_undo_58 : decode cX12_undo 58 = .ok (.aload_n 0, 1) := by decide +kernel
theorem dX12_undo_59 : decode cX12_undo 59 = .ok (.aload_n 0, 1) := by decide +kernel
theorem dX12_undo_60 : decode cX12_undo 60 = .ok (.getfield 148, 3) := by decide +kernel
theorem dX12_undo_63 : decode cX12_undo 63 = .ok (.putfield 111, 3) := by decide +kernel
theorem dX12_undo_66 : decode cX12_undo 66 = .ok (.iconst 0, 1) := by decide +kernel
theorem dX12_undo_67 : decode cX12_undo 67 = .ok (.istore_n 1, 1) := by decide +kernel
theorem dX12_undo_68 : decode cX12_undo 68 = .ok (.iload_n 1, 1) := by decide +kernel
theorem dX12_undo_69 : decode cX12_undo 69 = .ok (.iconst 4, 1) := by decide +kernel
theorem dX12_undo_70 : decode cX12_undo 70 = .ok (.if_icmp .ge 69, 3) := by decide +kernel
theorem dX12_undo_73 : decode cX12_undo 73 = .ok (.aload_n 0, 1) := by decide +kernel
theorem dX12_undo_74 : decode cX12_undo 74 = .ok (.getfield 22, 3) := by decide +kernel
theorem dX12_undo_77 : decode cX12_undo 77 = .ok (.iload_n 1, 1) := by decide +kernel
theorem dX12_undo_78 : decode cX12_undo 78 = .ok (.aload_n 0, 1) := by decide +kernel
theorem dX12_undo_79 : decode cX12_undo 79 = .ok (.getfield 151, 3) := by decide +kernel
theorem dX12_undo_82 : decode cX12_undo 82 = .ok (.iload_n 1, 1) := by decide +kernel
theorem dX12_undo_83 : decode cX12_undo 83 = .ok (.iaload, 1) := by decide +kernel
theorem dX12_undo_84 : decode cX12_undo 84 = .ok (.iastore, 1) := by decide +kernel
theorem dX12_undo_85 : decode cX12_undo 85 = .ok (.aload_n 0, 1) := by decide +kernel
theorem dX12_undo_86 : decode cX12_undo 86 = .ok (.getfield 26, 3) := by decide +kernel
theorem dX12_undo_89 : decode cX12_undo 89 = .ok (.iload_n 1, 1) := by decide +kernel
theorem dX12_undo_90 : decode cX12_undo 90 = .ok (.aload_n 0, 1) := by decide +kernel
theorem dX12_undo_91 : decode cX12_undo 91 = .ok (.getfield 154, 3) := by decide +kernel
theorem dX12_undo_94 : decode cX12_undo 94 = .ok (.iload_n 1, 1) := by decide +kernel
theorem dX12_undo_95 : decode cX12_undo 95 = .ok (.iaload, 1) := by decide +kernel
theorem dX12_undo_96 : decode cX12_undo 96 = .ok (.iastore, 1) := by decide +kernel
theorem dX12_undo_97 : decode cX12_undo 97 = .ok (.aload_n 0, 1) := by decide +kernel
theorem dX12_undo_98 : decode cX12_undo 98 = .ok (.getfield 29, 3) := by decide +kernel
theorem dX12_undo_101 : decode cX12_undo 101 = .ok (.iload_n 1, 1) := by decide +kernel
theorem dX12_undo_102 : decode cX12_undo 102 = .ok (.aload_n 0, 1) := by decide +kernel
theorem dX12_undo_103 : decode cX12_undo 103 = .ok (.getfield 157, 3) := by decide +kernel
theorem dX12_undo_106 : decode cX12_undo 106 = .ok (.iload_n 1, 1) := by decide +kernel
theorem dX12_undo_107 : decode cX12_undo 107 = .ok (.iaload, 1) := by decide +kernel
theorem dX12_undo_108 : decode cX12_undo 108 = .ok (.iastore, 1) := by decide +kernel
theorem dX12_undo_109 : decode cX12_undo 109 = .ok (.aload_n 0, 1) := by decide +kernel
theorem dX12_undo_110 : decode cX12_undo 110 = .ok (.getfield 32, 3) := by decide +kernel
theorem dX12_undo_113 : decode cX12_undo 113 = .ok (.iload_n 1, 1) := by decide +kernel
theorem dX12_undo_114 : decode cX12_undo 114 = .ok (.aload_n 0, 1) := by decide +kernel
theorem dX12_undo_115 : decode cX12_undo 115 = .ok (.getfield 160, 3) := by decide +kernel
theorem dX12_undo_118 : decode cX12_undo 118 = .ok (.iload_n 1, 1) := by decide +kernel
theorem dX12_undo_119 : decode cX12_undo 119 = .ok (.iaload, 1) := by decide +kernel
theorem dX12_undo_120 : decode cX12_undo 120 = .ok (.iastore, 1) := by decide +kernel
theorem dX12_undo_121 : decode cX12_undo 121 = .ok (.aload_n 0, 1) := by decide +kernel
theorem dX12_undo_122 : decode cX12_undo 122 = .ok (.getfield 35, 3) := by decide +kernel
theorem dX12_undo_125 : decode cX12_undo 125 = .ok (.iload_n 1, 1) := by decide +kernel
theorem dX12_undo_126 : decode cX12_undo 126 = .ok (.aload_n 0, 1) := by decide +kernel
theorem dX12_undo_127 : decode cX12_undo 127 = .ok (.getfield 163, 3) := by decide +kernel
theorem dX12_undo_130 : decode cX12_undo 130 = .ok (.iload_n 1, 1) := by decide +kernel
theorem dX12_undo_131 : decode cX12_undo 131 = .ok (.iaload, 1) := by decide +kernel
theorem dX12_undo_132 : decode cX12_undo 132 = .ok (.iastore, 1) := by decide +kernel
theorem dX12_undo_133 : decode cX12_undo 133 = .ok (.iinc 1 1, 3) := by decide +kernel
theorem dX12_undo_136 : decode cX12_undo 136 = .ok (.goto (-68), 3) := by decide +kernel
theorem dX12_undo_139 : decode cX12_undo 139 = .ok (.iconst 0, 1) := by decide +kernel
theorem dX12_undo_140 : decode cX12_undo 140 = .ok (.istore_n 1, 1) := by decide +kernel
theorem dX12_undo_141 : decode cX12_undo 141 = .ok (.iload_n 1, 1) := by decide +kernel
theorem dX12_undo_142 : decode cX12_undo 142 = .ok (.bipush 16, 2) := by decide +kernel
theorem dX12_undo_144 : decode cX12_undo 144 = .ok (.if_icmp .ge 21, 3) := by decide +kernel
theorem dX12_undo_147 : decode cX12_undo 147 = .ok (.aload_n 0, 1) := by decide +kernel
theorem dX12_undo_148 : decode cX12_undo 148 = .ok (.getfield 38, 3) := by decide +kernel
theorem dX12_undo_151 : decode cX12_undo 151 = .ok (.iload_n 1, 1) := by decide +kernel
theorem dX12_undo_152 : decode cX12_undo 152 = .ok (.aload_n 0, 1) := by decide +kernel
theorem dX12_undo_153 : decode cX12_undo 153 = .ok (.getfield 166, 3) := by decide +kernel
theorem dX12_undo_156 : decode cX12_undo 156 = .ok (.iload_n 1, 1) := by decide +kernel
theorem dX12_undo_157 : decode cX12_undo 157 = .ok (.iaload, 1) := by decide +kernel
theorem dX12_undo_158 : decode cX12_undo 158 = .ok (.iastore, 1) := by decide +kernel
theorem dX12_undo_159 : decode cX12_undo 159 = .ok (.iinc 1 1, 3) := by decide +kernel
theorem dX12_undo_162 : decode cX12_undo 162 = .ok (.goto (-21), 3) := by decide +kernel
theorem dX12_undo_165 : decode cX12_undo 165 = .ok (.iconst 0, 1) := by decide +kernel
theorem dX12_undo_166 : decode cX12_undo 166 = .ok (.istore_n 1, 1) := by decide +kernel
theorem dX12_undo_167 : decode cX12_undo 167 = .ok (.iload_n 1, 1) := by decide +kernel
theorem dX12_undo_168 : decode cX12_undo 168 = .ok (.bipush 6, 2) := by decide +kernel
theorem dX12_undo_170 : decode cX12_undo 170 = .ok (.if_icmp .ge 33, 3) := by decide +kernel
theorem dX12_undo_173 : decode cX12_undo 173 = .ok (.aload_n 0, 1) := by decide +kernel
theorem dX12_undo_174 : decode cX12_undo 174 = .ok (.getfield 105, 3) := by decide +kernel
theorem dX12_undo_177 : decode cX12_undo 177 = .ok (.iload_n 1, 1) := by decide +kernel
theorem dX12_undo_178 : decode cX12_undo 178 = .ok (.aload_n 0, 1) := by decide +kernel
theorem dX12_undo_179 : decode cX12_undo 179 = .ok (.getfield 169, 3) := by decide +kernel
theorem dX12_undo_182 : decode cX12_undo 182 = .ok (.iload_n 1, 1) := by decide +kernel
theorem dX12_undo_183 : decode cX12_undo 183 = .ok (.iaload, 1) := by decide +kernel
theorem dX12_undo_184 : decode cX12_undo 184 = .ok (.iastore, 1) := by decide +kernel
theorem dX12_undo_185 : decode cX12_undo 185 = .ok (.aload_n 0, 1) := by decide +kernel
theorem dX12_undo_186 : decode cX12_undo 186 = .ok (.getfield 108, 3) := by decide +kernel
theorem dX12_undo_189 : decode cX12_undo 189 = .ok (.iload_n 1, 1) := by decide +kernel
theorem dX12_undo_190 : decode cX12_undo 190 = .ok (.aload_n 0, 1) := by decide +kernel
theorem dX12_undo_191 : decode cX12_undo 191 = .ok (.getfield 172, 3) := by decide +kernel
theorem dX12_undo_194 : decode cX12_undo 194 = .ok (.iload_n 1, 1) := by decide +kernel
theorem dX12_undo_195 : decode cX12_undo 195 = .ok (.iaload, 1) := by decide +kernel
theorem dX12_undo_196 : decode cX12_undo 196 = .ok (.iastore, 1) := by decide +kernel
theorem dX12_undo_197 : decode cX12_undo 197 = .ok (.iinc 1 1, 3) := by decide +kernel
theorem dX12_undo_200 : decode cX12_undo 200 = .ok (.goto (-33), 3) := by decide +kernel
theorem dX12_undo_203 : decode cX12_undo 203 = .ok (.iconst 0, 1) := by decide +kernel
theorem dX12_undo_204 : decode cX12_undo 204 = .ok (.istore_n 1, 1) := by decide +kernel
theorem dX12_undo_205 : decode cX12_undo 205 = .ok (.iload_n 1, 1) := by decide +kernel
theorem dX12_undo_206 : decode cX12_undo 206 = .ok (.bipush 10, 2) := by decide +kernel
theorem dX12_undo_208 : decode cX12_undo 208 = .ok (.if_icmp .ge 45, 3) := by decide +kernel
theorem dX12_undo_211 : decode cX12_undo 211 = .ok (.aload_n 0, 1) := by decide +kernel
theorem dX12_undo_212 : decode cX12_undo 212 = .ok (.getfield 114, 3) := by decide +kernel
theorem dX12_undo_215 : decode cX12_undo 215 = .ok (.iload_n 1, 1) := by decide +kernel
theorem dX12_undo_216 : decode cX12_undo 216 = .ok (.aload_n 0, 1) := by decide +kernel
theorem dX12_undo_217 : decode cX12_undo 217 = .ok (.getfield 175, 3) := by decide +kernel
theorem dX12_undo_220 : decode cX12_undo 220 = .ok (.iload_n 1, 1) := by decide +kernel
theorem dX12_undo_221 : decode cX12_undo 221 = .ok (.iaload, 1) := by decide +kernel
theorem dX12_undo_222 : decode cX12_undo 222 = .ok (.iastore, 1) := by decide +kernel
theorem dX12_undo_223 : decode cX12_undo 223 = .ok (.aload_n 0, 1) := by decide +kernel
theorem dX12_undo_224 : decode cX12_undo 224 = .ok (.getfield 117, 3) := by decide +kernel
theorem dX12_undo_227 : decode cX12_undo 227 = .ok (.iload_n 1, 1) := by decide +kernel
theorem dX12_undo_228 : decode cX12_undo 228 = .ok (.aload_n 0, 1) := by decide +kernel
theorem dX12_undo_229 : decode cX12_undo 229 = .ok (.getfield 178, 3) := by decide +kernel
theorem dX12_undo_232 : decode cX12_undo 232 = .ok (.iload_n 1, 1) := by decide +kernel
theorem dX12_undo_233 : decode cX12_undo 233 = .ok (.iaload, 1) := by decide +kernel
theorem dX12_undo_234 : decode cX12_undo 234 = .ok (.iastore, 1) := by decide +kernel
theorem dX12_undo_235 : decode cX12_undo 235 = .ok (.aload_n 0, 1) := by decide +kernel
theorem dX12_undo_236 : decode cX12_undo 236 = .ok (.getfield 120, 3) := by decide +kernel
theorem dX12_undo_239 : decode cX12_undo 239 = .ok (.iload_n 1, 1) := by decide +kernel
theorem dX12_undo_240 : decode cX12_undo 240 = .ok (.aload_n 0, 1) := by decide +kernel
theorem dX12_undo_241 : decode cX12_undo 241 = .ok (.getfield 181, 3) := by decide +kernel
theorem dX12_undo_244 : decode cX12_undo 244 = .ok (.iload_n 1, 1) := by decide +kernel
theorem dX12_undo_245 : decode cX12_undo 245 = .ok (.iaload, 1) := by decide +kernel
theorem dX12_undo_246 : decode cX12_undo 246 = .ok (.iastore, 1) := by decide +kernel
theorem dX12_undo_247 : decode cX12_undo 247 = .ok (.iinc 1 1, 3) := by decide +kernel
theorem dX12_undo_250 : decode cX12_undo 250 = .ok (.goto (-45), 3) := by decide +kernel
theorem dX12_undo_253 : decode cX12_undo 253 = .ok (.aload_n 0, 1) := by decide +kernel
theorem dX12_undo_254 : decode cX12_undo 254 = .ok (.getfield 7, 3) := by decide +kernel
theorem dX12_undo_257 : decode cX12_undo 257 = .ok (.ireturn, 1) := by decide +kernel
theorem dX12_body_0 : decode cX12_body 0 = .ok (.aload_n 0, 1) := by decide +kernel
theorem dX12_body_1 : decode cX12_body 1 = .ok (.getfield 184, 3) := by decide +kernel
theorem dX12_body_4 : decode cX12_body 4 = .ok (.bipush 20, 2) := by decide +kernel
theorem dX12_body_6 : decode cX12_body 6 = .ok (.if_icmp .ge 13, 3) := by decide +kernel
theorem dX12_body_9 : decode cX12_body 9 = .ok (.aload_n 0, 1) := by decide +kernel
theorem dX12_body_10 : decode cX12_body 10 = .ok (.getfield 187, 3) := by decide +kernel
theorem dX12_body_13 : decode cX12_body 13 = .ok (.aload_n 0, 1) := by decide +kernel
theorem dX12_body_14 : decode cX12_body 14 = .ok (.getfield 184, 3) := by decide +kernel
theorem dX12_body_17 : decode cX12_body 17 = .ok (.iload_n 1, 1) := by decide +kernel
theorem dX12_body_18 : decode cX12_body 18 = .ok (.iastore, 1) := by decide +kernel
theorem dX12_body_19 : decode cX12_body 19 = .ok (.aload_n 0, 1) := by decide +kernel
theorem dX12_body_20 : decode cX12_body 20 = .ok (.dup, 1) := by decide +kernel
theorem dX12_body_21 : decode cX12_body 21 = .ok (.getfield 184, 3) := by decide +kernel
theorem dX12_body_24 : decode cX12_body 24 = .ok (.iconst 1, 1) := by decide +kernel
theorem dX12_body_25 : decode cX12_body 25 = .ok (.iadd, 1) := by decide +kernel
theorem dX12_body_26 : decode cX12_body 26 = .ok (.putfield 184, 3) := by decide +kernel
theorem dX12_body_29 : decode cX12_body 29 = .ok (.return_, 1) := by decide +kernel
theorem dX12_serverTosses_0 : decode cX12_serverTosses 0 = .ok (.aload_n 0, 1) := by decide +kernel
theorem dX12_serverTosses_1 : decode cX12_serverTosses 1 = .ok (.bipush 10, 2) := by decide +kernel
theorem dX12_serverTosses_3 : decode cX12_serverTosses 3 = .ok (.invokevirtual 342, 3) := by decide +kernel
theorem dX12_serverTosses_6 : decode cX12_serverTosses 6 = .ok (.iload_n 2, 1) := by decide +kernel
theorem dX12_serverTosses_7 : decode cX12_serverTosses 7 = .ok (.iload_n 1, 1) := by decide +kernel
theorem dX12_serverTosses_8 : decode cX12_serverTosses 8 = .ok (.iadd, 1) := by decide +kernel
theorem dX12_serverTosses_9 : decode cX12_serverTosses 9 = .ok (.ireturn, 1) := by decide +kernel
theorem dX12_tossesAct_0 : decode cX12_tossesAct 0 = .ok (.aload_n 0, 1) := by decide +kernel
theorem dX12_tossesAct_1 : decode cX12_tossesAct 1 = .ok (.getfield 22, 3) := by decide +kernel
theorem dX12_tossesAct_4 : decode cX12_tossesAct 4 = .ok (.iload_n 1, 1) := by decide +kernel
theorem dX12_tossesAct_5 : decode cX12_tossesAct 5 = .ok (.iaload, 1) := by decide +kernel
theorem dX12_tossesAct_6 : decode cX12_tossesAct 6 = .ok (.tableswitch 83 2 6 #[34, 83, 49, 34, 63], 34) := by decide +kernel
theorem dX12_tossesAct_40 : decode cX12_tossesAct 40 = .ok (.aload_n 0, 1) := by decide +kernel
theorem dX12_tossesAct_41 : decode cX12_tossesAct 41 = .ok (.bipush 30, 2) := by decide +kernel
theorem dX12_tossesAct_43 : decode cX12_tossesAct 43 = .ok (.invokevirtual 342, 3) := by decide +kernel
theorem dX12_tossesAct_46 : decode cX12_tossesAct 46 = .ok (.aload_n 0, 1) := by decide +kernel
theorem dX12_tossesAct_47 : decode cX12_tossesAct 47 = .ok (.iload_n 1, 1) := by decide +kernel
theorem dX12_tossesAct_48 : decode cX12_tossesAct 48 = .ok (.iload_n 2, 1) := by decide +kernel
theorem dX12_tossesAct_49 : decode cX12_tossesAct 49 = .ok (.iconst 3, 1) := by decide +kernel
theorem dX12_tossesAct_50 : decode cX12_tossesAct 50 = .ok (.imul, 1) := by decide +kernel
theorem dX12_tossesAct_51 : decode cX12_tossesAct 51 = .ok (.invokevirtual 345, 3) := by decide +kernel
theorem dX12_tossesAct_54 : decode cX12_tossesAct 54 = .ok (.ireturn, 1) := by decide +kernel
theorem dX12_tossesAct_55 : decode cX12_tossesAct 55 = .ok (.aload_n 0, 1) := by decide +kernel
theorem dX12_tossesAct_56 : decode cX12_tossesAct 56 = .ok (.bipush 50, 2) := by decide +kernel
theorem dX12_tossesAct_58 : decode cX12_tossesAct 58 = .ok (.invokevirtual 342, 3) := by decide +kernel
theorem dX12_tossesAct_61 : decode cX12_tossesAct 61 = .ok (.aload_n 0, 1) := by decide +kernel
theorem dX12_tossesAct_62 : decode cX12_tossesAct 62 = .ok (.iload_n 1, 1) := by decide +kernel
theorem dX12_tossesAct_63 : decode cX12_tossesAct 63 = .ok (.iload_n 2, 1) := by decide +kernel
theorem dX12_tossesAct_64 : decode cX12_tossesAct 64 = .ok (.invokevirtual 345, 3) := by decide +kernel
theorem dX12_tossesAct_67 : decode cX12_tossesAct 67 = .ok (.ineg, 1) := by decide +kernel
theorem dX12_tossesAct_68 : decode cX12_tossesAct 68 = .ok (.ireturn, 1) := by decide +kernel
theorem dX12_tossesAct_69 : decode cX12_tossesAct 69 = .ok (.aload_n 0, 1) := by decide +kernel
theorem dX12_tossesAct_70 : decode cX12_tossesAct 70 = .ok (.bipush 71, 2) := by decide +kernel
theorem dX12_tossesAct_72 : decode cX12_tossesAct 72 = .ok (.invokevirtual 342, 3) := by decide +kernel
theorem dX12_tossesAct_75 : decode cX12_tossesAct 75 = .ok (.aload_n 0, 1) := by decide +kernel
theorem dX12_tossesAct_76 : decode cX12_tossesAct 76 = .ok (.iload_n 1, 1) := by decide +kernel
theorem dX12_tossesAct_77 : decode cX12_tossesAct 77 = .ok (.iload_n 2, 1) := by decide +kernel
theorem dX12_tossesAct_78 : decode cX12_tossesAct 78 = .ok (.invokevirtual 345, 3) := by decide +kernel
theorem dX12_tossesAct_81 : decode cX12_tossesAct 81 = .ok (.aload_n 0, 1) := by decide +kernel
theorem dX12_tossesAct_82 : decode cX12_tossesAct 82 = .ok (.getfield 26, 3) := by decide +kernel
theorem dX12_tossesAct_85 : decode cX12_tossesAct 85 = .ok (.iload_n 1, 1) := by decide +kernel
theorem dX12_tossesAct_86 : decode cX12_tossesAct 86 = .ok (.iaload, 1) := by decide +kernel
theorem dX12_tossesAct_87 : decode cX12_tossesAct 87 = .ok (.ixor, 1) := by decide +kernel
theorem dX12_tossesAct_88 : decode cX12_tossesAct 88 = .ok (.ireturn, 1) := by decide +kernel
theorem dX12_tossesAct_89 : decode cX12_tossesAct 89 = .ok (.aload_n 0, 1) := by decide +kernel
theorem dX12_tossesAct_90 : decode cX12_tossesAct 90 = .ok (.iload_n 1, 1) := by decide +kernel
theorem dX12_tossesAct_91 : decode cX12_tossesAct 91 = .ok (.iload_n 2, 1) := by decide +kernel
theorem dX12_tossesAct_92 : decode cX12_tossesAct 92 = .ok (.invokevirtual 345, 3) := by decide +kernel
theorem dX12_tossesAct_95 : decode cX12_tossesAct 95 = .ok (.ireturn, 1) := by decide +kernel
theorem dX12_serverStrikes_0 : decode cX12_serverStrikes 0 = .ok (.aload_n 0, 1) := by decide +kernel
theorem dX12_serverStrikes_1 : decode cX12_serverStrikes 1 = .ok (.bipush 11, 2) := by decide +kernel
theorem dX12_serverStrikes_3 : decode cX12_serverStrikes 3 = .ok (.invokevirtual 342, 3) := by decide +kernel
theorem dX12_serverStrikes_6 : decode cX12_serverStrikes 6 = .ok (.aload_n 0, 1) := by decide +kernel
theorem dX12_serverStrikes_7 : decode cX12_serverStrikes 7 = .ok (.iload_n 1, 1) := by decide +kernel
theorem dX12_serverStrikes_8 : decode cX12_serverStrikes 8 = .ok (.iload_n 2, 1) := by decide +kernel
theorem dX12_serverStrikes_9 : decode cX12_serverStrikes 9 = .ok (.invokevirtual 348, 3) := by decide +kernel
theorem dX12_serverStrikes_12 : decode cX12_serverStrikes 12 = .ok (.aload_n 0, 1) := by decide +kernel
theorem dX12_serverStrikes_13 : decode cX12_serverStrikes 13 = .ok (.getfield 26, 3) := by decide +kernel
theorem dX12_serverStrikes_16 : decode cX12_serverStrikes 16 = .ok (.iload_n 1, 1) := by decide +kernel
theorem dX12_serverStrikes_17 : decode cX12_serverStrikes 17 = .ok (.iaload, 1) := by decide +kernel
theorem dX12_serverStrikes_18 : decode cX12_serverStrikes 18 = .ok (.isub, 1) := by decide +kernel
theorem dX12_serverStrikes_19 : decode cX12_serverStrikes 19 = .ok (.ireturn, 1) := by decide +kernel
theorem dX12_daringStrikes_0 : decode cX12_daringStrikes 0 = .ok (.aload_n 0, 1) := by decide +kernel
theorem dX12_daringStrikes_1 : decode cX12_daringStrikes 1 = .ok (.bipush 20, 2) := by decide +kernel
theorem dX12_daringStrikes_3 : decode cX12_daringStrikes 3 = .ok (.invokevirtual 342, 3) := by decide +kernel
theorem dX12_daringStrikes_6 : decode cX12_daringStrikes 6 = .ok (.aload_n 0, 1) := by decide +kernel
theorem dX12_daringStrikes_7 : decode cX12_daringStrikes 7 = .ok (.iload_n 1, 1) := by decide +kernel
theorem dX12_daringStrikes_8 : decode cX12_daringStrikes 8 = .ok (.iload_n 2, 1) := by decide +kernel
theorem dX12_daringStrikes_9 : decode cX12_daringStrikes 9 = .ok (.invokevirtual 351, 3) := by decide +kernel
theorem dX12_daringStrikes_12 : decode cX12_daringStrikes 12 = .ok (.bipush 6, 2) := by decide +kernel
theorem dX12_daringStrikes_14 : decode cX12_daringStrikes 14 = .ok (.ixor, 1) := by decide +kernel
theorem dX12_daringStrikes_15 : decode cX12_daringStrikes 15 = .ok (.ireturn, 1) := by decide +kernel
theorem dX12_strikesAct_0 : decode cX12_strikesAct 0 = .ok (.aload_n 0, 1) := by decide +kernel
theorem dX12_strikesAct_1 : decode cX12_strikesAct 1 = .ok (.getfield 22, 3) := by decide +kernel
theorem dX12_strikesAct_4 : decode cX12_strikesAct 4 = .ok (.iload_n 1, 1) := by decide +kernel
theorem dX12_strikesAct_5 : decode cX12_strikesAct 5 = .ok (.iaload, 1) := by decide +kernel
theorem dX12_strikesAct_6 : decode cX12_strikesAct 6 = .ok (.lookupswitch 78 #[(1, 34), (4, 41), (6, 56)], 34) := by decide +kernel
theorem dX12_strikesAct_40 : decode cX12_strikesAct 40 = .ok (.aload_n 0, 1) := by decide +kernel
theorem dX12_strikesAct_41 : decode cX12_strikesAct 41 = .ok (.iload_n 1, 1) := by decide +kernel
theorem dX12_strikesAct_42 : decode cX12_strikesAct 42 = .ok (.iload_n 2, 1) := by decide +kernel
theorem dX12_strikesAct_43 : decode cX12_strikesAct 43 = .ok (.invokevirtual 354, 3) := by decide +kernel
theorem dX12_strikesAct_46 : decode cX12_strikesAct 46 = .ok (.ireturn, 1) := by decide +kernel
theorem dX12_strikesAct_47 : decode cX12_strikesAct 47 = .ok (.aload_n 0, 1) := by decide +kernel
theorem dX12_strikesAct_48 : decode cX12_strikesAct 48 = .ok (.bipush 51, 2) := by decide +kernel
theorem dX12_strikesAct_50 : decode cX12_strikesAct 50 = .ok (.invokevirtual 342, 3) := by decide +kernel
theorem dX12_strikesAct_53 : decode cX12_strikesAct 53 = .ok (.aload_n 0, 1) := by decide +kernel
theorem dX12_strikesAct_54 : decode cX12_strikesAct 54 = .ok (.iload_n 1, 1) := by decide +kernel
theorem dX12_strikesAct_55 : decode cX12_strikesAct 55 = .ok (.iload_n 2, 1) := by decide +kernel
theorem dX12_strikesAct_56 : decode cX12_strikesAct 56 = .ok (.iconst 1, 1) := by decide +kernel
theorem dX12_strikesAct_57 : decode cX12_strikesAct 57 = .ok (.iadd, 1) := by decide +kernel
theorem dX12_strikesAct_58 : decode cX12_strikesAct 58 = .ok (.invokevirtual 354, 3) := by decide +kernel
theorem dX12_strikesAct_61 : decode cX12_strikesAct 61 = .ok (.ireturn, 1) := by decide +kernel
theorem dX12_strikesAct_62 : decode cX12_strikesAct 62 = .ok (.aload_n 0, 1) := by decide +kernel
theorem dX12_strikesAct_63 : decode cX12_strikesAct 63 = .ok (.bipush 70, 2) := by decide +kernel
theorem dX12_strikesAct_65 : decode cX12_strikesAct 65 = .ok (.invokevirtual 342, 3) := by decide +kernel
theorem dX12_strikesAct_68 : decode cX12_strikesAct 68 = .ok (.aload_n 0, 1) := by decide +kernel
theorem dX12_strikesAct_69 : decode cX12_strikesAct 69 = .ok (.iload_n 1, 1) := by decide +kernel
theorem dX12_strikesAct_70 : decode cX12_strikesAct 70 = .ok (.iload_n 2, 1) := by decide +kernel
theorem dX12_strikesAct_71 : decode cX12_strikesAct 71 = .ok (.invokevirtual 351, 3) := by decide +kernel
theorem dX12_strikesAct_74 : decode cX12_strikesAct 74 = .ok (.istore_n 3, 1) := by decide +kernel
theorem dX12_strikesAct_75 : decode cX12_strikesAct 75 = .ok (.iload_n 3, 1) := by decide +kernel
theorem dX12_strikesAct_76 : decode cX12_strikesAct 76 = .ok (.aload_n 0, 1) := by decide +kernel
theorem dX12_strikesAct_77 : decode cX12_strikesAct 77 = .ok (.iload_n 1, 1) := by decide +kernel
theorem dX12_strikesAct_78 : decode cX12_strikesAct 78 = .ok (.iconst 2, 1) := by decide +kernel
theorem dX12_strikesAct_79 : decode cX12_strikesAct 79 = .ok (.invokevirtual 345, 3) := by decide +kernel
theorem dX12_strikesAct_82 : decode cX12_strikesAct 82 = .ok (.iadd, 1) := by decide +kernel
theorem dX12_strikesAct_83 : decode cX12_strikesAct 83 = .ok (.ireturn, 1) := by decide +kernel
theorem dX12_strikesAct_84 : decode cX12_strikesAct 84 = .ok (.aload_n 0, 1) := by decide +kernel
theorem dX12_strikesAct_85 : decode cX12_strikesAct 85 = .ok (.iload_n 1, 1) := by decide +kernel
theorem dX12_strikesAct_86 : decode cX12_strikesAct 86 = .ok (.iload_n 2, 1) := by decide +kernel
theorem dX12_strikesAct_87 : decode cX12_strikesAct 87 = .ok (.invokevirtual 351, 3) := by decide +kernel
theorem dX12_strikesAct_90 : decode cX12_strikesAct 90 = .ok (.ireturn, 1) := by decide +kernel
theorem dX12_serverTells_0 : decode cX12_serverTells 0 = .ok (.aload_n 0, 1) := by decide +kernel
theorem dX12_serverTells_1 : decode cX12_serverTells 1 = .ok (.bipush 12, 2) := by decide +kernel
theorem dX12_serverTells_3 : decode cX12_serverTells 3 = .ok (.invokevirtual 342, 3) := by decide +kernel
theorem dX12_serverTells_6 : decode cX12_serverTells 6 = .ok (.aload_n 0, 1) := by decide +kernel
theorem dX12_serverTells_7 : decode cX12_serverTells 7 = .ok (.iload_n 1, 1) := by decide +kernel
theorem dX12_serverTells_8 : decode cX12_serverTells 8 = .ok (.iload_n 2, 1) := by decide +kernel
theorem dX12_serverTells_9 : decode cX12_serverTells 9 = .ok (.invokevirtual 357, 3) := by decide +kernel
theorem dX12_serverTells_12 : decode cX12_serverTells 12 = .ok (.iconst 2, 1) := by decide +kernel
theorem dX12_serverTells_13 : decode cX12_serverTells 13 = .ok (.imul, 1) := by decide +kernel
theorem dX12_serverTells_14 : decode cX12_serverTells 14 = .ok (.ireturn, 1) := by decide +kernel
theorem dX12_tellsAct_0 : decode cX12_tellsAct 0 = .ok (.aload_n 0, 1) := by decide +kernel
theorem dX12_tellsAct_1 : decode cX12_tellsAct 1 = .ok (.getfield 22, 3) := by decide +kernel
theorem dX12_tellsAct_4 : decode cX12_tellsAct 4 = .ok (.iload_n 1, 1) := by decide +kernel
theorem dX12_tellsAct_5 : decode cX12_tellsAct 5 = .ok (.iaload, 1) := by decide +kernel
theorem dX12_tellsAct_6 : decode cX12_tellsAct 6 = .ok (.tableswitch 67 3 6 #[30, 67, 52, 30], 30) := by decide +kernel
theorem dX12_tellsAct_36 : decode cX12_tellsAct 36 = .ok (.aload_n 0, 1) := by decide +kernel
theorem dX12_tellsAct_37 : decode cX12_tellsAct 37 = .ok (.bipush 40, 2) := by decide +kernel
theorem dX12_tellsAct_39 : decode cX12_tellsAct 39 = .ok (.invokevirtual 342, 3) := by decide +kernel
theorem dX12_tellsAct_42 : decode cX12_tellsAct 42 = .ok (.aload_n 0, 1) := by decide +kernel
theorem dX12_tellsAct_43 : decode cX12_tellsAct 43 = .ok (.iload_n 1, 1) := by decide +kernel
theorem dX12_tellsAct_44 : decode cX12_tellsAct 44 = .ok (.iload_n 2, 1) := by decide +kernel
theorem dX12_tellsAct_45 : decode cX12_tellsAct 45 = .ok (.invokevirtual 360, 3) := by decide +kernel
theorem dX12_tellsAct_48 : decode cX12_tellsAct 48 = .ok (.istore_n 3, 1) := by decide +kernel
theorem dX12_tellsAct_49 : decode cX12_tellsAct 49 = .ok (.iload_n 3, 1) := by decide +kernel
theorem dX12_tellsAct_50 : decode cX12_tellsAct 50 = .ok (.aload_n 0, 1) := by decide +kernel
theorem dX12_tellsAct_51 : decode cX12_tellsAct 51 = .ok (.iload_n 1, 1) := by decide +kernel
theorem dX12_tellsAct_52 : decode cX12_tellsAct 52 = .ok (.iconst 1, 1) := by decide +kernel
theorem dX12_tellsAct_53 : decode cX12_tellsAct 53 = .ok (.invokevirtual 357, 3) := by decide +kernel
theorem dX12_tellsAct_56 : decode cX12_tellsAct 56 = .ok (.iadd, 1) := by decide +kernel
theorem dX12_tellsAct_57 : decode cX12_tellsAct 57 = .ok (.ireturn, 1) := by decide +kernel
theorem dX12_tellsAct_58 : decode cX12_tellsAct 58 = .ok (.aload_n 0, 1) := by decide +kernel
theorem dX12_tellsAct_59 : decode cX12_tellsAct 59 = .ok (.bipush 60, 2) := by decide +kernel
theorem dX12_tellsAct_61 : decode cX12_tellsAct 61 = .ok (.invokevirtual 342, 3) := by decide +kernel
theorem dX12_tellsAct_64 : decode cX12_tellsAct 64 = .ok (.aload_n 0, 1) := by decide +kernel
theorem dX12_tellsAct_65 : decode cX12_tellsAct 65 = .ok (.iload_n 1, 1) := by decide +kernel
theorem dX12_tellsAct_66 : decode cX12_tellsAct 66 = .ok (.iload_n 2, 1) := by decide +kernel
theorem dX12_tellsAct_67 : decode cX12_tellsAct 67 = .ok (.iload_n 1, 1) := by decide +kernel
theorem dX12_tellsAct_68 : decode cX12_tellsAct 68 = .ok (.isub, 1) := by decide +kernel
theorem dX12_tellsAct_69 : decode cX12_tellsAct 69 = .ok (.invokevirtual 360, 3) := by decide +kernel
theorem dX12_tellsAct_72 : decode cX12_tellsAct 72 = .ok (.ireturn, 1) := by decide +kernel
theorem dX12_tellsAct_73 : decode cX12_tellsAct 73 = .ok (.aload_n 0, 1) := by decide +kernel
theorem dX12_tellsAct_74 : decode cX12_tellsAct 74 = .ok (.iload_n 1, 1) := by decide +kernel
theorem dX12_tellsAct_75 : decode cX12_tellsAct 75 = .ok (.iload_n 2, 1) := by decide +kernel
theorem dX12_tellsAct_76 : decode cX12_tellsAct 76 = .ok (.invokevirtual 360, 3) := by decide +kernel
theorem dX12_tellsAct_79 : decode cX12_tellsAct 79 = .ok (.ireturn, 1) := by decide +kernel
theorem dX12_act_0 : decode cX12_act 0 = .ok (.aload_n 0, 1) := by decide +kernel
theorem dX12_act_1 : decode cX12_act 1 = .ok (.iconst 0, 1) := by decide +kernel
theorem dX12_act_2 : decode cX12_act 2 = .ok (.putfield 184, 3) := by decide +kernel
theorem dX12_act_5 : decode cX12_act 5 = .ok (.aload_n 0, 1) := by decide +kernel
theorem dX12_act_6 : decode cX12_act 6 = .ok (.iload_n 1, 1) := by decide +kernel
theorem dX12_act_7 : decode cX12_act 7 = .ok (.invokevirtual 211, 3) := by decide +kernel
theorem dX12_act_10 : decode cX12_act 10 = .ok (.ifCond .eq 13, 3) := by decide +kernel
theorem dX12_act_13 : decode cX12_act 13 = .ok (.aload_n 0, 1) := by decide +kernel
theorem dX12_act_14 : decode cX12_act 14 = .ok (.iload_n 2, 1) := by decide +kernel
theorem dX12_act_15 : decode cX12_act 15 = .ok (.iconst 0, 1) := by decide +kernel
theorem dX12_act_16 : decode cX12_act 16 = .ok (.iconst 2, 1) := by decide +kernel
theorem dX12_act_17 : decode cX12_act 17 = .ok (.invokevirtual 203, 3) := by decide +kernel
theorem dX12_act_20 : decode cX12_act 20 = .ok (.ifCond .ne 5, 3) := by decide +kernel
theorem dX12_act_23 : decode cX12_act 23 = .ok (.iconst 0, 1) := by decide +kernel
theorem dX12_act_24 : decode cX12_act 24 = .ok (.ireturn, 1) := by decide +kernel
theorem dX12_act_25 : decode cX12_act 25 = .ok (.iload_n 2, 1) := by decide +kernel
theorem dX12_act_26 : decode cX12_act 26 = .ok (.ifCond .ne 12, 3) := by decide +kernel
theorem dX12_act_29 : decode cX12_act 29 = .ok (.aload_n 0, 1) := by decide +kernel
theorem dX12_act_30 : decode cX12_act 30 = .ok (.iload_n 1, 1) := by decide +kernel
theorem dX12_act_31 : decode cX12_act 31 = .ok (.iload_n 3, 1) := by decide +kernel
theorem dX12_act_32 : decode cX12_act 32 = .ok (.invokevirtual 348, 3) := by decide +kernel
theorem dX12_act_35 : decode cX12_act 35 = .ok (.goto 23, 3) := by decide +kernel
theorem dX12_act_38 : decode cX12_act 38 = .ok (.iload_n 2, 1) := by decide +kernel
theorem dX12_act_39 : decode cX12_act 39 = .ok (.iconst 1, 1) := by decide +kernel
theorem dX12_act_40 : decode cX12_act 40 = .ok (.if_icmp .ne 12, 3) := by decide +kernel
theorem dX12_act_43 : decode cX12_act 43 = .ok (.aload_n 0, 1) := by decide +kernel
theorem dX12_act_44 : decode cX12_act 44 = .ok (.iload_n 1, 1) := by decide +kernel
theorem dX12_act_45 : decode cX12_act 45 = .ok (.iload_n 3, 1) := by decide +kernel
theorem dX12_act_46 : decode cX12_act 46 = .ok (.invokevirtual 357, 3) := by decide +kernel
theorem dX12_act_49 : decode cX12_act 49 = .ok (.goto 9, 3) := by decide +kernel
theorem dX12_act_52 : decode cX12_act 52 = .ok (.aload_n 0, 1) := by decide +kernel
theorem dX12_act_53 : decode cX12_act 53 = .ok (.iload_n 1, 1) := by decide +kernel
theorem dX12_act_54 : decode cX12_act 54 = .ok (.iload_n 3, 1) := by decide +kernel
theorem dX12_act_55 : decode cX12_act 55 = .ok (.invokevirtual 363, 3) := by decide +kernel
theorem dX12_act_58 : decode cX12_act 58 = .ok (.ireturn, 1) := by decide +kernel
theorem dX12_trace_0 : decode cX12_trace 0 = .ok (.aload_n 0, 1) := by decide +kernel
theorem dX12_trace_1 : decode cX12_trace 1 = .ok (.iload_n 1, 1) := by decide +kernel
theorem dX12_trace_2 : decode cX12_trace 2 = .ok (.iconst 0, 1) := by decide +kernel
theorem dX12_trace_3 : decode cX12_trace 3 = .ok (.bipush 19, 2) := by decide +kernel
theorem dX12_trace_5 : decode cX12_trace 5 = .ok (.invokevirtual 203, 3) := by decide +kernel
theorem dX12_trace_8 : decode cX12_trace 8 = .ok (.ifCond .eq 20, 3) := by decide +kernel
theorem dX12_trace_11 : decode cX12_trace 11 = .ok (.iload_n 1, 1) := by decide +kernel
theorem dX12_trace_12 : decode cX12_trace 12 = .ok (.aload_n 0, 1) := by decide +kernel
theorem dX12_trace_13 : decode cX12_trace 13 = .ok (.getfield 184, 3) := by decide +kernel
theorem dX12_trace_16 : decode cX12_trace 16 = .ok (.if_icmp .ge 12, 3) := by decide +kernel
theorem dX12_trace_19 : decode cX12_trace 19 = .ok (.aload_n 0, 1) := by decide +kernel
theorem dX12_trace_20 : decode cX12_trace 20 = .ok (.getfield 187, 3) := by decide +kernel
theorem dX12_trace_23 : decode cX12_trace 23 = .ok (.iload_n 1, 1) := by decide +kernel
theorem dX12_trace_24 : decode cX12_trace 24 = .ok (.iaload, 1) := by decide +kernel
theorem dX12_trace_25 : decode cX12_trace 25 = .ok (.goto 4, 3) := by decide +kernel
theorem dX12_trace_28 : decode cX12_trace 28 = .ok (.iconst (-1), 1) := by decide +kernel
theorem dX12_trace_29 : decode cX12_trace 29 = .ok (.ireturn, 1) := by decide +kernel
theorem dX12_taken_0 : decode cX12_taken 0 = .ok (.aload_n 0, 1) := by decide +kernel
theorem dX12_taken_1 : decode cX12_taken 1 = .ok (.iload_n 2, 1) := by decide +kernel
theorem dX12_taken_2 : decode cX12_taken 2 = .ok (.iconst 0, 1) := by decide +kernel
theorem dX12_taken_3 : decode cX12_taken 3 = .ok (.bipush 6, 2) := by decide +kernel
theorem dX12_taken_5 : decode cX12_taken 5 = .ok (.invokevirtual 203, 3) := by decide +kernel
theorem dX12_taken_8 : decode cX12_taken 8 = .ok (.ifCond .ne 6, 3) := by decide +kernel
theorem dX12_taken_11 : decode cX12_taken 11 = .ok (.bipush (-2), 2) := by decide +kernel
theorem dX12_taken_13 : decode cX12_taken 13 = .ok (.ireturn, 1) := by decide +kernel
theorem dX12_taken_14 : decode cX12_taken 14 = .ok (.aload_n 0, 1) := by decide +kernel
theorem dX12_taken_15 : decode cX12_taken 15 = .ok (.iload_n 1, 1) := by decide +kernel
theorem dX12_taken_16 : decode cX12_taken 16 = .ok (.invokevirtual 211, 3) := by decide +kernel
theorem dX12_taken_19 : decode cX12_taken 19 = .ok (.ifCond .ne 6, 3) := by decide +kernel
theorem dX12_taken_22 : decode cX12_taken 22 = .ok (.bipush (-11), 2) := by decide +kernel
theorem dX12_taken_24 : decode cX12_taken 24 = .ok (.ireturn, 1) := by decide +kernel
theorem dX12_taken_25 : decode cX12_taken 25 = .ok (.aload_n 0, 1) := by decide +kernel
theorem dX12_taken_26 : decode cX12_taken 26 = .ok (.getfield 22, 3) := by decide +kernel
theorem dX12_taken_29 : decode cX12_taken 29 = .ok (.iload_n 1, 1) := by decide +kernel
theorem dX12_taken_30 : decode cX12_taken 30 = .ok (.iaload, 1) := by decide +kernel
theorem dX12_taken_31 : decode cX12_taken 31 = .ok (.istore_n 3, 1) := by decide +kernel
theorem dX12_taken_32 : decode cX12_taken 32 = .ok (.iload_n 2, 1) := by decide +kernel
theorem dX12_taken_33 : decode cX12_taken 33 = .ok (.ifCond .eq 39, 3) := by decide +kernel
theorem dX12_taken_36 : decode cX12_taken 36 = .ok (.iload_n 3, 1) := by decide +kernel
theorem dX12_taken_37 : decode cX12_taken 37 = .ok (.iload_n 2, 1) := by decide +kernel
theorem dX12_taken_38 : decode cX12_taken 38 = .ok (.if_icmp .eq 34, 3) := by decide +kernel
theorem dX12_taken_41 : decode cX12_taken 41 = .ok (.iload_n 2, 1) := by decide +kernel
theorem dX12_taken_42 : decode cX12_taken 42 = .ok (.iconst 1, 1) := by decide +kernel
theorem dX12_taken_43 : decode cX12_taken 43 = .ok (.if_icmp .ne 8, 3) := by decide +kernel
theorem dX12_taken_46 : decode cX12_taken 46 = .ok (.iload_n 3, 1) := by decide +kernel
theorem dX12_taken_47 : decode cX12_taken 47 = .ok (.iconst 4, 1) := by decide +kernel
theorem dX12_taken_48 : decode cX12_taken 48 = .ok (.if_icmp .eq 24, 3) := by decide +kernel
theorem dX12_taken_51 : decode cX12_taken 51 = .ok (.iload_n 2, 1) := by decide +kernel
theorem dX12_taken_52 : decode cX12_taken 52 = .ok (.iconst 2, 1) := by decide +kernel
theorem dX12_taken_53 : decode cX12_taken 53 = .ok (.if_icmp .ne 8, 3) := by decide +kernel
theorem dX12_taken_56 : decode cX12_taken 56 = .ok (.iload_n 3, 1) := by decide +kernel
theorem dX12_taken_57 : decode cX12_taken 57 = .ok (.iconst 5, 1) := by decide +kernel
theorem dX12_taken_58 : decode cX12_taken 58 = .ok (.if_icmp .eq 14, 3) := by decide +kernel
theorem dX12_taken_61 : decode cX12_taken 61 = .ok (.iload_n 2, 1) := by decide +kernel
theorem dX12_taken_62 : decode cX12_taken 62 = .ok (.iconst 3, 1) := by decide +kernel
theorem dX12_taken_63 : decode cX12_taken 63 = .ok (.if_icmp .ne 13, 3) := by decide +kernel
theorem dX12_taken_66 : decode cX12_taken 66 = .ok (.iload_n 3, 1) := by decide +kernel
theorem dX12_taken_67 : decode cX12_taken 67 = .ok (.bipush 6, 2) := by decide +kernel
theorem dX12_taken_69 : decode cX12_taken 69 = .ok (.if_icmp .ne 7, 3) := by decide +kernel
theorem dX12_taken_72 : decode cX12_taken 72 = .ok (.iload_n 3, 1) := by decide +kernel
theorem dX12_taken_73 : decode cX12_taken 73 = .ok (.goto 5, 3) := by decide +kernel
theorem dX12_taken_76 : decode cX12_taken 76 = .ok (.bipush (-12), 2) := by decide +kernel
theorem dX12_taken_78 : decode cX12_taken 78 = .ok (.ireturn, 1) := by decide +kernel
theorem dX12_count_0 : decode cX12_count 0 = .ok (.iload_n 1, 1) := by decide +kernel
theorem dX12_count_1 : decode cX12_count 1 = .ok (.tableswitch 69 0 5 #[39, 44, 49, 54, 59, 64], 39) := by decide +kernel
theorem dX12_count_40 : decode cX12_count 40 = .ok (.aload_n 0, 1) := by decide +kernel
theorem dX12_count_41 : decode cX12_count 41 = .ok (.getfield 7, 3) := by decide +kernel
theorem dX12_count_44 : decode cX12_count 44 = .ok (.ireturn, 1) := by decide +kernel
theorem dX12_count_45 : decode cX12_count 45 = .ok (.aload_n 0, 1) := by decide +kernel
theorem dX12_count_46 : decode cX12_count 46 = .ok (.getfield 41, 3) := by decide +kernel
theorem dX12_count_49 : decode cX12_count 49 = .ok (.ireturn, 1) := by decide +kernel
theorem dX12_count_50 : decode cX12_count 50 = .ok (.aload_n 0, 1) := by decide +kernel
theorem dX12_count_51 : decode cX12_count 51 = .ok (.getfield 102, 3) := by decide +kernel
theorem dX12_count_54 : decode cX12_count 54 = .ok (.ireturn, 1) := by decide +kernel
theorem dX12_count_55 : decode cX12_count 55 = .ok (.aload_n 0, 1) := by decide +kernel
theorem dX12_count_56 : decode cX12_count 56 = .ok (.getfield 111, 3) := by decide +kernel
theorem dX12_count_59 : decode cX12_count 59 = .ok (.ireturn, 1) := by decide +kernel
theorem dX12_count_60 : decode cX12_count 60 = .ok (.aload_n 0, 1) := by decide +kernel
theorem dX12_count_61 : decode cX12_count 61 = .ok (.getfield 47, 3) := by decide +kernel
theorem dX12_count_64 : decode cX12_count 64 = .ok (.ireturn, 1) := by decide +kernel
theorem dX12_count_65 : decode cX12_count 65 = .ok (.aload_n 0, 1) := by decide +kernel
theorem dX12_count_66 : decode cX12_count 66 = .ok (.getfield 184, 3) := by decide +kernel
theorem dX12_count_69 : decode cX12_count 69 = .ok (.ireturn, 1) := by decide +kernel
theorem dX12_count_70 : decode cX12_count 70 = .ok (.bipush (-2), 2) := by decide +kernel
theorem dX12_count_72 : decode cX12_count 72 = .ok (.ireturn, 1) := by decide +kernel
theorem dX12_isTape_0 : decode cX12_isTape 0 = .ok (.aload_n 0, 1) := by decide +kernel
theorem dX12_isTape_1 : decode cX12_isTape 1 = .ok (.iload_n 1, 1) := by decide +kernel
theorem dX12_isTape_2 : decode cX12_isTape 2 = .ok (.iconst 0, 1) := by decide +kernel
theorem dX12_isTape_3 : decode cX12_isTape 3 = .ok (.iconst 5, 1) := by decide +kernel
theorem dX12_isTape_4 : decode cX12_isTape 4 = .ok (.invokevirtual 203, 3) := by decide +kernel
theorem dX12_isTape_7 : decode cX12_isTape 7 = .ok (.ireturn, 1) := by decide +kernel
theorem dX12_tape_0 : decode cX12_tape 0 = .ok (.aload_n 0, 1) := by decide +kernel
theorem dX12_tape_1 : decode cX12_tape 1 = .ok (.iload_n 1, 1) := by decide +kernel
theorem dX12_tape_2 : decode cX12_tape 2 = .ok (.invokevirtual 339, 3) := by decide +kernel
theorem dX12_tape_5 : decode cX12_tape 5 = .ok (.ifCond .ne 5, 3) := by decide +kernel
theorem dX12_tape_8 : decode cX12_tape 8 = .ok (.iconst (-1), 1) := by decide +kernel
theorem dX12_tape_9 : decode cX12_tape 9 = .ok (.ireturn, 1) := by decide +kernel
theorem dX12_tape_10 : decode cX12_tape 10 = .ok (.aload_n 0, 1) := by decide +kernel
theorem dX12_tape_11 : decode cX12_tape 11 = .ok (.iload_n 2, 1) := by decide +kernel
theorem dX12_tape_12 : decode cX12_tape 12 = .ok (.iconst (-1), 1) := by decide +kernel
theorem dX12_tape_13 : decode cX12_tape 13 = .ok (.iconst 4, 1) := by decide +kernel
theorem dX12_tape_14 : decode cX12_tape 14 = .ok (.invokevirtual 203, 3) := by decide +kernel
theorem dX12_tape_17 : decode cX12_tape 17 = .ok (.ifCond .eq 13, 3) := by decide +kernel
theorem dX12_tape_20 : decode cX12_tape 20 = .ok (.iload_n 2, 1) := by decide +kernel
theorem dX12_tape_21 : decode cX12_tape 21 = .ok (.ifCond .lt 12, 3) := by decide +kernel
theorem dX12_tape_24 : decode cX12_tape 24 = .ok (.iload_n 3, 1) := by decide +kernel
theorem dX12_tape_25 : decode cX12_tape 25 = .ok (.bipush 60, 2) := by decide +kernel
theorem dX12_tape_27 : decode cX12_tape 27 = .ok (.if_icmp .le 6, 3) := by decide +kernel
theorem dX12_tape_30 : decode cX12_tape 30 = .ok (.bipush (-2), 2) := by decide +kernel
theorem dX12_tape_32 : decode cX12_tape 32 = .ok (.ireturn, 1) := by decide +kernel
theorem dX12_tape_33 : decode cX12_tape 33 = .ok (.iload_n 2, 1) := by decide +kernel
theorem dX12_tape_34 : decode cX12_tape 34 = .ok (.ifCond .lt 10, 3) := by decide +kernel
theorem dX12_tape_37 : decode cX12_tape 37 = .ok (.iload_n 3, 1) := by decide +kernel
theorem dX12_tape_38 : decode cX12_tape 38 = .ok (.ifCond .ge 6, 3) := by decide +kernel
theorem dX12_tape_41 : decode cX12_tape 41 = .ok (.bipush (-14), 2) := by decide +kernel
theorem dX12_tape_43 : decode cX12_tape 43 = .ok (.ireturn, 1) := by decide +kernel
theorem dX12_tape_44 : decode cX12_tape 44 = .ok (.aload_n 0, 1) := by decide +kernel
theorem dX12_tape_45 : decode cX12_tape 45 = .ok (.getfield 190, 3) := by decide +kernel
theorem dX12_tape_48 : decode cX12_tape 48 = .ok (.iload_n 1, 1) := by decide +kernel
theorem dX12_tape_49 : decode cX12_tape 49 = .ok (.iload_n 2, 1) := by decide +kernel
theorem dX12_tape_50 : decode cX12_tape 50 = .ok (.iastore, 1) := by decide +kernel
theorem dX12_tape_51 : decode cX12_tape 51 = .ok (.aload_n 0, 1) := by decide +kernel
theorem dX12_tape_52 : decode cX12_tape 52 = .ok (.getfield 193, 3) := by decide +kernel
theorem dX12_tape_55 : decode cX12_tape 55 = .ok (.iload_n 1, 1) := by decide +kernel
theorem dX12_tape_56 : decode cX12_tape 56 = .ok (.iload_n 2, 1) := by decide +kernel
theorem dX12_tape_57 : decode cX12_tape 57 = .ok (.ifCond .ge 7, 3) := by decide +kernel
theorem dX12_tape_60 : decode cX12_tape 60 = .ok (.iconst 0, 1) := by decide +kernel
theorem dX12_tape_61 : decode cX12_tape 61 = .ok (.goto 4, 3) := by decide +kernel
theorem dX12_tape_64 : decode cX12_tape 64 = .ok (.iload_n 3, 1) := by decide +kernel
theorem dX12_tape_65 : decode cX12_tape 65 = .ok (.iastore, 1) := by decide +kernel
theorem dX12_tape_66 : decode cX12_tape 66 = .ok (.iconst 0, 1) := by decide +kernel
theorem dX12_tape_67 : decode cX12_tape 67 = .ok (.istore 4, 2) := by decide +kernel
theorem dX12_tape_69 : decode cX12_tape 69 = .ok (.iload 4, 2) := by decide +kernel
theorem dX12_tape_71 : decode cX12_tape 71 = .ok (.bipush 60, 2) := by decide +kernel
theorem dX12_tape_73 : decode cX12_tape 73 = .ok (.if_icmp .ge 22, 3) := by decide +kernel
theorem dX12_tape_76 : decode cX12_tape 76 = .ok (.aload_n 0, 1) := by decide +kernel
theorem dX12_tape_77 : decode cX12_tape 77 = .ok (.getfield 196, 3) := by decide +kernel
theorem dX12_tape_80 : decode cX12_tape 80 = .ok (.bipush 60, 2) := by decide +kernel
theorem dX12_tape_82 : decode cX12_tape 82 = .ok (.iload_n 1, 1) := by decide +kernel
theorem dX12_tape_83 : decode cX12_tape 83 = .ok (.imul, 1) := by decide +kernel
theorem dX12_tape_84 : decode cX12_tape 84 = .ok (.iload 4, 2) := by decide +kernel
theorem dX12_tape_86 : decode cX12_tape 86 = .ok (.iadd, 1) := by decide +kernel
theorem dX12_tape_87 : decode cX12_tape 87 = .ok (.lconst 0, 1) := by decide +kernel
theorem dX12_tape_88 : decode cX12_tape 88 = .ok (.lastore, 1) := by decide +kernel
theorem dX12_tape_89 : decode cX12_tape 89 = .ok (.iinc 4 1, 3) := by decide +kernel
theorem dX12_tape_92 : decode cX12_tape 92 = .ok (.goto (-23), 3) := by decide +kernel
theorem dX12_tape_95 : decode cX12_tape 95 = .ok (.iconst 1, 1) := by decide +kernel
theorem dX12_tape_96 : decode cX12_tape 96 = .ok (.ireturn, 1) := by decide +kernel
theorem dX12_narrow_0 : decode cX12_narrow 0 = .ok (.iload_n 1, 1) := by decide +kernel
theorem dX12_narrow_1 : decode cX12_narrow 1 = .ok (.ifCond .ne 10, 3) := by decide +kernel
theorem dX12_narrow_4 : decode cX12_narrow 4 = .ok (.lload_n 2, 1) := by decide +kernel
theorem dX12_narrow_5 : decode cX12_narrow 5 = .ok (.l2i, 1) := by decide +kernel
theorem dX12_narrow_6 : decode cX12_narrow 6 = .ok (.i2b, 1) := by decide +kernel
theorem dX12_narrow_7 : decode cX12_narrow 7 = .ok (.i2l, 1) := by decide +kernel
theorem dX12_narrow_8 : decode cX12_narrow 8 = .ok (.goto 46, 3) := by decide +kernel
theorem dX12_narrow_11 : decode cX12_narrow 11 = .ok (.iload_n 1, 1) := by decide +kernel
theorem dX12_narrow_12 : decode cX12_narrow 12 = .ok (.iconst 1, 1) := by decide +kernel
theorem dX12_narrow_13 : decode cX12_narrow 13 = .ok (.if_icmp .ne 10, 3) := by decide +kernel
theorem dX12_narrow_16 : decode cX12_narrow 16 = .ok (.lload_n 2, 1) := by decide +kernel
theorem dX12_narrow_17 : decode cX12_narrow 17 = .ok (.l2i, 1) := by decide +kernel
theorem dX12_narrow_18 : decode cX12_narrow 18 = .ok (.i2s, 1) := by decide +kernel
theorem dX12_narrow_19 : decode cX12_narrow 19 = .ok (.i2l, 1) := by decide +kernel
theorem dX12_narrow_20 : decode cX12_narrow 20 = .ok (.goto 34, 3) := by decide +kernel
theorem dX12_narrow_23 : decode cX12_narrow 23 = .ok (.iload_n 1, 1) := by decide +kernel
theorem dX12_narrow_24 : decode cX12_narrow 24 = .ok (.iconst 2, 1) := by decide +kernel
theorem dX12_narrow_25 : decode cX12_narrow 25 = .ok (.if_icmp .ne 9, 3) := by decide +kernel
theorem dX12_narrow_28 : decode cX12_narrow 28 = .ok (.lload_n 2, 1) := by decide +kernel
theorem dX12_narrow_29 : decode cX12_narrow 29 = .ok (.l2i, 1) := by decide +kernel
theorem dX12_narrow_30 : decode cX12_narrow 30 = .ok (.i2l, 1) := by decide +kernel
theorem dX12_narrow_31 : decode cX12_narrow 31 = .ok (.goto 23, 3) := by decide +kernel
theorem dX12_narrow_34 : decode cX12_narrow 34 = .ok (.iload_n 1, 1) := by decide +kernel
theorem dX12_narrow_35 : decode cX12_narrow 35 = .ok (.iconst 4, 1) := by decide +kernel
theorem dX12_narrow_36 : decode cX12_narrow 36 = .ok (.if_icmp .ne 17, 3) := by decide +kernel
theorem dX12_narrow_39 : decode cX12_narrow 39 = .ok (.lload_n 2, 1) := by decide +kernel
theorem dX12_narrow_40 : decode cX12_narrow 40 = .ok (.lconst 0, 1) := by decide +kernel
theorem dX12_narrow_41 : decode cX12_narrow 41 = .ok (.lcmp, 1) := by decide +kernel
theorem dX12_narrow_42 : decode cX12_narrow 42 = .ok (.ifCond .eq 7, 3) := by decide +kernel
theorem dX12_narrow_45 : decode cX12_narrow 45 = .ok (.lconst 1, 1) := by decide +kernel
theorem dX12_narrow_46 : decode cX12_narrow 46 = .ok (.goto 8, 3) := by decide +kernel
theorem dX12_narrow_49 : decode cX12_narrow 49 = .ok (.lconst 0, 1) := by decide +kernel
theorem dX12_narrow_50 : decode cX12_narrow 50 = .ok (.goto 4, 3) := by decide +kernel
theorem dX12_narrow_53 : decode cX12_narrow 53 = .ok (.lload_n 2, 1) := by decide +kernel
