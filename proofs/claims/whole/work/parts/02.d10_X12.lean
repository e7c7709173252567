theorem dX12_layGames_79 : decode cX12_layGames 79 = .ok (.iload_n 1, 1) := by decide +kernel
theorem dX12_layGames_80 : decode cX12_layGames 80 = .ok (.invokevirtual 309, 3) := by decide +kernel
theorem dX12_layGames_83 : decode cX12_layGames 83 = .ok (.i2l, 1) := by decide +kernel
theorem dX12_layGames_84 : decode cX12_layGames 84 = .ok (.lstore 6, 2) := by decide +kernel
theorem dX12_layGames_86 : decode cX12_layGames 86 = .ok (.aload_n 0, 1) := by decide +kernel
theorem dX12_layGames_87 : decode cX12_layGames 87 = .ok (.getfield 96, 3) := by decide +kernel
theorem dX12_layGames_90 : decode cX12_layGames 90 = .ok (.iconst 5, 1) := by decide +kernel
theorem dX12_layGames_91 : decode cX12_layGames 91 = .ok (.iload 4, 2) := by decide +kernel
theorem dX12_layGames_93 : decode cX12_layGames 93 = .ok (.imul, 1) := by decide +kernel
theorem dX12_layGames_94 : decode cX12_layGames 94 = .ok (.iload 5, 2) := by decide +kernel
theorem dX12_layGames_96 : decode cX12_layGames 96 = .ok (.iadd, 1) := by decide +kernel
theorem dX12_layGames_97 : decode cX12_layGames 97 = .ok (.lload 6, 2) := by decide +kernel
theorem dX12_layGames_99 : decode cX12_layGames 99 = .ok (.aload_n 0, 1) := by decide +kernel
theorem dX12_layGames_100 : decode cX12_layGames 100 = .ok (.getfield 96, 3) := by decide +kernel
theorem dX12_layGames_103 : decode cX12_layGames 103 = .ok (.iconst 5, 1) := by decide +kernel
theorem dX12_layGames_104 : decode cX12_layGames 104 = .ok (.iload 4, 2) := by decide +kernel
theorem dX12_layGames_106 : decode cX12_layGames 106 = .ok (.imul, 1) := by decide +kernel
theorem dX12_layGames_107 : decode cX12_layGames 107 = .ok (.iconst 5, 1) := by decide +kernel
theorem dX12_layGames_108 : decode cX12_layGames 108 = .ok (.iadd, 1) := by decide +kernel
theorem dX12_layGames_109 : decode cX12_layGames 109 = .ok (.iload 5, 2) := by decide +kernel
theorem dX12_layGames_111 : decode cX12_layGames 111 = .ok (.iadd, 1) := by decide +kernel
theorem dX12_layGames_112 : decode cX12_layGames 112 = .ok (.iaload, 1) := by decide +kernel
theorem dX12_layGames_113 : decode cX12_layGames 113 = .ok (.i2l, 1) := by decide +kernel
theorem dX12_layGames_114 : decode cX12_layGames 114 = .ok (.lmul, 1) := by decide +kernel
theorem dX12_layGames_115 : decode cX12_layGames 115 = .ok (.ldc2_w 314, 3) := by decide +kernel
theorem dX12_layGames_118 : decode cX12_layGames 118 = .ok (.lload 6, 2) := by decide +kernel
theorem dX12_layGames_120 : decode cX12_layGames 120 = .ok (.lsub, 1) := by decide +kernel
theorem dX12_layGames_121 : decode cX12_layGames 121 = .ok (.aload_n 0, 1) := by decide +kernel
theorem dX12_layGames_122 : decode cX12_layGames 122 = .ok (.getfield 96, 3) := by decide +kernel
theorem dX12_layGames_125 : decode cX12_layGames 125 = .ok (.iconst 5, 1) := by decide +kernel
theorem dX12_layGames_126 : decode cX12_layGames 126 = .ok (.iload 4, 2) := by decide +kernel
theorem dX12_layGames_128 : decode cX12_layGames 128 = .ok (.imul, 1) := by decide +kernel
theorem dX12_layGames_129 : decode cX12_layGames 129 = .ok (.iload 5, 2) := by decide +kernel
theorem dX12_layGames_131 : decode cX12_layGames 131 = .ok (.iadd, 1) := by decide +kernel
theorem dX12_layGames_132 : decode cX12_layGames 132 = .ok (.iconst 1, 1) := by decide +kernel
theorem dX12_layGames_133 : decode cX12_layGames 133 = .ok (.iadd, 1) := by decide +kernel
theorem dX12_layGames_134 : decode cX12_layGames 134 = .ok (.iaload, 1) := by decide +kernel
theorem dX12_layGames_135 : decode cX12_layGames 135 = .ok (.i2l, 1) := by decide +kernel
theorem dX12_layGames_136 : decode cX12_layGames 136 = .ok (.lmul, 1) := by decide +kernel
theorem dX12_layGames_137 : decode cX12_layGames 137 = .ok (.ladd, 1) := by decide +kernel
theorem dX12_layGames_138 : decode cX12_layGames 138 = .ok (.ldc2_w 314, 3) := by decide +kernel
theorem dX12_layGames_141 : decode cX12_layGames 141 = .ok (.ldiv, 1) := by decide +kernel
theorem dX12_layGames_142 : decode cX12_layGames 142 = .ok (.l2i, 1) := by decide +kernel
theorem dX12_layGames_143 : decode cX12_layGames 143 = .ok (.iastore, 1) := by decide +kernel
theorem dX12_layGames_144 : decode cX12_layGames 144 = .ok (.iinc 5 (-1), 3) := by decide +kernel
theorem dX12_layGames_147 : decode cX12_layGames 147 = .ok (.goto (-126), 3) := by decide +kernel
theorem dX12_layGames_150 : decode cX12_layGames 150 = .ok (.iinc 4 (-1), 3) := by decide +kernel
theorem dX12_layGames_153 : decode cX12_layGames 153 = .ok (.goto (-140), 3) := by decide +kernel
theorem dX12_layGames_156 : decode cX12_layGames 156 = .ok (.aload_n 0, 1) := by decide +kernel
theorem dX12_layGames_157 : decode cX12_layGames 157 = .ok (.iload_n 2, 1) := by decide +kernel
theorem dX12_layGames_158 : decode cX12_layGames 158 = .ok (.putfield 13, 3) := by decide +kernel
theorem dX12_layGames_161 : decode cX12_layGames 161 = .ok (.aload_n 0, 1) := by decide +kernel
theorem dX12_layGames_162 : decode cX12_layGames 162 = .ok (.iload_n 3, 1) := by decide +kernel
theorem dX12_layGames_163 : decode cX12_layGames 163 = .ok (.putfield 16, 3) := by decide +kernel
theorem dX12_layGames_166 : decode cX12_layGames 166 = .ok (.return_, 1) := by decide +kernel
theorem dX12_gameNow_0 : decode cX12_gameNow 0 = .ok (.aload_n 0, 1) := by decide +kernel
theorem dX12_gameNow_1 : decode cX12_gameNow 1 = .ok (.iload_n 1, 1) := by decide +kernel
theorem dX12_gameNow_2 : decode cX12_gameNow 2 = .ok (.invokevirtual 316, 3) := by decide +kernel
theorem dX12_gameNow_5 : decode cX12_gameNow 5 = .ok (.aload_n 0, 1) := by decide +kernel
theorem dX12_gameNow_6 : decode cX12_gameNow 6 = .ok (.getfield 96, 3) := by decide +kernel
theorem dX12_gameNow_9 : decode cX12_gameNow 9 = .ok (.iconst 5, 1) := by decide +kernel
theorem dX12_gameNow_10 : decode cX12_gameNow 10 = .ok (.aload_n 0, 1) := by decide +kernel
theorem dX12_gameNow_11 : decode cX12_gameNow 11 = .ok (.getfield 13, 3) := by decide +kernel
theorem dX12_gameNow_14 : decode cX12_gameNow 14 = .ok (.imul, 1) := by decide +kernel
theorem dX12_gameNow_15 : decode cX12_gameNow 15 = .ok (.aload_n 0, 1) := by decide +kernel
theorem dX12_gameNow_16 : decode cX12_gameNow 16 = .ok (.getfield 16, 3) := by decide +kernel
theorem dX12_gameNow_19 : decode cX12_gameNow 19 = .ok (.iadd, 1) := by decide +kernel
theorem dX12_gameNow_20 : decode cX12_gameNow 20 = .ok (.iaload, 1) := by decide +kernel
theorem dX12_gameNow_21 : decode cX12_gameNow 21 = .ok (.ireturn, 1) := by decide +kernel
theorem dX12_clean_0 : decode cX12_clean 0 = .ok (.aload_n 0, 1) := by decide +kernel
theorem dX12_clean_1 : decode cX12_clean 1 = .ok (.iload_n 1, 1) := by decide +kernel
theorem dX12_clean_2 : decode cX12_clean 2 = .ok (.invokevirtual 316, 3) := by decide +kernel
theorem dX12_clean_5 : decode cX12_clean 5 = .ok (.aload_n 0, 1) := by decide +kernel
theorem dX12_clean_6 : decode cX12_clean 6 = .ok (.getfield 96, 3) := by decide +kernel
theorem dX12_clean_9 : decode cX12_clean 9 = .ok (.iconst 0, 1) := by decide +kernel
theorem dX12_clean_10 : decode cX12_clean 10 = .ok (.iaload, 1) := by decide +kernel
theorem dX12_clean_11 : decode cX12_clean 11 = .ok (.ireturn, 1) := by decide +kernel
theorem dX12_game_0 : decode cX12_game 0 = .ok (.aload_n 0, 1) := by decide +kernel
theorem dX12_game_1 : decode cX12_game 1 = .ok (.iload_n 1, 1) := by decide +kernel
theorem dX12_game_2 : decode cX12_game 2 = .ok (.invokevirtual 211, 3) := by decide +kernel
theorem dX12_game_5 : decode cX12_game 5 = .ok (.ifCond .eq 13, 3) := by decide +kernel
theorem dX12_game_8 : decode cX12_game 8 = .ok (.aload_n 0, 1) := by decide +kernel
theorem dX12_game_9 : decode cX12_game 9 = .ok (.iload_n 2, 1) := by decide +kernel
theorem dX12_game_10 : decode cX12_game 10 = .ok (.iconst 0, 1) := by decide +kernel
theorem dX12_game_11 : decode cX12_game 11 = .ok (.iconst 1, 1) := by decide +kernel
theorem dX12_game_12 : decode cX12_game 12 = .ok (.invokevirtual 203, 3) := by decide +kernel
theorem dX12_game_15 : decode cX12_game 15 = .ok (.ifCond .ne 7, 3) := by decide +kernel
theorem dX12_game_18 : decode cX12_game 18 = .ok (.iconst (-1), 1) := by decide +kernel
theorem dX12_game_19 : decode cX12_game 19 = .ok (.goto 20, 3) := by decide +kernel
theorem dX12_game_22 : decode cX12_game 22 = .ok (.iload_n 2, 1) := by decide +kernel
theorem dX12_game_23 : decode cX12_game 23 = .ok (.ifCond .ne 11, 3) := by decide +kernel
theorem dX12_game_26 : decode cX12_game 26 = .ok (.aload_n 0, 1) := by decide +kernel
theorem dX12_game_27 : decode cX12_game 27 = .ok (.iload_n 1, 1) := by decide +kernel
theorem dX12_game_28 : decode cX12_game 28 = .ok (.invokevirtual 319, 3) := by decide +kernel
theorem dX12_game_31 : decode cX12_game 31 = .ok (.goto 8, 3) := by decide +kernel
theorem dX12_game_34 : decode cX12_game 34 = .ok (.aload_n 0, 1) := by decide +kernel
theorem dX12_game_35 : decode cX12_game 35 = .ok (.iload_n 1, 1) := by decide +kernel
theorem dX12_game_36 : decode cX12_game 36 = .ok (.invokevirtual 322, 3) := by decide +kernel
theorem dX12_game_39 : decode cX12_game 39 = .ok (.ireturn, 1) := by decide +kernel
theorem dX12_swing_0 : decode cX12_swing 0 = .ok (.aload_n 0, 1) := by decide +kernel
theorem dX12_swing_1 : decode cX12_swing 1 = .ok (.iload_n 1, 1) := by decide +kernel
theorem dX12_swing_2 : decode cX12_swing 2 = .ok (.invokevirtual 211, 3) := by decide +kernel
theorem dX12_swing_5 : decode cX12_swing 5 = .ok (.ifCond .ne 7, 3) := by decide +kernel
theorem dX12_swing_8 : decode cX12_swing 8 = .ok (.ldc_w 308, 3) := by decide +kernel
theorem dX12_swing_11 : decode cX12_swing 11 = .ok (.ireturn, 1) := by decide +kernel
theorem dX12_swing_12 : decode cX12_swing 12 = .ok (.aload_n 0, 1) := by decide +kernel
theorem dX12_swing_13 : decode cX12_swing 13 = .ok (.invokevirtual 302, 3) := by decide +kernel
theorem dX12_swing_16 : decode cX12_swing 16 = .ok (.ifCond .eq 5, 3) := by decide +kernel
theorem dX12_swing_19 : decode cX12_swing 19 = .ok (.iconst 0, 1) := by decide +kernel
theorem dX12_swing_20 : decode cX12_swing 20 = .ok (.ireturn, 1) := by decide +kernel
theorem dX12_swing_21 : decode cX12_swing 21 = .ok (.aload_n 0, 1) := by decide +kernel
theorem dX12_swing_22 : decode cX12_swing 22 = .ok (.iload_n 1, 1) := by decide +kernel
theorem dX12_swing_23 : decode cX12_swing 23 = .ok (.invokevirtual 316, 3) := by decide +kernel
theorem dX12_swing_26 : decode cX12_swing 26 = .ok (.aload_n 0, 1) := by decide +kernel
theorem dX12_swing_27 : decode cX12_swing 27 = .ok (.getfield 96, 3) := by decide +kernel
theorem dX12_swing_30 : decode cX12_swing 30 = .ok (.iconst 5, 1) := by decide +kernel
theorem dX12_swing_31 : decode cX12_swing 31 = .ok (.aload_n 0, 1) := by decide +kernel
theorem dX12_swing_32 : decode cX12_swing 32 = .ok (.getfield 13, 3) := by decide +kernel
theorem dX12_swing_35 : decode cX12_swing 35 = .ok (.imul, 1) := by decide +kernel
theorem dX12_swing_36 : decode cX12_swing 36 = .ok (.iconst 5, 1) := by decide +kernel
theorem dX12_swing_37 : decode cX12_swing 37 = .ok (.iadd, 1) := by decide +kernel
theorem dX12_swing_38 : decode cX12_swing 38 = .ok (.aload_n 0, 1) := by decide +kernel
theorem dX12_swing_39 : decode cX12_swing 39 = .ok (.getfield 16, 3) := by decide +kernel
theorem dX12_swing_42 : decode cX12_swing 42 = .ok (.iadd, 1) := by decide +kernel
theorem dX12_swing_43 : decode cX12_swing 43 = .ok (.iaload, 1) := by decide +kernel
theorem dX12_swing_44 : decode cX12_swing 44 = .ok (.aload_n 0, 1) := by decide +kernel
theorem dX12_swing_45 : decode cX12_swing 45 = .ok (.getfield 96, 3) := by decide +kernel
theorem dX12_swing_48 : decode cX12_swing 48 = .ok (.iconst 5, 1) := by decide +kernel
theorem dX12_swing_49 : decode cX12_swing 49 = .ok (.aload_n 0, 1) := by decide +kernel
theorem dX12_swing_50 : decode cX12_swing 50 = .ok (.getfield 13, 3) := by decide +kernel
theorem dX12_swing_53 : decode cX12_swing 53 = .ok (.imul, 1) := by decide +kernel
theorem dX12_swing_54 : decode cX12_swing 54 = .ok (.aload_n 0, 1) := by decide +kernel
theorem dX12_swing_55 : decode cX12_swing 55 = .ok (.getfield 16, 3) := by decide +kernel
theorem dX12_swing_58 : decode cX12_swing 58 = .ok (.iadd, 1) := by decide +kernel
theorem dX12_swing_59 : decode cX12_swing 59 = .ok (.iconst 1, 1) := by decide +kernel
theorem dX12_swing_60 : decode cX12_swing 60 = .ok (.iadd, 1) := by decide +kernel
theorem dX12_swing_61 : decode cX12_swing 61 = .ok (.iaload, 1) := by decide +kernel
theorem dX12_swing_62 : decode cX12_swing 62 = .ok (.isub, 1) := by decide +kernel
theorem dX12_swing_63 : decode cX12_swing 63 = .ok (.ireturn, 1) := by decide +kernel
theorem dX12_matchOf_0 : decode cX12_matchOf 0 = .ok (.aload_n 0, 1) := by decide +kernel
theorem dX12_matchOf_1 : decode cX12_matchOf 1 = .ok (.iload_n 1, 1) := by decide +kernel
theorem dX12_matchOf_2 : decode cX12_matchOf 2 = .ok (.invokevirtual 322, 3) := by decide +kernel
theorem dX12_matchOf_5 : decode cX12_matchOf 5 = .ok (.i2l, 1) := by decide +kernel
theorem dX12_matchOf_6 : decode cX12_matchOf 6 = .ok (.lstore 4, 2) := by decide +kernel
theorem dX12_matchOf_8 : decode cX12_matchOf 8 = .ok (.ldc_w 313, 3) := by decide +kernel
theorem dX12_matchOf_11 : decode cX12_matchOf 11 = .ok (.aload_n 0, 1) := by decide +kernel
theorem dX12_matchOf_12 : decode cX12_matchOf 12 = .ok (.iload_n 2, 1) := by decide +kernel
theorem dX12_matchOf_13 : decode cX12_matchOf 13 = .ok (.invokevirtual 322, 3) := by decide +kernel
theorem dX12_matchOf_16 : decode cX12_matchOf 16 = .ok (.isub, 1) := by decide +kernel
theorem dX12_matchOf_17 : decode cX12_matchOf 17 = .ok (.i2l, 1) := by decide +kernel
theorem dX12_matchOf_18 : decode cX12_matchOf 18 = .ok (.lstore 6, 2) := by decide +kernel
theorem dX12_matchOf_20 : decode cX12_matchOf 20 = .ok (.iload_n 3, 1) := by decide +kernel
theorem dX12_matchOf_21 : decode cX12_matchOf 21 = .ok (.istore 8, 2) := by decide +kernel
theorem dX12_matchOf_23 : decode cX12_matchOf 23 = .ok (.iload 8, 2) := by decide +kernel
theorem dX12_matchOf_25 : decode cX12_matchOf 25 = .ok (.ifCond .lt 140, 3) := by decide +kernel
theorem dX12_matchOf_28 : decode cX12_matchOf 28 = .ok (.iload_n 3, 1) := by decide +kernel
theorem dX12_matchOf_29 : decode cX12_matchOf 29 = .ok (.istore 9, 2) := by decide +kernel
theorem dX12_matchOf_31 : decode cX12_matchOf 31 = .ok (.iload 9, 2) := by decide +kernel
theorem dX12_matchOf_33 : decode cX12_matchOf 33 = .ok (.ifCond .lt 126, 3) := by decide +kernel
theorem dX12_matchOf_36 : decode cX12_matchOf 36 = .ok (.iload 8, 2) := by decide +kernel
theorem dX12_matchOf_38 : decode cX12_matchOf 38 = .ok (.iload 9, 2) := by decide +kernel
theorem dX12_matchOf_40 : decode cX12_matchOf 40 = .ok (.iadd, 1) := by decide +kernel
theorem dX12_matchOf_41 : decode cX12_matchOf 41 = .ok (.iconst 2, 1) := by decide +kernel
theorem dX12_matchOf_42 : decode cX12_matchOf 42 = .ok (.irem, 1) := by decide +kernel
theorem dX12_matchOf_43 : decode cX12_matchOf 43 = .ok (.ifCond .ne 8, 3) := by decide +kernel
theorem dX12_matchOf_46 : decode cX12_matchOf 46 = .ok (.lload 4, 2) := by decide +kernel
theorem dX12_matchOf_48 : decode cX12_matchOf 48 = .ok (.goto 5, 3) := by decide +kernel
theorem dX12_matchOf_51 : decode cX12_matchOf 51 = .ok (.lload 6, 2) := by decide +kernel
theorem dX12_matchOf_53 : decode cX12_matchOf 53 = .ok (.lstore 10, 2) := by decide +kernel
theorem dX12_matchOf_55 : decode cX12_matchOf 55 = .ok (.iload 8, 2) := by decide +kernel
theorem dX12_matchOf_57 : decode cX12_matchOf 57 = .ok (.iload_n 3, 1) := by decide +kernel
theorem dX12_matchOf_58 : decode cX12_matchOf 58 = .ok (.if_icmp .eq 9, 3) := by decide +kernel
theorem dX12_matchOf_61 : decode cX12_matchOf 61 = .ok (.iload 9, 2) := by decide +kernel
theorem dX12_matchOf_63 : decode cX12_matchOf 63 = .ok (.iload_n 3, 1) := by decide +kernel
theorem dX12_matchOf_64 : decode cX12_matchOf 64 = .ok (.if_icmp .ne 31, 3) := by decide +kernel
theorem dX12_matchOf_67 : decode cX12_matchOf 67 = .ok (.aload_n 0, 1) := by decide +kernel
theorem dX12_matchOf_68 : decode cX12_matchOf 68 = .ok (.getfield 99, 3) := by decide +kernel
theorem dX12_matchOf_71 : decode cX12_matchOf 71 = .ok (.iconst 5, 1) := by decide +kernel
theorem dX12_matchOf_72 : decode cX12_matchOf 72 = .ok (.iload 8, 2) := by decide +kernel
theorem dX12_matchOf_74 : decode cX12_matchOf 74 = .ok (.imul, 1) := by decide +kernel
theorem dX12_matchOf_75 : decode cX12_matchOf 75 = .ok (.iload 9, 2) := by decide +kernel
theorem dX12_matchOf_77 : decode cX12_matchOf 77 = .ok (.iadd, 1) := by decide +kernel
theorem dX12_matchOf_78 : decode cX12_matchOf 78 = .ok (.iload 8, 2) := by decide +kernel
theorem dX12_matchOf_80 : decode cX12_matchOf 80 = .ok (.iload_n 3, 1) := by decide +kernel
theorem dX12_matchOf_81 : decode cX12_matchOf 81 = .ok (.if_icmp .ne 9, 3) := by decide +kernel
theorem dX12_matchOf_84 : decode cX12_matchOf 84 = .ok (.ldc_w 313, 3) := by decide +kernel
theorem dX12_matchOf_87 : decode cX12_matchOf 87 = .ok (.goto 4, 3) := by decide +kernel
theorem dX12_matchOf_90 : decode cX12_matchOf 90 = .ok (.iconst 0, 1) := by decide +kernel
theorem dX12_matchOf_91 : decode cX12_matchOf 91 = .ok (.iastore, 1) := by decide +kernel
theorem dX12_matchOf_92 : decode cX12_matchOf 92 = .ok (.goto 61, 3) := by decide +kernel
theorem dX12_matchOf_95 : decode cX12_matchOf 95 = .ok (.aload_n 0, 1) := by decide +kernel
theorem dX12_matchOf_96 : decode cX12_matchOf 96 = .ok (.getfield 99, 3) := by decide +kernel
theorem dX12_matchOf_99 : decode cX12_matchOf 99 = .ok (.iconst 5, 1) := by decide +kernel
theorem dX12_matchOf_100 : decode cX12_matchOf 100 = .ok (.iload 8, 2) := by decide +kernel
theorem dX12_matchOf_102 : decode cX12_matchOf 102 = .ok (.imul, 1) := by decide +kernel
theorem dX12_matchOf_103 : decode cX12_matchOf 103 = .ok (.iload 9, 2) := by decide +kernel
theorem dX12_matchOf_105 : decode cX12_matchOf 105 = .ok (.iadd, 1) := by decide +kernel
theorem dX12_matchOf_106 : decode cX12_matchOf 106 = .ok (.lload 10, 2) := by decide +kernel
theorem dX12_matchOf_108 : decode cX12_matchOf 108 = .ok (.aload_n 0, 1) := by decide +kernel
theorem dX12_matchOf_109 : decode cX12_matchOf 109 = .ok (.getfield 99, 3) := by decide +kernel
theorem dX12_matchOf_112 : decode cX12_matchOf 112 = .ok (.iconst 5, 1) := by decide +kernel
theorem dX12_matchOf_113 : decode cX12_matchOf 113 = .ok (.iload 8, 2) := by decide +kernel
theorem dX12_matchOf_115 : decode cX12_matchOf 115 = .ok (.imul, 1) := by decide +kernel
theorem dX12_matchOf_116 : decode cX12_matchOf 116 = .ok (.iconst 5, 1) := by decide +kernel
theorem dX12_matchOf_117 : decode cX12_matchOf 117 = .ok (.iadd, 1) := by decide +kernel
theorem dX12_matchOf_118 : decode cX12_matchOf 118 = .ok (.iload 9, 2) := by decide +kernel
theorem dX12_matchOf_120 : decode cX12_matchOf 120 = .ok (.iadd, 1) := by decide +kernel
theorem dX12_matchOf_121 : decode cX12_matchOf 121 = .ok (.iaload, 1) := by decide +kernel
theorem dX12_matchOf_122 : decode cX12_matchOf 122 = .ok (.i2l, 1) := by decide +kernel
theorem dX12_matchOf_123 : decode cX12_matchOf 123 = .ok (.lmul, 1) := by decide +kernel
theorem dX12_matchOf_124 : decode cX12_matchOf 124 = .ok (.ldc2_w 314, 3) := by decide +kernel
theorem dX12_matchOf_127 : decode cX12_matchOf 127 = .ok (.lload 10, 2) := by decide +kernel
theorem dX12_matchOf_129 : decode cX12_matchOf 129 = .ok (.lsub, 1) := by decide +kernel
theorem dX12_matchOf_130 : decode cX12_matchOf 130 = .ok (.aload_n 0, 1) := by decide +kernel
theorem dX12_matchOf_131 : decode cX12_matchOf 131 = .ok (.getfield 99, 3) := by decide +kernel
theorem dX12_matchOf_134 : decode cX12_matchOf 134 = .ok (.iconst 5, 1) := by decide +kernel
theorem dX12_matchOf_135 : decode cX12_matchOf 135 = .ok (.iload 8, 2) := by decide +kernel
theorem dX12_matchOf_137 : decode cX12_matchOf 137 = .ok (.imul, 1) := by decide +kernel
theorem dX12_matchOf_138 : decode cX12_matchOf 138 = .ok (.iload 9, 2) := by decide +kernel
theorem dX12_matchOf_140 : decode cX12_matchOf 140 = .ok (.iadd, 1) := by decide +kernel
theorem dX12_matchOf_141 : decode cX12_matchOf 141 = .ok (.iconst 1, 1) := by decide +kernel
theorem dX12_matchOf_142 : decode cX12_matchOf 142 = .ok (.iadd, 1) := by decide +kernel
theorem dX12_matchOf_143 : decode cX12_matchOf 143 = .ok (.iaload, 1) := by decide +kernel
theorem dX12_matchOf_144 : decode cX12_matchOf 144 = .ok (.i2l, 1) := by decide +kernel
theorem dX12_matchOf_145 : decode cX12_matchOf 145 = .ok (.lmul, 1) := by decide +kernel
theorem dX12_matchOf_146 : decode cX12_matchOf 146 = .ok (.ladd, 1) := by decide +kernel
theorem dX12_matchOf_147 : decode cX12_matchOf 147 = .ok (.ldc2_w 314, 3) := by decide +kernel
theorem dX12_matchOf_150 : decode cX12_matchOf 150 = .ok (.ldiv, 1) := by decide +kernel
theorem dX12_matchOf_151 : decode cX12_matchOf 151 = .ok (.l2i, 1) := by decide +kernel
theorem dX12_matchOf_152 : decode cX12_matchOf 152 = .ok (.iastore, 1) := by decide +kernel
theorem dX12_matchOf_153 : decode cX12_matchOf 153 = .ok (.iinc 9 (-1), 3) := by decide +kernel
theorem dX12_matchOf_156 : decode cX12_matchOf 156 = .ok (.goto (-125), 3) := by decide +kernel
theorem dX12_matchOf_159 : decode cX12_matchOf 159 = .ok (.iinc 8 (-1), 3) := by decide +kernel
theorem dX12_matchOf_162 : decode cX12_matchOf 162 = .ok (.goto (-139), 3) := by decide +kernel
theorem dX12_matchOf_165 : decode cX12_matchOf 165 = .ok (.aload_n 0, 1) := by decide +kernel
theorem dX12_matchOf_166 : decode cX12_matchOf 166 = .ok (.getfield 99, 3) := by decide +kernel
theorem dX12_matchOf_169 : decode cX12_matchOf 169 = .ok (.iconst 0, 1) := by decide +kernel
theorem dX12_matchOf_170 : decode cX12_matchOf 170 = .ok (.iaload, 1) := by decide +kernel
theorem dX12_matchOf_171 : decode cX12_matchOf 171 = .ok (.ireturn, 1) := by decide +kernel
theorem dX12_match_0 : decode cX12_match 0 = .ok (.aload_n 0, 1) := by decide +kernel
theorem dX12_match_1 : decode cX12_match 1 = .ok (.iload_n 1, 1) := by decide +kernel
theorem dX12_match_2 : decode cX12_match 2 = .ok (.invokevirtual 211, 3) := by decide +kernel
theorem dX12_match_5 : decode cX12_match 5 = .ok (.ifCond .eq 11, 3) := by decide +kernel
theorem dX12_match_8 : decode cX12_match 8 = .ok (.aload_n 0, 1) := by decide +kernel
theorem dX12_match_9 : decode cX12_match 9 = .ok (.iload_n 2, 1) := by decide +kernel
theorem dX12_match_10 : decode cX12_match 10 = .ok (.invokevirtual 211, 3) := by decide +kernel
theorem dX12_match_13 : decode cX12_match 13 = .ok (.ifCond .ne 5, 3) := by decide +kernel
theorem dX12_match_16 : decode cX12_match 16 = .ok (.iconst (-1), 1) := by decide +kernel
theorem dX12_match_17 : decode cX12_match 17 = .ok (.ireturn, 1) := by decide +kernel
theorem dX12_match_18 : decode cX12_match 18 = .ok (.iload_n 1, 1) := by decide +kernel
theorem dX12_match_19 : decode cX12_match 19 = .ok (.iload_n 2, 1) := by decide +kernel
theorem dX12_match_20 : decode cX12_match 20 = .ok (.if_icmp .eq 13, 3) := by decide +kernel
theorem dX12_match_23 : decode cX12_match 23 = .ok (.aload_n 0, 1) := by decide +kernel
theorem dX12_match_24 : decode cX12_match 24 = .ok (.iload_n 3, 1) := by decide +kernel
theorem dX12_match_25 : decode cX12_match 25 = .ok (.iconst 1, 1) := by decide +kernel
theorem dX12_match_26 : decode cX12_match 26 = .ok (.iconst 4, 1) := by decide +kernel
theorem dX12_match_27 : decode cX12_match 27 = .ok (.invokevirtual 203, 3) := by decide +kernel
theorem dX12_match_30 : decode cX12_match 30 = .ok (.ifCond .ne 8, 3) := by decide +kernel
theorem dX12_match_33 : decode cX12_match 33 = .ok (.bipush (-2), 2) := by decide +kernel
theorem dX12_match_35 : decode cX12_match 35 = .ok (.goto 10, 3) := by decide +kernel
theorem dX12_match_38 : decode cX12_match 38 = .ok (.aload_n 0, 1) := by decide +kernel
theorem dX12_match_39 : decode cX12_match 39 = .ok (.iload_n 1, 1) := by decide +kernel
theorem dX12_match_40 : decode cX12_match 40 = .ok (.iload_n 2, 1) := by decide +kernel
theorem dX12_match_41 : decode cX12_match 41 = .ok (.iload_n 3, 1) := by decide +kernel
theorem dX12_match_42 : decode cX12_match 42 = .ok (.invokevirtual 325, 3) := by decide +kernel
theorem dX12_match_45 : decode cX12_match 45 = .ok (.ireturn, 1) := by decide +kernel
theorem dX12_ahead_0 : decode cX12_ahead 0 = .ok (.aload_n 0, 1) := by decide +kernel
theorem dX12_ahead_1 : decode cX12_ahead 1 = .ok (.iload_n 1, 1) := by decide +kernel
theorem dX12_ahead_2 : decode cX12_ahead 2 = .ok (.invokevirtual 211, 3) := by decide +kernel
theorem dX12_ahead_5 : decode cX12_ahead 5 = .ok (.ifCond .eq 11, 3) := by decide +kernel
theorem dX12_ahead_8 : decode cX12_ahead 8 = .ok (.aload_n 0, 1) := by decide +kernel
theorem dX12_ahead_9 : decode cX12_ahead 9 = .ok (.iload_n 2, 1) := by decide +kernel
theorem dX12_ahead_10 : decode cX12_ahead 10 = .ok (.invokevirtual 211, 3) := by decide +kernel
theorem dX12_ahead_13 : decode cX12_ahead 13 = .ok (.ifCond .ne 7, 3) := by decide +kernel
theorem dX12_ahead_16 : decode cX12_ahead 16 = .ok (.ldc_w 308, 3) := by decide +kernel
theorem dX12_ahead_19 : decode cX12_ahead 19 = .ok (.ireturn, 1) := by decide +kernel
theorem dX12_ahead_20 : decode cX12_ahead 20 = .ok (.iload_n 1, 1) := by decide +kernel
theorem dX12_ahead_21 : decode cX12_ahead 21 = .ok (.iload_n 2, 1) := by decide +kernel
theorem dX12_ahead_22 : decode cX12_ahead 22 = .ok (.if_icmp .eq 13, 3) := by decide +kernel
theorem dX12_ahead_25 : decode cX12_ahead 25 = .ok (.aload_n 0, 1) := by decide +kernel
theorem dX12_ahead_26 : decode cX12_ahead 26 = .ok (.iload_n 3, 1) := by decide +kernel
theorem dX12_ahead_27 : decode cX12_ahead 27 = .ok (.iconst 1, 1) := by decide +kernel
theorem dX12_ahead_28 : decode cX12_ahead 28 = .ok (.iconst 4, 1) := by decide +kernel
theorem dX12_ahead_29 : decode cX12_ahead 29 = .ok (.invokevirtual 203, 3) := by decide +kernel
theorem dX12_ahead_32 : decode cX12_ahead 32 = .ok (.ifCond .ne 9, 3) := by decide +kernel
theorem dX12_ahead_35 : decode cX12_ahead 35 = .ok (.ldc_w 328, 3) := by decide +kernel
theorem dX12_ahead_38 : decode cX12_ahead 38 = .ok (.goto 22, 3) := by decide +kernel
theorem dX12_ahead_41 : decode cX12_ahead 41 = .ok (.aload_n 0, 1) := by decide +kernel
theorem dX12_ahead_42 : decode cX12_ahead 42 = .ok (.iload_n 1, 1) := by decide +kernel
theorem dX12_ahead_43 : decode cX12_ahead 43 = .ok (.iload_n 2, 1) := by decide +kernel
theorem dX12_ahead_44 : decode cX12_ahead 44 = .ok (.iload_n 3, 1) := by decide +kernel
theorem dX12_ahead_45 : decode cX12_ahead 45 = .ok (.invokevirtual 325, 3) := by decide +kernel
theorem dX12_ahead_48 : decode cX12_ahead 48 = .ok (.ldc_w 313, 3) := by decide +kernel
theorem dX12_ahead_51 : decode cX12_ahead 51 = .ok (.aload_n 0, 1) := by decide +kernel
theorem dX12_ahead_52 : decode cX12_ahead 52 = .ok (.iload_n 2, 1) := by decide +kernel
theorem dX12_ahead_53 : decode cX12_ahead 53 = .ok (.iload_n 1, 1) := by decide +kernel
theorem dX12_ahead_54 : decode cX12_ahead 54 = .ok (.iload_n 3, 1) := by decide +kernel
theorem dX12_ahead_55 : decode cX12_ahead 55 = .ok (.invokevirtual 325, 3) := by decide +kernel
theorem dX12_ahead_58 : decode cX12_ahead 58 = .ok (.isub, 1) := by decide +kernel
theorem dX12_ahead_59 : decode cX12_ahead 59 = .ok (.isub, 1) := by decide +kernel
theorem dX12_ahead_60 : decode cX12_ahead 60 = .ok (.ireturn, 1) := by decide +kernel
theorem dX12_see_0 : decode cX12_see 0 = .ok (.iload_n 1, 1) := by decide +kernel
theorem dX12_see_1 : decode cX12_see 1 = .ok (.iconst (-1), 1) := by decide +kernel
theorem dX12_see_2 : decode cX12_see 2 = .ok (.if_icmp .ne 10, 3) := by decide +kernel
theorem dX12_see_5 : decode cX12_see 5 = .ok (.aload_n 0, 1) := by decide +kernel
theorem dX12_see_6 : decode cX12_see 6 = .ok (.iconst 0, 1) := by decide +kernel
theorem dX12_see_7 : decode cX12_see 7 = .ok (.putfield 102, 3) := by decide +kernel
theorem dX12_see_10 : decode cX12_see 10 = .ok (.iconst 0, 1) := by decide +kernel
theorem dX12_see_11 : decode cX12_see 11 = .ok (.ireturn, 1) := by decide +kernel
theorem dX12_see_12 : decode cX12_see 12 = .ok (.aload_n 0, 1) := by decide +kernel
theorem dX12_see_13 : decode cX12_see 13 = .ok (.iload_n 1, 1) := by decide +kernel
theorem dX12_see_14 : decode cX12_see 14 = .ok (.invokevirtual 207, 3) := by decide +kernel
theorem dX12_see_17 : decode cX12_see 17 = .ok (.ifCond .eq 11, 3) := by decide +kernel
theorem dX12_see_20 : decode cX12_see 20 = .ok (.aload_n 0, 1) := by decide +kernel
theorem dX12_see_21 : decode cX12_see 21 = .ok (.iload_n 2, 1) := by decide +kernel
theorem dX12_see_22 : decode cX12_see 22 = .ok (.invokevirtual 207, 3) := by decide +kernel
theorem dX12_see_25 : decode cX12_see 25 = .ok (.ifCond .ne 5, 3) := by decide +kernel
theorem dX12_see_28 : decode cX12_see 28 = .ok (.iconst (-1), 1) := by decide +kernel
theorem dX12_see_29 : decode cX12_see 29 = .ok (.ireturn, 1) := by decide +kernel
theorem dX12_see_30 : decode cX12_see 30 = .ok (.aload_n 0, 1) := by decide +kernel
theorem dX12_see_31 : decode cX12_see 31 = .ok (.getfield 102, 3) := by decide +kernel
theorem dX12_see_34 : decode cX12_see 34 = .ok (.bipush 6, 2) := by decide +kernel
theorem dX12_see_36 : decode cX12_see 36 = .ok (.if_icmp .ne 6, 3) := by decide +kernel
theorem dX12_see_39 : decode cX12_see 39 = .ok (.bipush (-4), 2) := by decide +kernel
theorem dX12_see_41 : decode cX12_see 41 = .ok (.ireturn, 1) := by decide +kernel
theorem dX12_see_42 : decode cX12_see 42 = .ok (.aload_n 0, 1) := by decide +kernel
theorem dX12_see_43 : decode cX12_see 43 = .ok (.getfield 105, 3) := by decide +kernel
theorem dX12_see_46 : decode cX12_see 46 = .ok (.aload_n 0, 1) := by decide +kernel
theorem dX12_see_47 : decode cX12_see 47 = .ok (.getfield 102, 3) := by decide +kernel
theorem dX12_see_50 : decode cX12_see 50 = .ok (.iload_n 1, 1) := by decide +kernel
theorem dX12_see_51 : decode cX12_see 51 = .ok (.iastore, 1) := by decide +kernel
theorem dX12_see_52 : decode cX12_see 52 = .ok (.aload_n 0, 1) := by decide +kernel
theorem dX12_see_53 : decode cX12_see 53 = .ok (.getfield 108, 3) := by decide +kernel
theorem dX12_see_56 : decode cX12_see 56 = .ok (.aload_n 0, 1) := by decide +kernel
theorem dX12_see_57 : decode cX12_see 57 = .ok (.getfield 102, 3) := by decide +kernel
theorem dX12_see_60 : decode cX12_see 60 = .ok (.iload_n 2, 1) := by decide +kernel
theorem dX12_see_61 : decode cX12_see 61 = .ok (.iastore, 1) := by decide +kernel
theorem dX12_see_62 : decode cX12_see 62 = .ok (.aload_n 0, 1) := by decide +kernel
theorem dX12_see_63 : decode cX12_see 63 = .ok (.dup, 1) := by decide +kernel
theorem dX12_see_64 : decode cX12_see 64 = .ok (.getfield 102, 3) := by decide +kernel
theorem dX12_see_67 : decode cX12_see 67 = .ok (.iconst 1, 1) := by decide +kernel
theorem dX12_see_68 : decode cX12_see 68 = .ok (.iadd, 1) := by decide +kernel
theorem dX12_see_69 : decode cX12_see 69 = .ok (.putfield 102, 3) := by decide +kernel
theorem dX12_see_72 : decode cX12_see 72 = .ok (.aload_n 0, 1) := by decide +kernel
theorem dX12_see_73 : decode cX12_see 73 = .ok (.getfield 102, 3) := by decide +kernel
theorem dX12_see_76 : decode cX12_see 76 = .ok (.ireturn, 1) := by decide +kernel
theorem dX12_who_0 : decode cX12_who 0 = .ok (.iconst 0, 1) := by decide +kernel
theorem dX12_who_1 : decode cX12_who 1 = .ok (.istore_n 1, 1) := by decide +kernel
theorem dX12_who_2 : decode cX12_who 2 = .ok (.iconst 0, 1) := by decide +kernel
theorem dX12_who_3 : decode cX12_who 3 = .ok (.istore_n 2, 1) := by decide +kernel
theorem dX12_who_4 : decode cX12_who 4 = .ok (.iload_n 2, 1) := by decide +kernel
theorem dX12_who_5 : decode cX12_who 5 = .ok (.aload_n 0, 1) := by decide +kernel
theorem dX12_who_6 : decode cX12_who 6 = .ok (.getfield 7, 3) := by decide +kernel
theorem dX12_who_9 : decode cX12_who 9 = .ok (.if_icmp .ge 63, 3) := by decide +kernel
theorem dX12_who_12 : decode cX12_who 12 = .ok (.iconst 0, 1) := by decide +kernel
theorem dX12_who_13 : decode cX12_who 13 = .ok (.istore_n 3, 1) := by decide +kernel
theorem dX12_who_14 : decode cX12_who 14 = .ok (.iload_n 3, 1) := by decide +kernel
theorem dX12_who_15 : decode cX12_who 15 = .ok (.aload_n 0, 1) := by decide +kernel
theorem dX12_who_16 : decode cX12_who 16 = .ok (.getfield 102, 3) := by decide +kernel
theorem dX12_who_19 : decode cX12_who 19 = .ok (.if_icmp .ge 47, 3) := by decide +kernel
theorem dX12_who_22 : decode cX12_who 22 = .ok (.iload_n 1, 1) := by decide +kernel
theorem dX12_who_23 : decode cX12_who 23 = .ok (.aload_n 0, 1) := by decide +kernel
theorem dX12_who_24 : decode cX12_who 24 = .ok (.iload_n 2, 1) := by decide +kernel
theorem dX12_who_25 : decode cX12_who 25 = .ok (.invokevirtual 287, 3) := by decide +kernel
theorem dX12_who_28 : decode cX12_who 28 = .ok (.aload_n 0, 1) := by decide +kernel
theorem dX12_who_29 : decode cX12_who 29 = .ok (.getfield 105, 3) := by decide +kernel
theorem dX12_who_32 : decode cX12_who 32 = .ok (.iload_n 3, 1) := by decide +kernel
theorem dX12_who_33 : decode cX12_who 33 = .ok (.iaload, 1) := by decide +kernel
theorem dX12_who_34 : decode cX12_who 34 = .ok (.if_icmp .ne 23, 3) := by decide +kernel
theorem dX12_who_37 : decode cX12_who 37 = .ok (.aload_n 0, 1) := by decide +kernel
theorem dX12_who_38 : decode cX12_who 38 = .ok (.iload_n 2, 1) := by decide +kernel
theorem dX12_who_39 : decode cX12_who 39 = .ok (.invokevirtual 290, 3) := by decide +kernel
theorem dX12_who_42 : decode cX12_who 42 = .ok (.aload_n 0, 1) := by decide +kernel
theorem dX12_who_43 : decode cX12_who 43 = .ok (.getfield 108, 3) := by decide +kernel
theorem dX12_who_46 : decode cX12_who 46 = .ok (.iload_n 3, 1) := by decide +kernel
theorem dX12_who_47 : decode cX12_who 47 = .ok (.iaload, 1) := by decide +kernel
theorem dX12_who_48 : decode cX12_who 48 = .ok (.if_icmp .ne 9, 3) := by decide +kernel
theorem dX12_who_51 : decode cX12_who 51 = .ok (.iconst 1, 1) := by decide +kernel
theorem dX12_who_52 : decode cX12_who 52 = .ok (.iload_n 2, 1) := by decide +kernel
theorem dX12_who_53 : decode cX12_who 53 = .ok (.ishl, 1) := by decide +kernel
theorem dX12_who_54 : decode cX12_who 54 = .ok (.goto 4, 3) := by decide +kernel
theorem dX12_who_57 : decode cX12_who 57 = .ok (.iconst 0, 1) := by decide +kernel
theorem dX12_who_58 : decode cX12_who 58 = .ok (.ior, 1) := by decide +kernel
theorem dX12_who_59 : decode cX12_who 59 = .ok (.istore_n 1, 1) := by decide +kernel
theorem dX12_who_60 : decode cX12_who 60 = .ok (.iinc 3 1, 3) := by decide +kernel
theorem dX12_who_63 : decode cX12_who 63 = .ok (.goto (-49), 3) := by decide +kernel
theorem dX12_who_66 : decode cX12_who 66 = .ok (.iinc 2 1, 3) := by decide +kernel
theorem dX12_who_69 : decode cX12_who 69 = .ok (.goto (-65), 3) := by decide +kernel
theorem dX12_who_72 : decode cX12_who 72 = .ok (.iload_n 1, 1) := by decide +kernel
theorem dX12_who_73 : decode cX12_who 73 = .ok (.ireturn, 1) := by decide +kernel
theorem dX12_divisor_0 : decode cX12_divisor 0 = .ok (.iload_n 1, 1) := by decide +kernel
theorem dX12_divisor_1 : decode cX12_divisor 1 = .ok (.istore_n 3, 1) := by decide +kernel
theorem dX12_divisor_2 : decode cX12_divisor 2 = .ok (.iload_n 2, 1) := by decide +kernel
theorem dX12_divisor_3 : decode cX12_divisor 3 = .ok (.istore 4, 2) := by decide +kernel
theorem dX12_divisor_5 : decode cX12_divisor 5 = .ok (.iload 4, 2) := by decide +kernel
theorem dX12_divisor_7 : decode cX12_divisor 7 = .ok (.ifCond .eq 19, 3) := by decide +kernel
theorem dX12_divisor_10 : decode cX12_divisor 10 = .ok (.iload_n 3, 1) := by decide +kernel
theorem dX12_divisor_11 : decode cX12_divisor 11 = .ok (.iload 4, 2) := by decide +kernel
theorem dX12_divisor_13 : decode cX12_divisor 13 = .ok (.irem, 1) := by decide +kernel
theorem dX12_divisor_14 : decode cX12_divisor 14 = .ok (.istore 5, 2) := by decide +kernel
theorem dX12_divisor_16 : decode cX12_divisor 16 = .ok (.iload 4, 2) := by decide +kernel
theorem dX12_divisor_18 : decode cX12_divisor 18 = .ok (.istore_n 3, 1) := by decide +kernel
theorem dX12_divisor_19 : decode cX12_divisor 19 = .ok (.iload 5, 2) := by decide +kernel
theorem dX12_divisor_21 : decode cX12_divisor 21 = .ok (.istore 4, 2) := by decide +kernel
theorem dX12_divisor_23 : decode cX12_divisor 23 = .ok (.goto (-18), 3) := by decide +kernel
theorem dX12_divisor_26 : decode cX12_divisor 26 = .ok (.iload_n 3, 1) := by decide +kernel
theorem dX12_divisor_27 : decode cX12_divisor 27 = .ok (.ireturn, 1) := by decide +kernel
theorem dX12_lowest_0 : decode cX12_lowest 0 = .ok (.aload_n 0, 1) := by decide +kernel
theorem dX12_lowest_1 : decode cX12_lowest 1 = .ok (.iload_n 1, 1) := by decide +kernel
theorem dX12_lowest_2 : decode cX12_lowest 2 = .ok (.iload_n 2, 1) := by decide +kernel
theorem dX12_lowest_3 : decode cX12_lowest 3 = .ok (.invokevirtual 329, 3) := by decide +kernel
theorem dX12_lowest_6 : decode cX12_lowest 6 = .ok (.istore 4, 2) := by decide +kernel
theorem dX12_lowest_8 : decode cX12_lowest 8 = .ok (.iload_n 3, 1) := by decide +kernel
theorem dX12_lowest_9 : decode cX12_lowest 9 = .ok (.ifCond .ne 11, 3) := by decide +kernel
theorem dX12_lowest_12 : decode cX12_lowest 12 = .ok (.iload_n 1, 1) := by decide +kernel
theorem dX12_lowest_13 : decode cX12_lowest 13 = .ok (.iload 4, 2) := by decide +kernel
theorem dX12_lowest_15 : decode cX12_lowest 15 = .ok (.idiv, 1) := by decide +kernel
theorem dX12_lowest_16 : decode cX12_lowest 16 = .ok (.i2l, 1) := by decide +kernel
theorem dX12_lowest_17 : decode cX12_lowest 17 = .ok (.goto 8, 3) := by decide +kernel
theorem dX12_lowest_20 : decode cX12_lowest 20 = .ok (.iload_n 2, 1) := by decide +kernel
theorem dX12_lowest_21 : decode cX12_lowest 21 = .ok (.iload 4, 2) := by decide +kernel
theorem dX12_lowest_23 : decode cX12_lowest 23 = .ok (.idiv, 1) := by decide +kernel
theorem dX12_lowest_24 : decode cX12_lowest 24 = .ok (.i2l, 1) := by decide +kernel
theorem dX12_lowest_25 : decode cX12_lowest 25 = .ok (.lreturn, 1) := by decide +kernel
theorem dX12_odds_0 : decode cX12_odds 0 = .ok (.aload_n 0, 1) := by decide +kernel
theorem dX12_odds_1 : decode cX12_odds 1 = .ok (.iload_n 1, 1) := by decide +kernel
theorem dX12_odds_2 : decode cX12_odds 2 = .ok (.invokevirtual 211, 3) := by decide +kernel
theorem dX12_odds_5 : decode cX12_odds 5 = .ok (.ifCond .eq 13, 3) := by decide +kernel
theorem dX12_odds_8 : decode cX12_odds 8 = .ok (.aload_n 0, 1) := by decide +kernel
theorem dX12_odds_9 : decode cX12_odds 9 = .ok (.iload_n 2, 1) := by decide +kernel
theorem dX12_odds_10 : decode cX12_odds 10 = .ok (.iconst 0, 1) := by decide +kernel
theorem dX12_odds_11 : decode cX12_odds 11 = .ok (.iconst 1, 1) := by decide +kernel
theorem dX12_odds_12 : decode cX12_odds 12 = .ok (.invokevirtual 203, 3) := by decide +kernel
theorem dX12_odds_15 : decode cX12_odds 15 = .ok (.ifCond .ne 7, 3) := by decide +kernel
theorem dX12_odds_18 : decode cX12_odds 18 = .ok (.ldc2_w 332, 3) := by decide +kernel
theorem dX12_odds_21 : decode cX12_odds 21 = .ok (.lreturn, 1) := by decide +kernel
theorem dX12_odds_22 : decode cX12_odds 22 = .ok (.aload_n 0, 1) := by decide +kernel
theorem dX12_odds_23 : decode cX12_odds 23 = .ok (.getfield 19, 3) := by decide +kernel
theorem dX12_odds_26 : decode cX12_odds 26 = .ok (.istore_n 3, 1) := by decide +kernel
theorem dX12_odds_27 : decode cX12_odds 27 = .ok (.iconst 0, 1) := by decide +kernel
theorem dX12_odds_28 : decode cX12_odds 28 = .ok (.istore 4, 2) := by decide +kernel
theorem dX12_odds_30 : decode cX12_odds 30 = .ok (.iconst 0, 1) := by decide +kernel
theorem dX12_odds_31 : decode cX12_odds 31 = .ok (.istore 5, 2) := by decide +kernel
theorem dX12_odds_33 : decode cX12_odds 33 = .ok (.iload 5, 2) := by decide +kernel
theorem dX12_odds_35 : decode cX12_odds 35 = .ok (.iconst 3, 1) := by decide +kernel
theorem dX12_odds_36 : decode cX12_odds 36 = .ok (.if_icmp .ge 25, 3) := by decide +kernel
theorem dX12_odds_39 : decode cX12_odds 39 = .ok (.aload_n 0, 1) := by decide +kernel
theorem dX12_odds_40 : decode cX12_odds 40 = .ok (.iload 5, 2) := by decide +kernel
theorem dX12_odds_42 : decode cX12_odds 42 = .ok (.putfield 19, 3) := by decide +kernel
theorem dX12_odds_45 : decode cX12_odds 45 = .ok (.iload 4, 2) := by decide +kernel
theorem dX12_odds_47 : decode cX12_odds 47 = .ok (.aload_n 0, 1) := by decide +kernel
theorem dX12_odds_48 : decode cX12_odds 48 = .ok (.iload_n 1, 1) := by decide +kernel
theorem dX12_odds_49 : decode cX12_odds 49 = .ok (.invokevirtual 309, 3) := by decide +kernel
theorem dX12_odds_52 : decode cX12_odds 52 = .ok (.iadd, 1) := by decide +kernel
theorem dX12_odds_53 : decode cX12_odds 53 = .ok (.istore 4, 2) := by decide +kernel
theorem dX12_odds_55 : decode cX12_odds 55 = .ok (.iinc 5 1, 3) := by decide +kernel
theorem dX12_odds_58 : decode cX12_odds 58 = .ok (.goto (-25), 3) := by decide +kernel
theorem dX12_odds_61 : decode cX12_odds 61 = .ok (.aload_n 0, 1) := by decide +kernel
theorem dX12_odds_62 : decode cX12_odds 62 = .ok (.iload_n 3, 1) := by decide +kernel
theorem dX12_odds_63 : decode cX12_odds 63 = .ok (.putfield 19, 3) := by decide +kernel
theorem dX12_odds_66 : decode cX12_odds 66 = .ok (.aload_n 0, 1) := by decide +kernel
theorem dX12_odds_67 : decode cX12_odds 67 = .ok (.iload 4, 2) := by decide +kernel
theorem dX12_odds_69 : decode cX12_odds 69 = .ok (.ldc_w 334, 3) := by decide +kernel
theorem dX12_odds_72 : decode cX12_odds 72 = .ok (.iload_n 2, 1) := by decide +kernel
theorem dX12_odds_73 : decode cX12_odds 73 = .ok (.invokevirtual 335, 3) := by decide +kernel
theorem dX12_odds_76 : decode cX12_odds 76 = .ok (.lreturn, 1) := by decide +kernel
theorem dX12_mean_0 : decode cX12_mean 0 = .ok (.aload_n 0, 1) := by decide +kernel
theorem dX12_mean_1 : decode cX12_mean 1 = .ok (.iload_n 1, 1) := by decide +kernel
theorem dX12_mean_2 : decode cX12_mean 2 = .ok (.iconst 0, 1) := by decide +kernel
theorem dX12_mean_3 : decode cX12_mean 3 = .ok (.iconst 1, 1) := by decide +kernel
theorem dX12_mean_4 : decode cX12_mean 4 = .ok (.invokevirtual 203, 3) := by decide +kernel
theorem dX12_mean_7 : decode cX12_mean 7 = .ok (.ifCond .eq 10, 3) := by decide +kernel
theorem dX12_mean_10 : decode cX12_mean 10 = .ok (.aload_n 0, 1) := by decide +kernel
theorem dX12_mean_11 : decode cX12_mean 11 = .ok (.getfield 7, 3) := by decide +kernel
theorem dX12_mean_14 : decode cX12_mean 14 = .ok (.ifCond .ne 7, 3) := by decide +kernel
theorem dX12_mean_17 : decode cX12_mean 17 = .ok (.ldc2_w 332, 3) := by decide +kernel
theorem dX12_mean_20 : decode cX12_mean 20 = .ok (.lreturn, 1) := by decide +kernel
theorem dX12_mean_21 : decode cX12_mean 21 = .ok (.iconst 0, 1) := by decide +kernel
theorem dX12_mean_22 : decode cX12_mean 22 = .ok (.istore_n 2, 1) := by decide +kernel
theorem dX12_mean_23 : decode cX12_mean 23 = .ok (.iconst 0, 1) := by decide +kernel
theorem dX12_mean_24 : decode cX12_mean 24 = .ok (.istore_n 3, 1) := by decide +kernel
theorem dX12_mean_25 : decode cX12_mean 25 = .ok (.iload_n 3, 1) := by decide +kernel
theorem dX12_mean_26 : decode cX12_mean 26 = .ok (.aload_n 0, 1) := by decide +kernel
theorem dX12_mean_27 : decode cX12_mean 27 = .ok (.getfield 7, 3) := by decide +kernel
theorem dX12_mean_30 : decode cX12_mean 30 = .ok (.if_icmp .ge 17, 3) := by decide +kernel
theorem dX12_mean_33 : decode cX12_mean 33 = .ok (.iload_n 2, 1) := by decide +kernel
theorem dX12_mean_34 : decode cX12_mean 34 = .ok (.aload_n 0, 1) := by decide +kernel
theorem dX12_mean_35 : decode cX12_mean 35 = .ok (.iload_n 3, 1) := by decide +kernel
theorem dX12_mean_36 : decode cX12_mean 36 = .ok (.invokevirtual 319, 3) := by decide +kernel
theorem dX12_mean_39 : decode cX12_mean 39 = .ok (.iadd, 1) := by decide +kernel
theorem dX12_mean_40 : decode cX12_mean 40 = .ok (.istore_n 2, 1) := by decide +kernel
theorem dX12_mean_41 : decode cX12_mean 41 = .ok (.iinc 3 1, 3) := by decide +kernel
theorem dX12_mean_44 : decode cX12_mean 44 = .ok (.goto (-19), 3) := by decide +kernel
theorem dX12_mean_47 : decode cX12_mean 47 = .ok (.aload_n 0, 1) := by decide +kernel
theorem dX12_mean_48 : decode cX12_mean 48 = .ok (.iload_n 2, 1) := by decide +kernel
theorem dX12_mean_49 : decode cX12_mean 49 = .ok (.aload_n 0, 1) := by decide +kernel
theorem dX12_mean_50 : decode cX12_mean 50 = .ok (.getfield 7, 3) := by decide +kernel
theorem dX12_mean_53 : decode cX12_mean 53 = .ok (.iload_n 1, 1) := by decide +kernel
theorem dX12_mean_54 : decode cX12_mean 54 = .ok (.invokevirtual 335, 3) := by decide +kernel
theorem dX12_mean_57 : decode cX12_mean 57 = .ok (.lreturn, 1) := by decide +kernel
theorem dX12_book_0 : decode cX12_book 0 = .ok (.iload_n 1, 1) := by decide +kernel
theorem dX12_book_1 : decode cX12_book 1 = .ok (.iconst (-1), 1) := by decide +kernel
theorem dX12_book_2 : decode cX12_book 2 = .ok (.if_icmp .ne 10, 3) := by decide +kernel
theorem dX12_book_5 : decode cX12_book 5 = .ok (.aload_n 0, 1) := by decide +kernel
theorem dX12_book_6 : decode cX12_book 6 = .ok (.iconst 0, 1) := by decide +kernel
theorem dX12_book_7 : decode cX12_book 7 = .ok (.putfield 111, 3) := by decide +kernel
theorem dX12_book_10 : decode cX12_book 10 = .ok (.iconst 0, 1) := by decide +kernel
theorem dX12_book_11 : decode cX12_book 11 = .ok (.ireturn, 1) := by decide +kernel
theorem dX12_book_12 : decode cX12_book 12 = .ok (.aload_n 0, 1) := by decide +kernel
theorem dX12_book_13 : decode cX12_book 13 = .ok (.iload_n 1, 1) := by decide +kernel
theorem dX12_book_14 : decode cX12_book 14 = .ok (.invokevirtual 211, 3) := by decide +kernel
theorem dX12_book_17 : decode cX12_book 17 = .ok (.ifCond .ne 5, 3) := by decide +kernel
theorem dX12_book_20 : decode cX12_book 20 = .ok (.iconst (-1), 1) := by decide +kernel
theorem dX12_book_21 : decode cX12_book 21 = .ok (.ireturn, 1) := by decide +kernel
theorem dX12_book_22 : decode cX12_book 22 = .ok (.aload_n 0, 1) := by decide +kernel
theorem dX12_book_23 : decode cX12_book 23 = .ok (.iload_n 2, 1) := by decide +kernel
theorem dX12_book_24 : decode cX12_book 24 = .ok (.iload_n 3, 1) := by decide +kernel
theorem dX12_book_25 : decode cX12_book 25 = .ok (.invokevirtual 299, 3) := by decide +kernel
theorem dX12_book_28 : decode cX12_book 28 = .ok (.ifCond .ne 6, 3) := by decide +kernel
theorem dX12_book_31 : decode cX12_book 31 = .ok (.bipush (-2), 2) := by decide +kernel
theorem dX12_book_33 : decode cX12_book 33 = .ok (.ireturn, 1) := by decide +kernel
theorem dX12_book_34 : decode cX12_book 34 = .ok (.aload_n 0, 1) := by decide +kernel
theorem dX12_book_35 : decode cX12_book 35 = .ok (.getfield 111, 3) := by decide +kernel
theorem dX12_book_38 : decode cX12_book 38 = .ok (.bipush 10, 2) := by decide +kernel
theorem dX12_book_40 : decode cX12_book 40 = .ok (.if_icmp .ne 6, 3) := by decide +kernel
theorem dX12_book_43 : decode cX12_book 43 = .ok (.bipush (-4), 2) := by decide +kernel
theorem dX12_book_45 : decode cX12_book 45 = .ok (.ireturn, 1) := by decide +kernel
theorem dX12_book_46 : decode cX12_book 46 = .ok (.aload_n 0, 1) := by decide +kernel
theorem dX12_book_47 : decode cX12_book 47 = .ok (.getfield 114, 3) := by decide +kernel
theorem dX12_book_50 : decode cX12_book 50 = .ok (.aload_n 0, 1) := by decide +kernel
theorem dX12_book_51 : decode cX12_book 51 = .ok (.getfield 111, 3) := by decide +kernel
theorem dX12_book_54 : decode cX12_book 54 = .ok (.iload_n 1, 1) := by decide +kernel
theorem dX12_book_55 : decode cX12_book 55 = .ok (.iastore, 1) := by decide +kernel
theorem dX12_book_56 : decode cX12_book 56 = .ok (.aload_n 0, 1) := by decide +kernel
theorem dX12_book_57 : decode cX12_book 57 = .ok (.getfield 117, 3) := by decide +kernel
theorem dX12_book_60 : decode cX12_book 60 = .ok (.aload_n 0, 1) := by decide +kernel
theorem dX12_book_61 : decode cX12_book 61 = .ok (.getfield 111, 3) := by decide +kernel
theorem dX12_book_64 : decode cX12_book 64 = .ok (.iload_n 2, 1) := by decide +kernel
theorem dX12_book_65 : decode cX12_book 65 = .ok (.iastore, 1) := by decide +kernel
theorem dX12_book_66 : decode cX12_book 66 = .ok (.aload_n 0, 1) := by decide +kernel
theorem dX12_book_67 : decode cX12_book 67 = .ok (.getfield 120, 3) := by decide +kernel
theorem dX12_book_70 : decode cX12_book 70 = .ok (.aload_n 0, 1) := by decide +kernel
theorem dX12_book_71 : decode cX12_book 71 = .ok (.getfield 111, 3) := by decide +kernel
theorem dX12_book_74 : decode cX12_book 74 = .ok (.iload_n 3, 1) := by decide +kernel
theorem dX12_book_75 : decode cX12_book 75 = .ok (.iastore, 1) := by decide +kernel
theorem dX12_book_76 : decode cX12_book 76 = .ok (.aload_n 0, 1) := by decide +kernel
theorem dX12_book_77 : decode cX12_book 77 = .ok (.dup, 1) := by decide +kernel
theorem dX12_book_78 : decode cX12_book 78 = .ok (.getfield 111, 3) := by decide +kernel
theorem dX12_book_81 : decode cX12_book 81 = .ok (.iconst 1, 1) := by decide +kernel
theorem dX12_book_82 : decode cX12_book 82 = .ok (.iadd, 1) := by decide +kernel
theorem dX12_book_83 : decode cX12_book 83 = .ok (.putfield 111, 3) := by decide +kernel
theorem dX12_book_86 : decode cX12_book 86 = .ok (.aload_n 0, 1) := by decide +kernel
theorem dX12_book_87 : decode cX12_book 87 = .ok (.getfield 111, 3) := by decide +kernel
theorem dX12_book_90 : decode cX12_book 90 = .ok (.ireturn, 1) := by decide +kernel
theorem dX12_looked_0 : decode cX12_looked 0 = .ok (.aload_n 0, 1) := by decide +kernel
theorem dX12_looked_1 : decode cX12_looked 1 = .ok (.getfield 13, 3) := by decide +kernel
theorem dX12_looked_4 : decode cX12_looked 4 = .ok (.istore_n 1, 1) := by decide +kernel
theorem dX12_looked_5 : decode cX12_looked 5 = .ok (.aload_n 0, 1) := by decide +kernel
theorem dX12_looked_6 : decode cX12_looked 6 = .ok (.getfield 16, 3) := by decide +kernel
theorem dX12_looked_9 : decode cX12_looked 9 = .ok (.istore_n 2, 1) := by decide +kernel
theorem dX12_looked_10 : decode cX12_looked 10 = .ok (.iconst 0, 1) := by decide +kernel
theorem dX12_looked_11 : decode cX12_looked 11 = .ok (.istore_n 3, 1) := by decide +kernel
theorem dX12_looked_12 : decode cX12_looked 12 = .ok (.iload_n 3, 1) := by decide +kernel
theorem dX12_looked_13 : decode cX12_looked 13 = .ok (.iconst 4, 1) := by decide +kernel
theorem dX12_looked_14 : decode cX12_looked 14 = .ok (.if_icmp .ge 21, 3) := by decide +kernel
theorem dX12_looked_17 : decode cX12_looked 17 = .ok (.aload_n 0, 1) := by decide +kernel
theorem dX12_looked_18 : decode cX12_looked 18 = .ok (.getfield 123, 3) := by decide +kernel
theorem dX12_looked_21 : decode cX12_looked 21 = .ok (.iload_n 3, 1) := by decide +kernel
theorem dX12_looked_22 : decode cX12_looked 22 = .ok (.aload_n 0, 1) := by decide +kernel
theorem dX12_looked_23 : decode cX12_looked 23 = .ok (.getfield 35, 3) := by decide +kernel
theorem dX12_looked_26 : decode cX12_looked 26 = .ok (.iload_n 3, 1) := by decide +kernel
theorem dX12_looked_27 : decode cX12_looked 27 = .ok (.iaload, 1) := by decide +kernel
theorem dX12_looked_28 : decode cX12_looked 28 = .ok (.iastore, 1) := by decide +kernel
theorem dX12_looked_29 : decode cX12_looked 29 = .ok (.iinc 3 1, 3) := by decide +kernel
theorem dX12_looked_32 : decode cX12_looked 32 = .ok (.goto (-20), 3) := by decide +kernel
theorem dX12_looked_35 : decode cX12_looked 35 = .ok (.bipush (-5), 2) := by decide +kernel
theorem dX12_looked_37 : decode cX12_looked 37 = .ok (.istore_n 3, 1) := by decide +kernel
theorem dX12_looked_38 : decode cX12_looked 38 = .ok (.iconst 0, 1) := by decide +kernel
theorem dX12_looked_39 : decode cX12_looked 39 = .ok (.istore 4, 2) := by decide +kernel
theorem dX12_looked_41 : decode cX12_looked 41 = .ok (.iload 4, 2) := by decide +kernel
theorem dX12_looked_43 : decode cX12_looked 43 = .ok (.aload_n 0, 1) := by decide +kernel
theorem dX12_looked_44 : decode cX12_looked 44 = .ok (.getfield 111, 3) := by decide +kernel
theorem dX12_looked_47 : decode cX12_looked 47 = .ok (.if_icmp .ge 66, 3) := by decide +kernel
theorem dX12_looked_50 : decode cX12_looked 50 = .ok (.iload_n 3, 1) := by decide +kernel
theorem dX12_looked_51 : decode cX12_looked 51 = .ok (.ifCond .ge 62, 3) := by decide +kernel
theorem dX12_looked_54 : decode cX12_looked 54 = .ok (.aload_n 0, 1) := by decide +kernel
theorem dX12_looked_55 : decode cX12_looked 55 = .ok (.invokevirtual 302, 3) := by decide +kernel
theorem dX12_looked_58 : decode cX12_looked 58 = .ok (.ifCond .eq 13, 3) := by decide +kernel
theorem dX12_looked_61 : decode cX12_looked 61 = .ok (.aload_n 0, 1) := by decide +kernel
theorem dX12_looked_62 : decode cX12_looked 62 = .ok (.iconst 0, 1) := by decide +kernel
theorem dX12_looked_63 : decode cX12_looked 63 = .ok (.putfield 13, 3) := by decide +kernel
theorem dX12_looked_66 : decode cX12_looked 66 = .ok (.aload_n 0, 1) := by decide +kernel
theorem dX12_looked_67 : decode cX12_looked 67 = .ok (.iconst 0, 1) := by decide +kernel
theorem dX12_looked_68 : decode cX12_looked 68 = .ok (.putfield 16, 3) := by decide +kernel
theorem dX12_looked_71 : decode cX12_looked 71 = .ok (.aload_n 0, 1) := by decide +kernel
theorem dX12_looked_72 : decode cX12_looked 72 = .ok (.aload_n 0, 1) := by decide +kernel
theorem dX12_looked_73 : decode cX12_looked 73 = .ok (.getfield 114, 3) := by decide +kernel
theorem dX12_looked_76 : decode cX12_looked 76 = .ok (.iload 4, 2) := by decide +kernel
theorem dX12_looked_78 : decode cX12_looked 78 = .ok (.iaload, 1) := by decide +kernel
theorem dX12_looked_79 : decode cX12_looked 79 = .ok (.aload_n 0, 1) := by decide +kernel
theorem dX12_looked_80 : decode cX12_looked 80 = .ok (.getfield 117, 3) := by decide +kernel
theorem dX12_looked_83 : decode cX12_looked 83 = .ok (.iload 4, 2) := by decide +kernel
theorem dX12_looked_85 : decode cX12_looked 85 = .ok (.iaload, 1) := by decide +kernel
theorem dX12_looked_86 : decode cX12_looked 86 = .ok (.aload_n 0, 1) := by decide +kernel
theorem dX12_looked_87 : decode cX12_looked 87 = .ok (.getfield 120, 3) := by decide +kernel
theorem dX12_looked_90 : decode cX12_looked 90 = .ok (.iload 4, 2) := by decide +kernel
theorem dX12_looked_92 : decode cX12_looked 92 = .ok (.iaload, 1) := by decide +kernel
theorem dX12_looked_93 : decode cX12_looked 93 = .ok (.invokevirtual 305, 3) := by decide +kernel
theorem dX12_looked_96 : decode cX12_looked 96 = .ok (.ifCond .eq 8, 3) := by decide +kernel
theorem dX12_looked_99 : decode cX12_looked 99 = .ok (.bipush (-5), 2) := by decide +kernel
theorem dX12_looked_101 : decode cX12_looked 101 = .ok (.goto 5, 3) := by decide +kernel
theorem dX12_looked_104 : decode cX12_looked 104 = .ok (.iload 4, 2) := by decide +kernel
theorem dX12_looked_106 : decode cX12_looked 106 = .ok (.istore_n 3, 1) := by decide +kernel
theorem dX12_looked_107 : decode cX12_looked 107 = .ok (.iinc 4 1, 3) := by decide +kernel
theorem dX12_looked_110 : decode cX12_looked 110 = .ok (.goto (-69), 3) := by decide +kernel
theorem dX12_looked_113 : decode cX12_looked 113 = .ok (.aload_n 0, 1) := by decide +kernel
theorem dX12_looked_114 : decode cX12_looked 114 = .ok (.iload_n 1, 1) := by decide +kernel
theorem dX12_looked_115 : decode cX12_looked 115 = .ok (.putfield 13, 3) := by decide +kernel
theorem dX12_looked_118 : decode cX12_looked 118 = .ok (.aload_n 0, 1) := by decide +kernel
theorem dX12_looked_119 : decode cX12_looked 119 = .ok (.iload_n 2, 1) := by decide +kernel
theorem dX12_looked_120 : decode cX12_looked 120 = .ok (.putfield 16, 3) := by decide +kernel
theorem dX12_looked_123 : decode cX12_looked 123 = .ok (.iconst 0, 1) := by decide +kernel
theorem dX12_looked_124 : decode cX12_looked 124 = .ok (.istore 4, 2) := by decide +kernel
theorem dX12_looked_126 : decode cX12_looked 126 = .ok (.iload 4, 2) := by decide +kernel
theorem dX12_looked_128 : decode cX12_looked 128 = .ok (.iconst 4, 1) := by decide +kernel
theorem dX12_looked_129 : decode cX12_looked 129 = .ok (.if_icmp .ge 23, 3) := by decide +kernel
theorem dX12_looked_132 : decode cX12_looked 132 = .ok (.aload_n 0, 1) := by decide +kernel
theorem dX12_looked_133 : decode cX12_looked 133 = .ok (.getfield 35, 3) := by decide +kernel
theorem dX12_looked_136 : decode cX12_looked 136 = .ok (.iload 4, 2) := by decide +kernel
theorem dX12_looked_138 : decode cX12_looked 138 = .ok (.aload_n 0, 1) := by decide +kernel
theorem dX12_looked_139 : decode cX12_looked 139 = .ok (.getfield 123, 3) := by decide +kernel
theorem dX12_looked_142 : decode cX12_looked 142 = .ok (.iload 4, 2) := by decide +kernel
theorem dX12_looked_144 : decode cX12_looked 144 = .ok (.iaload, 1) := by decide +kernel
theorem dX12_looked_145 : decode cX12_looked 145 = .ok (.iastore, 1) := by decide +kernel
theorem dX12_looked_146 : decode cX12_looked 146 = .ok (.iinc 4 1, 3) := by decide +kernel
theorem dX12_looked_149 : decode cX12_looked 149 = .ok (.goto (-23), 3) := by decide +kernel
theorem dX12_looked_152 : decode cX12_looked 152 = .ok (.iload_n 3, 1) := by decide +kernel
theorem dX12_looked_153 : decode cX12_looked 153 = .ok (.ireturn, 1) := by decide +kernel
theorem dX12_judge_0 : decode cX12_judge 0 = .ok (.aload_n 0, 1) := by decide +kernel
theorem dX12_judge_1 : decode cX12_judge 1 = .ok (.iload_n 1, 1) := by decide +kernel
theorem dX12_judge_2 : decode cX12_judge 2 = .ok (.invokevirtual 339, 3) := by decide +kernel
theorem dX12_judge_5 : decode cX12_judge 5 = .ok (.ifCond .ne 5, 3) := by decide +kernel
theorem dX12_judge_8 : decode cX12_judge 8 = .ok (.iconst (-1), 1) := by decide +kernel
theorem dX12_judge_9 : decode cX12_judge 9 = .ok (.ireturn, 1) := by decide +kernel
theorem dX12_judge_10 : decode cX12_judge 10 = .ok (.aload_n 0, 1) := by decide +kernel
theorem dX12_judge_11 : decode cX12_judge 11 = .ok (.getfield 190, 3) := by decide +kernel
theorem dX12_judge_14 : decode cX12_judge 14 = .ok (.iload_n 1, 1) := by decide +kernel
theorem dX12_judge_15 : decode cX12_judge 15 = .ok (.iaload, 1) := by decide +kernel
theorem dX12_judge_16 : decode cX12_judge 16 = .ok (.ifCond .lt 16, 3) := by decide +kernel
theorem dX12_judge_19 : decode cX12_judge 19 = .ok (.aload_n 0, 1) := by decide +kernel
theorem dX12_judge_20 : decode cX12_judge 20 = .ok (.getfield 190, 3) := by decide +kernel
theorem dX12_judge_23 : decode cX12_judge 23 = .ok (.iload_n 1, 1) := by decide +kernel
theorem dX12_judge_24 : decode cX12_judge 24 = .ok (.iaload, 1) := by decide +kernel
theorem dX12_judge_25 : decode cX12_judge 25 = .ok (.iconst 1, 1) := by decide +kernel
theorem dX12_judge_26 : decode cX12_judge 26 = .ok (.if_icmp .eq 6, 3) := by decide +kernel
theorem dX12_judge_29 : decode cX12_judge 29 = .ok (.bipush (-12), 2) := by decide +kernel
theorem dX12_judge_31 : decode cX12_judge 31 = .ok (.ireturn, 1) := by decide +kernel
theorem dX12_judge_32 : decode cX12_judge 32 = .ok (.iconst 0, 1) := by decide +kernel
theorem dX12_judge_33 : decode cX12_judge 33 = .ok (.istore_n 3, 1) := by decide +kernel
theorem dX12_judge_34 : decode cX12_judge 34 = .ok (.iload_n 3, 1) := by decide +kernel
theorem dX12_judge_35 : decode cX12_judge 35 = .ok (.aload_n 0, 1) := by decide +kernel
theorem dX12_judge_36 : decode cX12_judge 36 = .ok (.getfield 7, 3) := by decide +kernel
theorem dX12_judge_39 : decode cX12_judge 39 = .ok (.if_icmp .ge 67, 3) := by decide +kernel
theorem dX12_judge_42 : decode cX12_judge 42 = .ok (.aload_n 0, 1) := by decide +kernel
theorem dX12_judge_43 : decode cX12_judge 43 = .ok (.getfield 190, 3) := by decide +kernel
theorem dX12_judge_46 : decode cX12_judge 46 = .ok (.iload_n 1, 1) := by decide +kernel
theorem dX12_judge_47 : decode cX12_judge 47 = .ok (.iaload, 1) := by decide +kernel
theorem dX12_judge_48 : decode cX12_judge 48 = .ok (.ifCond .lt 21, 3) := by decide +kernel
theorem dX12_judge_51 : decode cX12_judge 51 = .ok (.iload_n 2, 1) := by decide +kernel
theorem dX12_judge_52 : decode cX12_judge 52 = .ok (.ifCond .lt 17, 3) := by decide +kernel
theorem dX12_judge_55 : decode cX12_judge 55 = .ok (.iload_n 2, 1) := by decide +kernel
theorem dX12_judge_56 : decode cX12_judge 56 = .ok (.aload_n 0, 1) := by decide +kernel
theorem dX12_judge_57 : decode cX12_judge 57 = .ok (.getfield 193, 3) := by decide +kernel
theorem dX12_judge_60 : decode cX12_judge 60 = .ok (.iload_n 1, 1) := by decide +kernel
theorem dX12_judge_61 : decode cX12_judge 61 = .ok (.iaload, 1) := by decide +kernel
theorem dX12_judge_62 : decode cX12_judge 62 = .ok (.iload_n 3, 1) := by decide +kernel
theorem dX12_judge_63 : decode cX12_judge 63 = .ok (.isub, 1) := by decide +kernel
theorem dX12_judge_64 : decode cX12_judge 64 = .ok (.iconst 1, 1) := by decide +kernel
theorem dX12_judge_65 : decode cX12_judge 65 = .ok (.isub, 1) := by decide +kernel
theorem dX12_judge_66 : decode cX12_judge 66 = .ok (.if_icmp .le 8, 3) := by decide +kernel
theorem dX12_judge_69 : decode cX12_judge 69 = .ok (.bipush 100, 2) := by decide +kernel
theorem dX12_judge_71 : decode cX12_judge 71 = .ok (.iload_n 3, 1) := by decide +kernel
theorem dX12_judge_72 : decode cX12_judge 72 = .ok (.iadd, 1) := by decide +kernel
theorem dX12_judge_73 : decode cX12_judge 73 = .ok (.ireturn, 1) := by decide +kernel
theorem dX12_judge_74 : decode cX12_judge 74 = .ok (.aload_n 0, 1) := by decide +kernel
theorem dX12_judge_75 : decode cX12_judge 75 = .ok (.getfield 196, 3) := by decide +kernel
theorem dX12_judge_78 : decode cX12_judge 78 = .ok (.bipush 60, 2) := by decide +kernel
theorem dX12_judge_80 : decode cX12_judge 80 = .ok (.iload_n 1, 1) := by decide +kernel
theorem dX12_judge_81 : decode cX12_judge 81 = .ok (.imul, 1) := by decide +kernel
theorem dX12_judge_82 : decode cX12_judge 82 = .ok (.iload_n 2, 1) := by decide +kernel
theorem dX12_judge_83 : decode cX12_judge 83 = .ok (.iadd, 1) := by decide +kernel
theorem dX12_judge_84 : decode cX12_judge 84 = .ok (.iload_n 3, 1) := by decide +kernel
theorem dX12_judge_85 : decode cX12_judge 85 = .ok (.iadd, 1) := by decide +kernel
theorem dX12_judge_86 : decode cX12_judge 86 = .ok (.laload, 1) := by decide +kernel
theorem dX12_judge_87 : decode cX12_judge 87 = .ok (.aload_n 0, 1) := by decide +kernel
theorem dX12_judge_88 : decode cX12_judge 88 = .ok (.getfield 35, 3) := by decide +kernel
theorem dX12_judge_91 : decode cX12_judge 91 = .ok (.iload_n 3, 1) := by decide +kernel
theorem dX12_judge_92 : decode cX12_judge 92 = .ok (.iaload, 1) := by decide +kernel
theorem dX12_judge_93 : decode cX12_judge 93 = .ok (.i2l, 1) := by decide +kernel
theorem dX12_judge_94 : decode cX12_judge 94 = .ok (.lcmp, 1) := by decide +kernel
