theorem dX12_firstOf_125 : decode cX12_firstOf 125 = .ok (.aload_n 0, 1) := by decide +kernel
theorem dX12_firstOf_126 : decode cX12_firstOf 126 = .ok (.getfield 35, 3) := by decide +kernel
theorem dX12_firstOf_129 : decode cX12_firstOf 129 = .ok (.iload_n 1, 1) := by decide +kernel
theorem dX12_firstOf_130 : decode cX12_firstOf 130 = .ok (.iaload, 1) := by decide +kernel
theorem dX12_firstOf_131 : decode cX12_firstOf 131 = .ok (.iconst 4, 1) := by decide +kernel
theorem dX12_firstOf_132 : decode cX12_firstOf 132 = .ok (.irem, 1) := by decide +kernel
theorem dX12_firstOf_133 : decode cX12_firstOf 133 = .ok (.iadd, 1) := by decide +kernel
theorem dX12_firstOf_134 : decode cX12_firstOf 134 = .ok (.iaload, 1) := by decide +kernel
theorem dX12_firstOf_135 : decode cX12_firstOf 135 = .ok (.ireturn, 1) := by decide +kernel
theorem dX12_firstOf_136 : decode cX12_firstOf 136 = .ok (.aload_n 0, 1) := by decide +kernel
theorem dX12_firstOf_137 : decode cX12_firstOf 137 = .ok (.getfield 29, 3) := by decide +kernel
theorem dX12_firstOf_140 : decode cX12_firstOf 140 = .ok (.iload_n 1, 1) := by decide +kernel
theorem dX12_firstOf_141 : decode cX12_firstOf 141 = .ok (.iaload, 1) := by decide +kernel
theorem dX12_firstOf_142 : decode cX12_firstOf 142 = .ok (.ireturn, 1) := by decide +kernel
theorem dX12_secondOf_0 : decode cX12_secondOf 0 = .ok (.aload_n 0, 1) := by decide +kernel
theorem dX12_secondOf_1 : decode cX12_secondOf 1 = .ok (.getfield 22, 3) := by decide +kernel
theorem dX12_secondOf_4 : decode cX12_secondOf 4 = .ok (.iload_n 1, 1) := by decide +kernel
theorem dX12_secondOf_5 : decode cX12_secondOf 5 = .ok (.iaload, 1) := by decide +kernel
theorem dX12_secondOf_6 : decode cX12_secondOf 6 = .ok (.iconst 1, 1) := by decide +kernel
theorem dX12_secondOf_7 : decode cX12_secondOf 7 = .ok (.if_icmp .eq 13, 3) := by decide +kernel
theorem dX12_secondOf_10 : decode cX12_secondOf 10 = .ok (.aload_n 0, 1) := by decide +kernel
theorem dX12_secondOf_11 : decode cX12_secondOf 11 = .ok (.getfield 22, 3) := by decide +kernel
theorem dX12_secondOf_14 : decode cX12_secondOf 14 = .ok (.iload_n 1, 1) := by decide +kernel
theorem dX12_secondOf_15 : decode cX12_secondOf 15 = .ok (.iaload, 1) := by decide +kernel
theorem dX12_secondOf_16 : decode cX12_secondOf 16 = .ok (.iconst 4, 1) := by decide +kernel
theorem dX12_secondOf_17 : decode cX12_secondOf 17 = .ok (.if_icmp .ne 12, 3) := by decide +kernel
theorem dX12_secondOf_20 : decode cX12_secondOf 20 = .ok (.aload_n 0, 1) := by decide +kernel
theorem dX12_secondOf_21 : decode cX12_secondOf 21 = .ok (.getfield 29, 3) := by decide +kernel
theorem dX12_secondOf_24 : decode cX12_secondOf 24 = .ok (.iload_n 1, 1) := by decide +kernel
theorem dX12_secondOf_25 : decode cX12_secondOf 25 = .ok (.iaload, 1) := by decide +kernel
theorem dX12_secondOf_26 : decode cX12_secondOf 26 = .ok (.goto 9, 3) := by decide +kernel
theorem dX12_secondOf_29 : decode cX12_secondOf 29 = .ok (.aload_n 0, 1) := by decide +kernel
theorem dX12_secondOf_30 : decode cX12_secondOf 30 = .ok (.getfield 32, 3) := by decide +kernel
theorem dX12_secondOf_33 : decode cX12_secondOf 33 = .ok (.iload_n 1, 1) := by decide +kernel
theorem dX12_secondOf_34 : decode cX12_secondOf 34 = .ok (.iaload, 1) := by decide +kernel
theorem dX12_secondOf_35 : decode cX12_secondOf 35 = .ok (.ireturn, 1) := by decide +kernel
theorem dX12_of_0 : decode cX12_of 0 = .ok (.aload_n 0, 1) := by decide +kernel
theorem dX12_of_1 : decode cX12_of 1 = .ok (.iload_n 1, 1) := by decide +kernel
theorem dX12_of_2 : decode cX12_of 2 = .ok (.invokevirtual 211, 3) := by decide +kernel
theorem dX12_of_5 : decode cX12_of 5 = .ok (.ifCond .ne 5, 3) := by decide +kernel
theorem dX12_of_8 : decode cX12_of 8 = .ok (.iconst (-1), 1) := by decide +kernel
theorem dX12_of_9 : decode cX12_of 9 = .ok (.ireturn, 1) := by decide +kernel
theorem dX12_of_10 : decode cX12_of 10 = .ok (.aload_n 0, 1) := by decide +kernel
theorem dX12_of_11 : decode cX12_of 11 = .ok (.iload_n 2, 1) := by decide +kernel
theorem dX12_of_12 : decode cX12_of 12 = .ok (.bipush 10, 2) := by decide +kernel
theorem dX12_of_14 : decode cX12_of 14 = .ok (.bipush 29, 2) := by decide +kernel
theorem dX12_of_16 : decode cX12_of 16 = .ok (.invokevirtual 203, 3) := by decide +kernel
theorem dX12_of_19 : decode cX12_of 19 = .ok (.ifCond .eq 31, 3) := by decide +kernel
theorem dX12_of_22 : decode cX12_of 22 = .ok (.iload_n 2, 1) := by decide +kernel
theorem dX12_of_23 : decode cX12_of 23 = .ok (.bipush 20, 2) := by decide +kernel
theorem dX12_of_25 : decode cX12_of 25 = .ok (.if_icmp .ge 15, 3) := by decide +kernel
theorem dX12_of_28 : decode cX12_of 28 = .ok (.aload_n 0, 1) := by decide +kernel
theorem dX12_of_29 : decode cX12_of 29 = .ok (.iload_n 1, 1) := by decide +kernel
theorem dX12_of_30 : decode cX12_of 30 = .ok (.iload_n 2, 1) := by decide +kernel
theorem dX12_of_31 : decode cX12_of 31 = .ok (.bipush 10, 2) := by decide +kernel
theorem dX12_of_33 : decode cX12_of 33 = .ok (.isub, 1) := by decide +kernel
theorem dX12_of_34 : decode cX12_of 34 = .ok (.invokevirtual 280, 3) := by decide +kernel
theorem dX12_of_37 : decode cX12_of 37 = .ok (.goto 12, 3) := by decide +kernel
theorem dX12_of_40 : decode cX12_of 40 = .ok (.aload_n 0, 1) := by decide +kernel
theorem dX12_of_41 : decode cX12_of 41 = .ok (.iload_n 1, 1) := by decide +kernel
theorem dX12_of_42 : decode cX12_of 42 = .ok (.iload_n 2, 1) := by decide +kernel
theorem dX12_of_43 : decode cX12_of 43 = .ok (.bipush 20, 2) := by decide +kernel
theorem dX12_of_45 : decode cX12_of 45 = .ok (.isub, 1) := by decide +kernel
theorem dX12_of_46 : decode cX12_of 46 = .ok (.invokevirtual 284, 3) := by decide +kernel
theorem dX12_of_49 : decode cX12_of 49 = .ok (.ireturn, 1) := by decide +kernel
theorem dX12_of_50 : decode cX12_of 50 = .ok (.iload_n 2, 1) := by decide +kernel
theorem dX12_of_51 : decode cX12_of 51 = .ok (.tableswitch 88 0 6 #[41, 48, 55, 62, 69, 76, 82], 41) := by decide +kernel
theorem dX12_of_92 : decode cX12_of 92 = .ok (.aload_n 0, 1) := by decide +kernel
theorem dX12_of_93 : decode cX12_of 93 = .ok (.getfield 22, 3) := by decide +kernel
theorem dX12_of_96 : decode cX12_of 96 = .ok (.iload_n 1, 1) := by decide +kernel
theorem dX12_of_97 : decode cX12_of 97 = .ok (.iaload, 1) := by decide +kernel
theorem dX12_of_98 : decode cX12_of 98 = .ok (.ireturn, 1) := by decide +kernel
theorem dX12_of_99 : decode cX12_of 99 = .ok (.aload_n 0, 1) := by decide +kernel
theorem dX12_of_100 : decode cX12_of 100 = .ok (.getfield 26, 3) := by decide +kernel
theorem dX12_of_103 : decode cX12_of 103 = .ok (.iload_n 1, 1) := by decide +kernel
theorem dX12_of_104 : decode cX12_of 104 = .ok (.iaload, 1) := by decide +kernel
theorem dX12_of_105 : decode cX12_of 105 = .ok (.ireturn, 1) := by decide +kernel
theorem dX12_of_106 : decode cX12_of 106 = .ok (.aload_n 0, 1) := by decide +kernel
theorem dX12_of_107 : decode cX12_of 107 = .ok (.getfield 29, 3) := by decide +kernel
theorem dX12_of_110 : decode cX12_of 110 = .ok (.iload_n 1, 1) := by decide +kernel
theorem dX12_of_111 : decode cX12_of 111 = .ok (.iaload, 1) := by decide +kernel
theorem dX12_of_112 : decode cX12_of 112 = .ok (.ireturn, 1) := by decide +kernel
theorem dX12_of_113 : decode cX12_of 113 = .ok (.aload_n 0, 1) := by decide +kernel
theorem dX12_of_114 : decode cX12_of 114 = .ok (.getfield 32, 3) := by decide +kernel
theorem dX12_of_117 : decode cX12_of 117 = .ok (.iload_n 1, 1) := by decide +kernel
theorem dX12_of_118 : decode cX12_of 118 = .ok (.iaload, 1) := by decide +kernel
theorem dX12_of_119 : decode cX12_of 119 = .ok (.ireturn, 1) := by decide +kernel
theorem dX12_of_120 : decode cX12_of 120 = .ok (.aload_n 0, 1) := by decide +kernel
theorem dX12_of_121 : decode cX12_of 121 = .ok (.getfield 35, 3) := by decide +kernel
theorem dX12_of_124 : decode cX12_of 124 = .ok (.iload_n 1, 1) := by decide +kernel
theorem dX12_of_125 : decode cX12_of 125 = .ok (.iaload, 1) := by decide +kernel
theorem dX12_of_126 : decode cX12_of 126 = .ok (.ireturn, 1) := by decide +kernel
theorem dX12_of_127 : decode cX12_of 127 = .ok (.aload_n 0, 1) := by decide +kernel
theorem dX12_of_128 : decode cX12_of 128 = .ok (.iload_n 1, 1) := by decide +kernel
theorem dX12_of_129 : decode cX12_of 129 = .ok (.invokevirtual 287, 3) := by decide +kernel
theorem dX12_of_132 : decode cX12_of 132 = .ok (.ireturn, 1) := by decide +kernel
theorem dX12_of_133 : decode cX12_of 133 = .ok (.aload_n 0, 1) := by decide +kernel
theorem dX12_of_134 : decode cX12_of 134 = .ok (.iload_n 1, 1) := by decide +kernel
theorem dX12_of_135 : decode cX12_of 135 = .ok (.invokevirtual 290, 3) := by decide +kernel
theorem dX12_of_138 : decode cX12_of 138 = .ok (.ireturn, 1) := by decide +kernel
theorem dX12_of_139 : decode cX12_of 139 = .ok (.iconst (-1), 1) := by decide +kernel
theorem dX12_of_140 : decode cX12_of 140 = .ok (.ireturn, 1) := by decide +kernel
theorem dX12_told_0 : decode cX12_told 0 = .ok (.iload_n 1, 1) := by decide +kernel
theorem dX12_told_1 : decode cX12_told 1 = .ok (.ifCond .ne 10, 3) := by decide +kernel
theorem dX12_told_4 : decode cX12_told 4 = .ok (.aload_n 0, 1) := by decide +kernel
theorem dX12_told_5 : decode cX12_told 5 = .ok (.getfield 13, 3) := by decide +kernel
theorem dX12_told_8 : decode cX12_told 8 = .ok (.goto 28, 3) := by decide +kernel
theorem dX12_told_11 : decode cX12_told 11 = .ok (.iload_n 1, 1) := by decide +kernel
theorem dX12_told_12 : decode cX12_told 12 = .ok (.iconst 1, 1) := by decide +kernel
theorem dX12_told_13 : decode cX12_told 13 = .ok (.if_icmp .ne 10, 3) := by decide +kernel
theorem dX12_told_16 : decode cX12_told 16 = .ok (.aload_n 0, 1) := by decide +kernel
theorem dX12_told_17 : decode cX12_told 17 = .ok (.getfield 16, 3) := by decide +kernel
theorem dX12_told_20 : decode cX12_told 20 = .ok (.goto 16, 3) := by decide +kernel
theorem dX12_told_23 : decode cX12_told 23 = .ok (.iload_n 1, 1) := by decide +kernel
theorem dX12_told_24 : decode cX12_told 24 = .ok (.iconst 2, 1) := by decide +kernel
theorem dX12_told_25 : decode cX12_told 25 = .ok (.if_icmp .ne 10, 3) := by decide +kernel
theorem dX12_told_28 : decode cX12_told 28 = .ok (.aload_n 0, 1) := by decide +kernel
theorem dX12_told_29 : decode cX12_told 29 = .ok (.getfield 19, 3) := by decide +kernel
theorem dX12_told_32 : decode cX12_told 32 = .ok (.goto 4, 3) := by decide +kernel
theorem dX12_told_35 : decode cX12_told 35 = .ok (.iconst (-1), 1) := by decide +kernel
theorem dX12_told_36 : decode cX12_told 36 = .ok (.ireturn, 1) := by decide +kernel
theorem dX12_stance_0 : decode cX12_stance 0 = .ok (.aload_n 0, 1) := by decide +kernel
theorem dX12_stance_1 : decode cX12_stance 1 = .ok (.iload_n 1, 1) := by decide +kernel
theorem dX12_stance_2 : decode cX12_stance 2 = .ok (.iconst 0, 1) := by decide +kernel
theorem dX12_stance_3 : decode cX12_stance 3 = .ok (.iconst 2, 1) := by decide +kernel
theorem dX12_stance_4 : decode cX12_stance 4 = .ok (.invokevirtual 203, 3) := by decide +kernel
theorem dX12_stance_7 : decode cX12_stance 7 = .ok (.ifCond .ne 5, 3) := by decide +kernel
theorem dX12_stance_10 : decode cX12_stance 10 = .ok (.iconst (-1), 1) := by decide +kernel
theorem dX12_stance_11 : decode cX12_stance 11 = .ok (.ireturn, 1) := by decide +kernel
theorem dX12_stance_12 : decode cX12_stance 12 = .ok (.aload_n 0, 1) := by decide +kernel
theorem dX12_stance_13 : decode cX12_stance 13 = .ok (.getfield 19, 3) := by decide +kernel
theorem dX12_stance_16 : decode cX12_stance 16 = .ok (.istore_n 2, 1) := by decide +kernel
theorem dX12_stance_17 : decode cX12_stance 17 = .ok (.aload_n 0, 1) := by decide +kernel
theorem dX12_stance_18 : decode cX12_stance 18 = .ok (.iload_n 1, 1) := by decide +kernel
theorem dX12_stance_19 : decode cX12_stance 19 = .ok (.putfield 19, 3) := by decide +kernel
theorem dX12_stance_22 : decode cX12_stance 22 = .ok (.iload_n 2, 1) := by decide +kernel
theorem dX12_stance_23 : decode cX12_stance 23 = .ok (.ireturn, 1) := by decide +kernel
theorem dX12_score_0 : decode cX12_score 0 = .ok (.aload_n 0, 1) := by decide +kernel
theorem dX12_score_1 : decode cX12_score 1 = .ok (.iload_n 1, 1) := by decide +kernel
theorem dX12_score_2 : decode cX12_score 2 = .ok (.iconst 0, 1) := by decide +kernel
theorem dX12_score_3 : decode cX12_score 3 = .ok (.iconst 4, 1) := by decide +kernel
theorem dX12_score_4 : decode cX12_score 4 = .ok (.invokevirtual 203, 3) := by decide +kernel
theorem dX12_score_7 : decode cX12_score 7 = .ok (.ifCond .eq 21, 3) := by decide +kernel
theorem dX12_score_10 : decode cX12_score 10 = .ok (.aload_n 0, 1) := by decide +kernel
theorem dX12_score_11 : decode cX12_score 11 = .ok (.iload_n 2, 1) := by decide +kernel
theorem dX12_score_12 : decode cX12_score 12 = .ok (.iconst 0, 1) := by decide +kernel
theorem dX12_score_13 : decode cX12_score 13 = .ok (.iconst 4, 1) := by decide +kernel
theorem dX12_score_14 : decode cX12_score 14 = .ok (.invokevirtual 203, 3) := by decide +kernel
theorem dX12_score_17 : decode cX12_score 17 = .ok (.ifCond .eq 11, 3) := by decide +kernel
theorem dX12_score_20 : decode cX12_score 20 = .ok (.iload_n 1, 1) := by decide +kernel
theorem dX12_score_21 : decode cX12_score 21 = .ok (.iload_n 2, 1) := by decide +kernel
theorem dX12_score_22 : decode cX12_score 22 = .ok (.iadd, 1) := by decide +kernel
theorem dX12_score_23 : decode cX12_score 23 = .ok (.bipush 8, 2) := by decide +kernel
theorem dX12_score_25 : decode cX12_score 25 = .ok (.if_icmp .ne 6, 3) := by decide +kernel
theorem dX12_score_28 : decode cX12_score 28 = .ok (.bipush (-2), 2) := by decide +kernel
theorem dX12_score_30 : decode cX12_score 30 = .ok (.ireturn, 1) := by decide +kernel
theorem dX12_score_31 : decode cX12_score 31 = .ok (.aload_n 0, 1) := by decide +kernel
theorem dX12_score_32 : decode cX12_score 32 = .ok (.iload_n 1, 1) := by decide +kernel
theorem dX12_score_33 : decode cX12_score 33 = .ok (.putfield 13, 3) := by decide +kernel
theorem dX12_score_36 : decode cX12_score 36 = .ok (.aload_n 0, 1) := by decide +kernel
theorem dX12_score_37 : decode cX12_score 37 = .ok (.iload_n 2, 1) := by decide +kernel
theorem dX12_score_38 : decode cX12_score 38 = .ok (.putfield 16, 3) := by decide +kernel
theorem dX12_score_41 : decode cX12_score 41 = .ok (.iconst 1, 1) := by decide +kernel
theorem dX12_score_42 : decode cX12_score 42 = .ok (.ireturn, 1) := by decide +kernel
theorem dX12_chanceOf_0 : decode cX12_chanceOf 0 = .ok (.aload_n 0, 1) := by decide +kernel
theorem dX12_chanceOf_1 : decode cX12_chanceOf 1 = .ok (.iload_n 1, 1) := by decide +kernel
theorem dX12_chanceOf_2 : decode cX12_chanceOf 2 = .ok (.iload_n 2, 1) := by decide +kernel
theorem dX12_chanceOf_3 : decode cX12_chanceOf 3 = .ok (.invokevirtual 280, 3) := by decide +kernel
theorem dX12_chanceOf_6 : decode cX12_chanceOf 6 = .ok (.istore 4, 2) := by decide +kernel
theorem dX12_chanceOf_8 : decode cX12_chanceOf 8 = .ok (.iload 4, 2) := by decide +kernel
theorem dX12_chanceOf_10 : decode cX12_chanceOf 10 = .ok (.aload_n 0, 1) := by decide +kernel
theorem dX12_chanceOf_11 : decode cX12_chanceOf 11 = .ok (.iload_n 1, 1) := by decide +kernel
theorem dX12_chanceOf_12 : decode cX12_chanceOf 12 = .ok (.iload_n 2, 1) := by decide +kernel
theorem dX12_chanceOf_13 : decode cX12_chanceOf 13 = .ok (.invokevirtual 284, 3) := by decide +kernel
theorem dX12_chanceOf_16 : decode cX12_chanceOf 16 = .ok (.imul, 1) := by decide +kernel
theorem dX12_chanceOf_17 : decode cX12_chanceOf 17 = .ok (.bipush 100, 2) := by decide +kernel
theorem dX12_chanceOf_19 : decode cX12_chanceOf 19 = .ok (.imul, 1) := by decide +kernel
theorem dX12_chanceOf_20 : decode cX12_chanceOf 20 = .ok (.bipush 100, 2) := by decide +kernel
theorem dX12_chanceOf_22 : decode cX12_chanceOf 22 = .ok (.iload 4, 2) := by decide +kernel
theorem dX12_chanceOf_24 : decode cX12_chanceOf 24 = .ok (.isub, 1) := by decide +kernel
theorem dX12_chanceOf_25 : decode cX12_chanceOf 25 = .ok (.aload_n 0, 1) := by decide +kernel
theorem dX12_chanceOf_26 : decode cX12_chanceOf 26 = .ok (.iload_n 1, 1) := by decide +kernel
theorem dX12_chanceOf_27 : decode cX12_chanceOf 27 = .ok (.iload_n 3, 1) := by decide +kernel
theorem dX12_chanceOf_28 : decode cX12_chanceOf 28 = .ok (.invokevirtual 280, 3) := by decide +kernel
theorem dX12_chanceOf_31 : decode cX12_chanceOf 31 = .ok (.imul, 1) := by decide +kernel
theorem dX12_chanceOf_32 : decode cX12_chanceOf 32 = .ok (.aload_n 0, 1) := by decide +kernel
theorem dX12_chanceOf_33 : decode cX12_chanceOf 33 = .ok (.iload_n 1, 1) := by decide +kernel
theorem dX12_chanceOf_34 : decode cX12_chanceOf 34 = .ok (.iload_n 3, 1) := by decide +kernel
theorem dX12_chanceOf_35 : decode cX12_chanceOf 35 = .ok (.invokevirtual 284, 3) := by decide +kernel
theorem dX12_chanceOf_38 : decode cX12_chanceOf 38 = .ok (.imul, 1) := by decide +kernel
theorem dX12_chanceOf_39 : decode cX12_chanceOf 39 = .ok (.iadd, 1) := by decide +kernel
theorem dX12_chanceOf_40 : decode cX12_chanceOf 40 = .ok (.ireturn, 1) := by decide +kernel
theorem dX12_faultsOf_0 : decode cX12_faultsOf 0 = .ok (.bipush 100, 2) := by decide +kernel
theorem dX12_faultsOf_2 : decode cX12_faultsOf 2 = .ok (.aload_n 0, 1) := by decide +kernel
theorem dX12_faultsOf_3 : decode cX12_faultsOf 3 = .ok (.iload_n 1, 1) := by decide +kernel
theorem dX12_faultsOf_4 : decode cX12_faultsOf 4 = .ok (.iload_n 2, 1) := by decide +kernel
theorem dX12_faultsOf_5 : decode cX12_faultsOf 5 = .ok (.invokevirtual 280, 3) := by decide +kernel
theorem dX12_faultsOf_8 : decode cX12_faultsOf 8 = .ok (.isub, 1) := by decide +kernel
theorem dX12_faultsOf_9 : decode cX12_faultsOf 9 = .ok (.bipush 100, 2) := by decide +kernel
theorem dX12_faultsOf_11 : decode cX12_faultsOf 11 = .ok (.aload_n 0, 1) := by decide +kernel
theorem dX12_faultsOf_12 : decode cX12_faultsOf 12 = .ok (.iload_n 1, 1) := by decide +kernel
theorem dX12_faultsOf_13 : decode cX12_faultsOf 13 = .ok (.iload_n 3, 1) := by decide +kernel
theorem dX12_faultsOf_14 : decode cX12_faultsOf 14 = .ok (.invokevirtual 280, 3) := by decide +kernel
theorem dX12_faultsOf_17 : decode cX12_faultsOf 17 = .ok (.isub, 1) := by decide +kernel
theorem dX12_faultsOf_18 : decode cX12_faultsOf 18 = .ok (.imul, 1) := by decide +kernel
theorem dX12_faultsOf_19 : decode cX12_faultsOf 19 = .ok (.ireturn, 1) := by decide +kernel
theorem dX12_chance_0 : decode cX12_chance 0 = .ok (.aload_n 0, 1) := by decide +kernel
theorem dX12_chance_1 : decode cX12_chance 1 = .ok (.iload_n 1, 1) := by decide +kernel
theorem dX12_chance_2 : decode cX12_chance 2 = .ok (.invokevirtual 211, 3) := by decide +kernel
theorem dX12_chance_5 : decode cX12_chance 5 = .ok (.ifCond .eq 29, 3) := by decide +kernel
theorem dX12_chance_8 : decode cX12_chance 8 = .ok (.aload_n 0, 1) := by decide +kernel
theorem dX12_chance_9 : decode cX12_chance 9 = .ok (.iload_n 2, 1) := by decide +kernel
theorem dX12_chance_10 : decode cX12_chance 10 = .ok (.invokevirtual 207, 3) := by decide +kernel
theorem dX12_chance_13 : decode cX12_chance 13 = .ok (.ifCond .eq 21, 3) := by decide +kernel
theorem dX12_chance_16 : decode cX12_chance 16 = .ok (.aload_n 0, 1) := by decide +kernel
theorem dX12_chance_17 : decode cX12_chance 17 = .ok (.iload_n 3, 1) := by decide +kernel
theorem dX12_chance_18 : decode cX12_chance 18 = .ok (.invokevirtual 207, 3) := by decide +kernel
theorem dX12_chance_21 : decode cX12_chance 21 = .ok (.ifCond .eq 13, 3) := by decide +kernel
theorem dX12_chance_24 : decode cX12_chance 24 = .ok (.aload_n 0, 1) := by decide +kernel
theorem dX12_chance_25 : decode cX12_chance 25 = .ok (.iload_n 1, 1) := by decide +kernel
theorem dX12_chance_26 : decode cX12_chance 26 = .ok (.iload_n 2, 1) := by decide +kernel
theorem dX12_chance_27 : decode cX12_chance 27 = .ok (.iload_n 3, 1) := by decide +kernel
theorem dX12_chance_28 : decode cX12_chance 28 = .ok (.invokevirtual 293, 3) := by decide +kernel
theorem dX12_chance_31 : decode cX12_chance 31 = .ok (.goto 4, 3) := by decide +kernel
theorem dX12_chance_34 : decode cX12_chance 34 = .ok (.iconst (-1), 1) := by decide +kernel
theorem dX12_chance_35 : decode cX12_chance 35 = .ok (.ireturn, 1) := by decide +kernel
theorem dX12_faults_0 : decode cX12_faults 0 = .ok (.aload_n 0, 1) := by decide +kernel
theorem dX12_faults_1 : decode cX12_faults 1 = .ok (.iload_n 1, 1) := by decide +kernel
theorem dX12_faults_2 : decode cX12_faults 2 = .ok (.invokevirtual 211, 3) := by decide +kernel
theorem dX12_faults_5 : decode cX12_faults 5 = .ok (.ifCond .eq 29, 3) := by decide +kernel
theorem dX12_faults_8 : decode cX12_faults 8 = .ok (.aload_n 0, 1) := by decide +kernel
theorem dX12_faults_9 : decode cX12_faults 9 = .ok (.iload_n 2, 1) := by decide +kernel
theorem dX12_faults_10 : decode cX12_faults 10 = .ok (.invokevirtual 207, 3) := by decide +kernel
theorem dX12_faults_13 : decode cX12_faults 13 = .ok (.ifCond .eq 21, 3) := by decide +kernel
theorem dX12_faults_16 : decode cX12_faults 16 = .ok (.aload_n 0, 1) := by decide +kernel
theorem dX12_faults_17 : decode cX12_faults 17 = .ok (.iload_n 3, 1) := by decide +kernel
theorem dX12_faults_18 : decode cX12_faults 18 = .ok (.invokevirtual 207, 3) := by decide +kernel
theorem dX12_faults_21 : decode cX12_faults 21 = .ok (.ifCond .eq 13, 3) := by decide +kernel
theorem dX12_faults_24 : decode cX12_faults 24 = .ok (.aload_n 0, 1) := by decide +kernel
theorem dX12_faults_25 : decode cX12_faults 25 = .ok (.iload_n 1, 1) := by decide +kernel
theorem dX12_faults_26 : decode cX12_faults 26 = .ok (.iload_n 2, 1) := by decide +kernel
theorem dX12_faults_27 : decode cX12_faults 27 = .ok (.iload_n 3, 1) := by decide +kernel
theorem dX12_faults_28 : decode cX12_faults 28 = .ok (.invokevirtual 296, 3) := by decide +kernel
theorem dX12_faults_31 : decode cX12_faults 31 = .ok (.goto 4, 3) := by decide +kernel
theorem dX12_faults_34 : decode cX12_faults 34 = .ok (.iconst (-1), 1) := by decide +kernel
theorem dX12_faults_35 : decode cX12_faults 35 = .ok (.ireturn, 1) := by decide +kernel
theorem dX12_chanceNow_0 : decode cX12_chanceNow 0 = .ok (.aload_n 0, 1) := by decide +kernel
theorem dX12_chanceNow_1 : decode cX12_chanceNow 1 = .ok (.iload_n 1, 1) := by decide +kernel
theorem dX12_chanceNow_2 : decode cX12_chanceNow 2 = .ok (.aload_n 0, 1) := by decide +kernel
theorem dX12_chanceNow_3 : decode cX12_chanceNow 3 = .ok (.iload_n 1, 1) := by decide +kernel
theorem dX12_chanceNow_4 : decode cX12_chanceNow 4 = .ok (.invokevirtual 287, 3) := by decide +kernel
theorem dX12_chanceNow_7 : decode cX12_chanceNow 7 = .ok (.aload_n 0, 1) := by decide +kernel
theorem dX12_chanceNow_8 : decode cX12_chanceNow 8 = .ok (.iload_n 1, 1) := by decide +kernel
theorem dX12_chanceNow_9 : decode cX12_chanceNow 9 = .ok (.invokevirtual 290, 3) := by decide +kernel
theorem dX12_chanceNow_12 : decode cX12_chanceNow 12 = .ok (.invokevirtual 293, 3) := by decide +kernel
theorem dX12_chanceNow_15 : decode cX12_chanceNow 15 = .ok (.ireturn, 1) := by decide +kernel
theorem dX12_isOver_0 : decode cX12_isOver 0 = .ok (.aload_n 0, 1) := by decide +kernel
theorem dX12_isOver_1 : decode cX12_isOver 1 = .ok (.getfield 13, 3) := by decide +kernel
theorem dX12_isOver_4 : decode cX12_isOver 4 = .ok (.iconst 4, 1) := by decide +kernel
theorem dX12_isOver_5 : decode cX12_isOver 5 = .ok (.if_icmp .eq 11, 3) := by decide +kernel
theorem dX12_isOver_8 : decode cX12_isOver 8 = .ok (.aload_n 0, 1) := by decide +kernel
theorem dX12_isOver_9 : decode cX12_isOver 9 = .ok (.getfield 16, 3) := by decide +kernel
theorem dX12_isOver_12 : decode cX12_isOver 12 = .ok (.iconst 4, 1) := by decide +kernel
theorem dX12_isOver_13 : decode cX12_isOver 13 = .ok (.if_icmp .ne 7, 3) := by decide +kernel
theorem dX12_isOver_16 : decode cX12_isOver 16 = .ok (.iconst 1, 1) := by decide +kernel
theorem dX12_isOver_17 : decode cX12_isOver 17 = .ok (.goto 4, 3) := by decide +kernel
theorem dX12_isOver_20 : decode cX12_isOver 20 = .ok (.iconst 0, 1) := by decide +kernel
theorem dX12_isOver_21 : decode cX12_isOver 21 = .ok (.ireturn, 1) := by decide +kernel
theorem dX12_areDraws_0 : decode cX12_areDraws 0 = .ok (.aload_n 0, 1) := by decide +kernel
theorem dX12_areDraws_1 : decode cX12_areDraws 1 = .ok (.iload_n 1, 1) := by decide +kernel
theorem dX12_areDraws_2 : decode cX12_areDraws 2 = .ok (.iconst 0, 1) := by decide +kernel
theorem dX12_areDraws_3 : decode cX12_areDraws 3 = .ok (.bipush 99, 2) := by decide +kernel
theorem dX12_areDraws_5 : decode cX12_areDraws 5 = .ok (.invokevirtual 203, 3) := by decide +kernel
theorem dX12_areDraws_8 : decode cX12_areDraws 8 = .ok (.ifCond .eq 18, 3) := by decide +kernel
theorem dX12_areDraws_11 : decode cX12_areDraws 11 = .ok (.aload_n 0, 1) := by decide +kernel
theorem dX12_areDraws_12 : decode cX12_areDraws 12 = .ok (.iload_n 2, 1) := by decide +kernel
theorem dX12_areDraws_13 : decode cX12_areDraws 13 = .ok (.iconst 0, 1) := by decide +kernel
theorem dX12_areDraws_14 : decode cX12_areDraws 14 = .ok (.bipush 99, 2) := by decide +kernel
theorem dX12_areDraws_16 : decode cX12_areDraws 16 = .ok (.invokevirtual 203, 3) := by decide +kernel
theorem dX12_areDraws_19 : decode cX12_areDraws 19 = .ok (.ifCond .eq 7, 3) := by decide +kernel
theorem dX12_areDraws_22 : decode cX12_areDraws 22 = .ok (.iconst 1, 1) := by decide +kernel
theorem dX12_areDraws_23 : decode cX12_areDraws 23 = .ok (.goto 4, 3) := by decide +kernel
theorem dX12_areDraws_26 : decode cX12_areDraws 26 = .ok (.iconst 0, 1) := by decide +kernel
theorem dX12_areDraws_27 : decode cX12_areDraws 27 = .ok (.ireturn, 1) := by decide +kernel
theorem dX12_goPoint_0 : decode cX12_goPoint 0 = .ok (.aload_n 0, 1) := by decide +kernel
theorem dX12_goPoint_1 : decode cX12_goPoint 1 = .ok (.iload_n 1, 1) := by decide +kernel
theorem dX12_goPoint_2 : decode cX12_goPoint 2 = .ok (.invokevirtual 287, 3) := by decide +kernel
theorem dX12_goPoint_5 : decode cX12_goPoint 5 = .ok (.istore 4, 2) := by decide +kernel
theorem dX12_goPoint_7 : decode cX12_goPoint 7 = .ok (.aload_n 0, 1) := by decide +kernel
theorem dX12_goPoint_8 : decode cX12_goPoint 8 = .ok (.iload_n 1, 1) := by decide +kernel
theorem dX12_goPoint_9 : decode cX12_goPoint 9 = .ok (.invokevirtual 290, 3) := by decide +kernel
theorem dX12_goPoint_12 : decode cX12_goPoint 12 = .ok (.istore 5, 2) := by decide +kernel
theorem dX12_goPoint_14 : decode cX12_goPoint 14 = .ok (.iload_n 2, 1) := by decide +kernel
theorem dX12_goPoint_15 : decode cX12_goPoint 15 = .ok (.aload_n 0, 1) := by decide +kernel
theorem dX12_goPoint_16 : decode cX12_goPoint 16 = .ok (.iload_n 1, 1) := by decide +kernel
theorem dX12_goPoint_17 : decode cX12_goPoint 17 = .ok (.iload 4, 2) := by decide +kernel
theorem dX12_goPoint_19 : decode cX12_goPoint 19 = .ok (.invokevirtual 280, 3) := by decide +kernel
theorem dX12_goPoint_22 : decode cX12_goPoint 22 = .ok (.if_icmp .ge 22, 3) := by decide +kernel
theorem dX12_goPoint_25 : decode cX12_goPoint 25 = .ok (.iload_n 3, 1) := by decide +kernel
theorem dX12_goPoint_26 : decode cX12_goPoint 26 = .ok (.aload_n 0, 1) := by decide +kernel
theorem dX12_goPoint_27 : decode cX12_goPoint 27 = .ok (.iload_n 1, 1) := by decide +kernel
theorem dX12_goPoint_28 : decode cX12_goPoint 28 = .ok (.iload 4, 2) := by decide +kernel
theorem dX12_goPoint_30 : decode cX12_goPoint 30 = .ok (.invokevirtual 284, 3) := by decide +kernel
theorem dX12_goPoint_33 : decode cX12_goPoint 33 = .ok (.if_icmp .ge 7, 3) := by decide +kernel
theorem dX12_goPoint_36 : decode cX12_goPoint 36 = .ok (.iconst 1, 1) := by decide +kernel
theorem dX12_goPoint_37 : decode cX12_goPoint 37 = .ok (.goto 39, 3) := by decide +kernel
theorem dX12_goPoint_40 : decode cX12_goPoint 40 = .ok (.iconst 0, 1) := by decide +kernel
theorem dX12_goPoint_41 : decode cX12_goPoint 41 = .ok (.goto 35, 3) := by decide +kernel
theorem dX12_goPoint_44 : decode cX12_goPoint 44 = .ok (.iload_n 3, 1) := by decide +kernel
theorem dX12_goPoint_45 : decode cX12_goPoint 45 = .ok (.aload_n 0, 1) := by decide +kernel
theorem dX12_goPoint_46 : decode cX12_goPoint 46 = .ok (.iload_n 1, 1) := by decide +kernel
theorem dX12_goPoint_47 : decode cX12_goPoint 47 = .ok (.iload 5, 2) := by decide +kernel
theorem dX12_goPoint_49 : decode cX12_goPoint 49 = .ok (.invokevirtual 280, 3) := by decide +kernel
theorem dX12_goPoint_52 : decode cX12_goPoint 52 = .ok (.if_icmp .ge 23, 3) := by decide +kernel
theorem dX12_goPoint_55 : decode cX12_goPoint 55 = .ok (.iload_n 2, 1) := by decide +kernel
theorem dX12_goPoint_56 : decode cX12_goPoint 56 = .ok (.iload_n 3, 1) := by decide +kernel
theorem dX12_goPoint_57 : decode cX12_goPoint 57 = .ok (.iadd, 1) := by decide +kernel
theorem dX12_goPoint_58 : decode cX12_goPoint 58 = .ok (.bipush 100, 2) := by decide +kernel
theorem dX12_goPoint_60 : decode cX12_goPoint 60 = .ok (.irem, 1) := by decide +kernel
theorem dX12_goPoint_61 : decode cX12_goPoint 61 = .ok (.aload_n 0, 1) := by decide +kernel
theorem dX12_goPoint_62 : decode cX12_goPoint 62 = .ok (.iload_n 1, 1) := by decide +kernel
theorem dX12_goPoint_63 : decode cX12_goPoint 63 = .ok (.iload 5, 2) := by decide +kernel
theorem dX12_goPoint_65 : decode cX12_goPoint 65 = .ok (.invokevirtual 284, 3) := by decide +kernel
theorem dX12_goPoint_68 : decode cX12_goPoint 68 = .ok (.if_icmp .ge 7, 3) := by decide +kernel
theorem dX12_goPoint_71 : decode cX12_goPoint 71 = .ok (.iconst 1, 1) := by decide +kernel
theorem dX12_goPoint_72 : decode cX12_goPoint 72 = .ok (.goto 4, 3) := by decide +kernel
theorem dX12_goPoint_75 : decode cX12_goPoint 75 = .ok (.iconst 0, 1) := by decide +kernel
theorem dX12_goPoint_76 : decode cX12_goPoint 76 = .ok (.istore 6, 2) := by decide +kernel
theorem dX12_goPoint_78 : decode cX12_goPoint 78 = .ok (.iload 6, 2) := by decide +kernel
theorem dX12_goPoint_80 : decode cX12_goPoint 80 = .ok (.ifCond .eq 16, 3) := by decide +kernel
theorem dX12_goPoint_83 : decode cX12_goPoint 83 = .ok (.aload_n 0, 1) := by decide +kernel
theorem dX12_goPoint_84 : decode cX12_goPoint 84 = .ok (.dup, 1) := by decide +kernel
theorem dX12_goPoint_85 : decode cX12_goPoint 85 = .ok (.getfield 13, 3) := by decide +kernel
theorem dX12_goPoint_88 : decode cX12_goPoint 88 = .ok (.iconst 1, 1) := by decide +kernel
theorem dX12_goPoint_89 : decode cX12_goPoint 89 = .ok (.iadd, 1) := by decide +kernel
theorem dX12_goPoint_90 : decode cX12_goPoint 90 = .ok (.putfield 13, 3) := by decide +kernel
theorem dX12_goPoint_93 : decode cX12_goPoint 93 = .ok (.goto 13, 3) := by decide +kernel
theorem dX12_goPoint_96 : decode cX12_goPoint 96 = .ok (.aload_n 0, 1) := by decide +kernel
theorem dX12_goPoint_97 : decode cX12_goPoint 97 = .ok (.dup, 1) := by decide +kernel
theorem dX12_goPoint_98 : decode cX12_goPoint 98 = .ok (.getfield 16, 3) := by decide +kernel
theorem dX12_goPoint_101 : decode cX12_goPoint 101 = .ok (.iconst 1, 1) := by decide +kernel
theorem dX12_goPoint_102 : decode cX12_goPoint 102 = .ok (.iadd, 1) := by decide +kernel
theorem dX12_goPoint_103 : decode cX12_goPoint 103 = .ok (.putfield 16, 3) := by decide +kernel
theorem dX12_goPoint_106 : decode cX12_goPoint 106 = .ok (.aload_n 0, 1) := by decide +kernel
theorem dX12_goPoint_107 : decode cX12_goPoint 107 = .ok (.getfield 35, 3) := by decide +kernel
theorem dX12_goPoint_110 : decode cX12_goPoint 110 = .ok (.iload_n 1, 1) := by decide +kernel
theorem dX12_goPoint_111 : decode cX12_goPoint 111 = .ok (.dup2, 1) := by decide +kernel
theorem dX12_goPoint_112 : decode cX12_goPoint 112 = .ok (.iaload, 1) := by decide +kernel
theorem dX12_goPoint_113 : decode cX12_goPoint 113 = .ok (.aload_n 0, 1) := by decide +kernel
theorem dX12_goPoint_114 : decode cX12_goPoint 114 = .ok (.getfield 35, 3) := by decide +kernel
theorem dX12_goPoint_117 : decode cX12_goPoint 117 = .ok (.iload_n 1, 1) := by decide +kernel
theorem dX12_goPoint_118 : decode cX12_goPoint 118 = .ok (.iaload, 1) := by decide +kernel
theorem dX12_goPoint_119 : decode cX12_goPoint 119 = .ok (.sipush 9999, 3) := by decide +kernel
theorem dX12_goPoint_122 : decode cX12_goPoint 122 = .ok (.if_icmp .ge 7, 3) := by decide +kernel
theorem dX12_goPoint_125 : decode cX12_goPoint 125 = .ok (.iconst 1, 1) := by decide +kernel
theorem dX12_goPoint_126 : decode cX12_goPoint 126 = .ok (.goto 4, 3) := by decide +kernel
theorem dX12_goPoint_129 : decode cX12_goPoint 129 = .ok (.iconst 0, 1) := by decide +kernel
theorem dX12_goPoint_130 : decode cX12_goPoint 130 = .ok (.iadd, 1) := by decide +kernel
theorem dX12_goPoint_131 : decode cX12_goPoint 131 = .ok (.iastore, 1) := by decide +kernel
theorem dX12_goPoint_132 : decode cX12_goPoint 132 = .ok (.iload 6, 2) := by decide +kernel
theorem dX12_goPoint_134 : decode cX12_goPoint 134 = .ok (.ireturn, 1) := by decide +kernel
theorem dX12_play_0 : decode cX12_play 0 = .ok (.aload_n 0, 1) := by decide +kernel
theorem dX12_play_1 : decode cX12_play 1 = .ok (.iload_n 1, 1) := by decide +kernel
theorem dX12_play_2 : decode cX12_play 2 = .ok (.invokevirtual 211, 3) := by decide +kernel
theorem dX12_play_5 : decode cX12_play 5 = .ok (.ifCond .ne 5, 3) := by decide +kernel
theorem dX12_play_8 : decode cX12_play 8 = .ok (.iconst (-1), 1) := by decide +kernel
theorem dX12_play_9 : decode cX12_play 9 = .ok (.ireturn, 1) := by decide +kernel
theorem dX12_play_10 : decode cX12_play 10 = .ok (.aload_n 0, 1) := by decide +kernel
theorem dX12_play_11 : decode cX12_play 11 = .ok (.iload_n 2, 1) := by decide +kernel
theorem dX12_play_12 : decode cX12_play 12 = .ok (.iload_n 3, 1) := by decide +kernel
theorem dX12_play_13 : decode cX12_play 13 = .ok (.invokevirtual 299, 3) := by decide +kernel
theorem dX12_play_16 : decode cX12_play 16 = .ok (.ifCond .ne 6, 3) := by decide +kernel
theorem dX12_play_19 : decode cX12_play 19 = .ok (.bipush (-2), 2) := by decide +kernel
theorem dX12_play_21 : decode cX12_play 21 = .ok (.ireturn, 1) := by decide +kernel
theorem dX12_play_22 : decode cX12_play 22 = .ok (.aload_n 0, 1) := by decide +kernel
theorem dX12_play_23 : decode cX12_play 23 = .ok (.invokevirtual 302, 3) := by decide +kernel
theorem dX12_play_26 : decode cX12_play 26 = .ok (.ifCond .eq 6, 3) := by decide +kernel
theorem dX12_play_29 : decode cX12_play 29 = .ok (.bipush (-3), 2) := by decide +kernel
theorem dX12_play_31 : decode cX12_play 31 = .ok (.ireturn, 1) := by decide +kernel
theorem dX12_play_32 : decode cX12_play 32 = .ok (.aload_n 0, 1) := by decide +kernel
theorem dX12_play_33 : decode cX12_play 33 = .ok (.iload_n 1, 1) := by decide +kernel
theorem dX12_play_34 : decode cX12_play 34 = .ok (.iload_n 2, 1) := by decide +kernel
theorem dX12_play_35 : decode cX12_play 35 = .ok (.iload_n 3, 1) := by decide +kernel
theorem dX12_play_36 : decode cX12_play 36 = .ok (.invokevirtual 305, 3) := by decide +kernel
theorem dX12_play_39 : decode cX12_play 39 = .ok (.ifCond .eq 7, 3) := by decide +kernel
theorem dX12_play_42 : decode cX12_play 42 = .ok (.iconst 1, 1) := by decide +kernel
theorem dX12_play_43 : decode cX12_play 43 = .ok (.goto 4, 3) := by decide +kernel
theorem dX12_play_46 : decode cX12_play 46 = .ok (.iconst 0, 1) := by decide +kernel
theorem dX12_play_47 : decode cX12_play 47 = .ok (.ireturn, 1) := by decide +kernel
theorem dX12_best_0 : decode cX12_best 0 = .ok (.aload_n 0, 1) := by decide +kernel
theorem dX12_best_1 : decode cX12_best 1 = .ok (.iload_n 1, 1) := by decide +kernel
theorem dX12_best_2 : decode cX12_best 2 = .ok (.invokevirtual 211, 3) := by decide +kernel
theorem dX12_best_5 : decode cX12_best 5 = .ok (.ifCond .eq 13, 3) := by decide +kernel
theorem dX12_best_8 : decode cX12_best 8 = .ok (.aload_n 0, 1) := by decide +kernel
theorem dX12_best_9 : decode cX12_best 9 = .ok (.iload_n 2, 1) := by decide +kernel
theorem dX12_best_10 : decode cX12_best 10 = .ok (.iconst 0, 1) := by decide +kernel
theorem dX12_best_11 : decode cX12_best 11 = .ok (.iconst 1, 1) := by decide +kernel
theorem dX12_best_12 : decode cX12_best 12 = .ok (.invokevirtual 203, 3) := by decide +kernel
theorem dX12_best_15 : decode cX12_best 15 = .ok (.ifCond .ne 5, 3) := by decide +kernel
theorem dX12_best_18 : decode cX12_best 18 = .ok (.iconst (-1), 1) := by decide +kernel
theorem dX12_best_19 : decode cX12_best 19 = .ok (.ireturn, 1) := by decide +kernel
theorem dX12_best_20 : decode cX12_best 20 = .ok (.iconst 0, 1) := by decide +kernel
theorem dX12_best_21 : decode cX12_best 21 = .ok (.istore_n 3, 1) := by decide +kernel
theorem dX12_best_22 : decode cX12_best 22 = .ok (.iconst (-1), 1) := by decide +kernel
theorem dX12_best_23 : decode cX12_best 23 = .ok (.istore 4, 2) := by decide +kernel
theorem dX12_best_25 : decode cX12_best 25 = .ok (.iconst 0, 1) := by decide +kernel
theorem dX12_best_26 : decode cX12_best 26 = .ok (.istore 5, 2) := by decide +kernel
theorem dX12_best_28 : decode cX12_best 28 = .ok (.iload 5, 2) := by decide +kernel
theorem dX12_best_30 : decode cX12_best 30 = .ok (.bipush 100, 2) := by decide +kernel
theorem dX12_best_32 : decode cX12_best 32 = .ok (.if_icmp .ge 43, 3) := by decide +kernel
theorem dX12_best_35 : decode cX12_best 35 = .ok (.aload_n 0, 1) := by decide +kernel
theorem dX12_best_36 : decode cX12_best 36 = .ok (.iload_n 1, 1) := by decide +kernel
theorem dX12_best_37 : decode cX12_best 37 = .ok (.iload 5, 2) := by decide +kernel
theorem dX12_best_39 : decode cX12_best 39 = .ok (.bipush 10, 2) := by decide +kernel
theorem dX12_best_41 : decode cX12_best 41 = .ok (.idiv, 1) := by decide +kernel
theorem dX12_best_42 : decode cX12_best 42 = .ok (.iload 5, 2) := by decide +kernel
theorem dX12_best_44 : decode cX12_best 44 = .ok (.bipush 10, 2) := by decide +kernel
theorem dX12_best_46 : decode cX12_best 46 = .ok (.irem, 1) := by decide +kernel
theorem dX12_best_47 : decode cX12_best 47 = .ok (.invokevirtual 293, 3) := by decide +kernel
theorem dX12_best_50 : decode cX12_best 50 = .ok (.istore 6, 2) := by decide +kernel
theorem dX12_best_52 : decode cX12_best 52 = .ok (.iload 6, 2) := by decide +kernel
theorem dX12_best_54 : decode cX12_best 54 = .ok (.iload 4, 2) := by decide +kernel
theorem dX12_best_56 : decode cX12_best 56 = .ok (.if_icmp .gt 6, 3) := by decide +kernel
theorem dX12_best_59 : decode cX12_best 59 = .ok (.goto 10, 3) := by decide +kernel
theorem dX12_best_62 : decode cX12_best 62 = .ok (.iload 5, 2) := by decide +kernel
theorem dX12_best_64 : decode cX12_best 64 = .ok (.istore_n 3, 1) := by decide +kernel
theorem dX12_best_65 : decode cX12_best 65 = .ok (.iload 6, 2) := by decide +kernel
theorem dX12_best_67 : decode cX12_best 67 = .ok (.istore 4, 2) := by decide +kernel
theorem dX12_best_69 : decode cX12_best 69 = .ok (.iinc 5 1, 3) := by decide +kernel
theorem dX12_best_72 : decode cX12_best 72 = .ok (.goto (-44), 3) := by decide +kernel
theorem dX12_best_75 : decode cX12_best 75 = .ok (.iload_n 2, 1) := by decide +kernel
theorem dX12_best_76 : decode cX12_best 76 = .ok (.ifCond .ne 7, 3) := by decide +kernel
theorem dX12_best_79 : decode cX12_best 79 = .ok (.iload_n 3, 1) := by decide +kernel
theorem dX12_best_80 : decode cX12_best 80 = .ok (.goto 5, 3) := by decide +kernel
theorem dX12_best_83 : decode cX12_best 83 = .ok (.iload 4, 2) := by decide +kernel
theorem dX12_best_85 : decode cX12_best 85 = .ok (.ireturn, 1) := by decide +kernel
theorem dX12_risk_0 : decode cX12_risk 0 = .ok (.aload_n 0, 1) := by decide +kernel
theorem dX12_risk_1 : decode cX12_risk 1 = .ok (.iload_n 1, 1) := by decide +kernel
theorem dX12_risk_2 : decode cX12_risk 2 = .ok (.invokevirtual 211, 3) := by decide +kernel
theorem dX12_risk_5 : decode cX12_risk 5 = .ok (.ifCond .ne 5, 3) := by decide +kernel
theorem dX12_risk_8 : decode cX12_risk 8 = .ok (.iconst (-1), 1) := by decide +kernel
theorem dX12_risk_9 : decode cX12_risk 9 = .ok (.ireturn, 1) := by decide +kernel
theorem dX12_risk_10 : decode cX12_risk 10 = .ok (.aload_n 0, 1) := by decide +kernel
theorem dX12_risk_11 : decode cX12_risk 11 = .ok (.iload_n 1, 1) := by decide +kernel
theorem dX12_risk_12 : decode cX12_risk 12 = .ok (.invokevirtual 287, 3) := by decide +kernel
theorem dX12_risk_15 : decode cX12_risk 15 = .ok (.istore_n 2, 1) := by decide +kernel
theorem dX12_risk_16 : decode cX12_risk 16 = .ok (.aload_n 0, 1) := by decide +kernel
theorem dX12_risk_17 : decode cX12_risk 17 = .ok (.iload_n 1, 1) := by decide +kernel
theorem dX12_risk_18 : decode cX12_risk 18 = .ok (.iload_n 2, 1) := by decide +kernel
theorem dX12_risk_19 : decode cX12_risk 19 = .ok (.aload_n 0, 1) := by decide +kernel
theorem dX12_risk_20 : decode cX12_risk 20 = .ok (.iload_n 1, 1) := by decide +kernel
theorem dX12_risk_21 : decode cX12_risk 21 = .ok (.invokevirtual 290, 3) := by decide +kernel
theorem dX12_risk_24 : decode cX12_risk 24 = .ok (.invokevirtual 296, 3) := by decide +kernel
theorem dX12_risk_27 : decode cX12_risk 27 = .ok (.istore_n 3, 1) := by decide +kernel
theorem dX12_risk_28 : decode cX12_risk 28 = .ok (.iconst 0, 1) := by decide +kernel
theorem dX12_risk_29 : decode cX12_risk 29 = .ok (.istore 4, 2) := by decide +kernel
theorem dX12_risk_31 : decode cX12_risk 31 = .ok (.iload 4, 2) := by decide +kernel
theorem dX12_risk_33 : decode cX12_risk 33 = .ok (.bipush 10, 2) := by decide +kernel
theorem dX12_risk_35 : decode cX12_risk 35 = .ok (.if_icmp .ge 24, 3) := by decide +kernel
theorem dX12_risk_38 : decode cX12_risk 38 = .ok (.aload_n 0, 1) := by decide +kernel
theorem dX12_risk_39 : decode cX12_risk 39 = .ok (.iload_n 1, 1) := by decide +kernel
theorem dX12_risk_40 : decode cX12_risk 40 = .ok (.iload_n 2, 1) := by decide +kernel
theorem dX12_risk_41 : decode cX12_risk 41 = .ok (.iload 4, 2) := by decide +kernel
theorem dX12_risk_43 : decode cX12_risk 43 = .ok (.invokevirtual 296, 3) := by decide +kernel
theorem dX12_risk_46 : decode cX12_risk 46 = .ok (.iload_n 3, 1) := by decide +kernel
theorem dX12_risk_47 : decode cX12_risk 47 = .ok (.if_icmp .le 6, 3) := by decide +kernel
theorem dX12_risk_50 : decode cX12_risk 50 = .ok (.iload 4, 2) := by decide +kernel
theorem dX12_risk_52 : decode cX12_risk 52 = .ok (.ireturn, 1) := by decide +kernel
theorem dX12_risk_53 : decode cX12_risk 53 = .ok (.iinc 4 1, 3) := by decide +kernel
theorem dX12_risk_56 : decode cX12_risk 56 = .ok (.goto (-25), 3) := by decide +kernel
theorem dX12_risk_59 : decode cX12_risk 59 = .ok (.bipush (-5), 2) := by decide +kernel
theorem dX12_risk_61 : decode cX12_risk 61 = .ok (.ireturn, 1) := by decide +kernel
theorem dX12_dare_0 : decode cX12_dare 0 = .ok (.aload_n 0, 1) := by decide +kernel
theorem dX12_dare_1 : decode cX12_dare 1 = .ok (.iload_n 1, 1) := by decide +kernel
theorem dX12_dare_2 : decode cX12_dare 2 = .ok (.invokevirtual 211, 3) := by decide +kernel
theorem dX12_dare_5 : decode cX12_dare 5 = .ok (.ifCond .ne 7, 3) := by decide +kernel
theorem dX12_dare_8 : decode cX12_dare 8 = .ok (.ldc_w 308, 3) := by decide +kernel
theorem dX12_dare_11 : decode cX12_dare 11 = .ok (.ireturn, 1) := by decide +kernel
theorem dX12_dare_12 : decode cX12_dare 12 = .ok (.aload_n 0, 1) := by decide +kernel
theorem dX12_dare_13 : decode cX12_dare 13 = .ok (.iload_n 1, 1) := by decide +kernel
theorem dX12_dare_14 : decode cX12_dare 14 = .ok (.invokevirtual 287, 3) := by decide +kernel
theorem dX12_dare_17 : decode cX12_dare 17 = .ok (.istore_n 2, 1) := by decide +kernel
theorem dX12_dare_18 : decode cX12_dare 18 = .ok (.aload_n 0, 1) := by decide +kernel
theorem dX12_dare_19 : decode cX12_dare 19 = .ok (.iload_n 1, 1) := by decide +kernel
theorem dX12_dare_20 : decode cX12_dare 20 = .ok (.iload_n 2, 1) := by decide +kernel
theorem dX12_dare_21 : decode cX12_dare 21 = .ok (.iload_n 2, 1) := by decide +kernel
theorem dX12_dare_22 : decode cX12_dare 22 = .ok (.invokevirtual 293, 3) := by decide +kernel
theorem dX12_dare_25 : decode cX12_dare 25 = .ok (.aload_n 0, 1) := by decide +kernel
theorem dX12_dare_26 : decode cX12_dare 26 = .ok (.iload_n 1, 1) := by decide +kernel
theorem dX12_dare_27 : decode cX12_dare 27 = .ok (.invokevirtual 309, 3) := by decide +kernel
theorem dX12_dare_30 : decode cX12_dare 30 = .ok (.isub, 1) := by decide +kernel
theorem dX12_dare_31 : decode cX12_dare 31 = .ok (.ireturn, 1) := by decide +kernel
theorem dX12_more_0 : decode cX12_more 0 = .ok (.aload_n 0, 1) := by decide +kernel
theorem dX12_more_1 : decode cX12_more 1 = .ok (.iload_n 1, 1) := by decide +kernel
theorem dX12_more_2 : decode cX12_more 2 = .ok (.invokevirtual 211, 3) := by decide +kernel
theorem dX12_more_5 : decode cX12_more 5 = .ok (.ifCond .eq 13, 3) := by decide +kernel
theorem dX12_more_8 : decode cX12_more 8 = .ok (.aload_n 0, 1) := by decide +kernel
theorem dX12_more_9 : decode cX12_more 9 = .ok (.iload_n 2, 1) := by decide +kernel
theorem dX12_more_10 : decode cX12_more 10 = .ok (.iconst 0, 1) := by decide +kernel
theorem dX12_more_11 : decode cX12_more 11 = .ok (.iconst 1, 1) := by decide +kernel
theorem dX12_more_12 : decode cX12_more 12 = .ok (.invokevirtual 203, 3) := by decide +kernel
theorem dX12_more_15 : decode cX12_more 15 = .ok (.ifCond .ne 7, 3) := by decide +kernel
theorem dX12_more_18 : decode cX12_more 18 = .ok (.ldc_w 308, 3) := by decide +kernel
theorem dX12_more_21 : decode cX12_more 21 = .ok (.ireturn, 1) := by decide +kernel
theorem dX12_more_22 : decode cX12_more 22 = .ok (.aload_n 0, 1) := by decide +kernel
theorem dX12_more_23 : decode cX12_more 23 = .ok (.iload_n 1, 1) := by decide +kernel
theorem dX12_more_24 : decode cX12_more 24 = .ok (.invokevirtual 309, 3) := by decide +kernel
theorem dX12_more_27 : decode cX12_more 27 = .ok (.istore_n 3, 1) := by decide +kernel
theorem dX12_more_28 : decode cX12_more 28 = .ok (.aload_n 0, 1) := by decide +kernel
theorem dX12_more_29 : decode cX12_more 29 = .ok (.getfield 29, 3) := by decide +kernel
theorem dX12_more_32 : decode cX12_more 32 = .ok (.iload_n 1, 1) := by decide +kernel
theorem dX12_more_33 : decode cX12_more 33 = .ok (.iaload, 1) := by decide +kernel
theorem dX12_more_34 : decode cX12_more 34 = .ok (.istore 4, 2) := by decide +kernel
theorem dX12_more_36 : decode cX12_more 36 = .ok (.aload_n 0, 1) := by decide +kernel
theorem dX12_more_37 : decode cX12_more 37 = .ok (.getfield 32, 3) := by decide +kernel
theorem dX12_more_40 : decode cX12_more 40 = .ok (.iload_n 1, 1) := by decide +kernel
theorem dX12_more_41 : decode cX12_more 41 = .ok (.iaload, 1) := by decide +kernel
theorem dX12_more_42 : decode cX12_more 42 = .ok (.istore 5, 2) := by decide +kernel
theorem dX12_more_44 : decode cX12_more 44 = .ok (.aload_n 0, 1) := by decide +kernel
theorem dX12_more_45 : decode cX12_more 45 = .ok (.getfield 35, 3) := by decide +kernel
theorem dX12_more_48 : decode cX12_more 48 = .ok (.iload_n 1, 1) := by decide +kernel
theorem dX12_more_49 : decode cX12_more 49 = .ok (.iaload, 1) := by decide +kernel
theorem dX12_more_50 : decode cX12_more 50 = .ok (.istore 6, 2) := by decide +kernel
theorem dX12_more_52 : decode cX12_more 52 = .ok (.iload_n 2, 1) := by decide +kernel
theorem dX12_more_53 : decode cX12_more 53 = .ok (.ifCond .ne 50, 3) := by decide +kernel
theorem dX12_more_56 : decode cX12_more 56 = .ok (.aload_n 0, 1) := by decide +kernel
theorem dX12_more_57 : decode cX12_more 57 = .ok (.getfield 29, 3) := by decide +kernel
theorem dX12_more_60 : decode cX12_more 60 = .ok (.iload_n 1, 1) := by decide +kernel
theorem dX12_more_61 : decode cX12_more 61 = .ok (.iload 4, 2) := by decide +kernel
theorem dX12_more_63 : decode cX12_more 63 = .ok (.bipush 9, 2) := by decide +kernel
theorem dX12_more_65 : decode cX12_more 65 = .ok (.if_icmp .ge 10, 3) := by decide +kernel
theorem dX12_more_68 : decode cX12_more 68 = .ok (.iload 4, 2) := by decide +kernel
theorem dX12_more_70 : decode cX12_more 70 = .ok (.iconst 1, 1) := by decide +kernel
theorem dX12_more_71 : decode cX12_more 71 = .ok (.iadd, 1) := by decide +kernel
theorem dX12_more_72 : decode cX12_more 72 = .ok (.goto 5, 3) := by decide +kernel
theorem dX12_more_75 : decode cX12_more 75 = .ok (.bipush 9, 2) := by decide +kernel
theorem dX12_more_77 : decode cX12_more 77 = .ok (.iastore, 1) := by decide +kernel
theorem dX12_more_78 : decode cX12_more 78 = .ok (.aload_n 0, 1) := by decide +kernel
theorem dX12_more_79 : decode cX12_more 79 = .ok (.getfield 32, 3) := by decide +kernel
theorem dX12_more_82 : decode cX12_more 82 = .ok (.iload_n 1, 1) := by decide +kernel
theorem dX12_more_83 : decode cX12_more 83 = .ok (.iload 5, 2) := by decide +kernel
theorem dX12_more_85 : decode cX12_more 85 = .ok (.bipush 9, 2) := by decide +kernel
theorem dX12_more_87 : decode cX12_more 87 = .ok (.if_icmp .ge 10, 3) := by decide +kernel
theorem dX12_more_90 : decode cX12_more 90 = .ok (.iload 5, 2) := by decide +kernel
theorem dX12_more_92 : decode cX12_more 92 = .ok (.iconst 1, 1) := by decide +kernel
theorem dX12_more_93 : decode cX12_more 93 = .ok (.iadd, 1) := by decide +kernel
theorem dX12_more_94 : decode cX12_more 94 = .ok (.goto 5, 3) := by decide +kernel
theorem dX12_more_97 : decode cX12_more 97 = .ok (.bipush 9, 2) := by decide +kernel
theorem dX12_more_99 : decode cX12_more 99 = .ok (.iastore, 1) := by decide +kernel
theorem dX12_more_100 : decode cX12_more 100 = .ok (.goto 10, 3) := by decide +kernel
theorem dX12_more_103 : decode cX12_more 103 = .ok (.aload_n 0, 1) := by decide +kernel
theorem dX12_more_104 : decode cX12_more 104 = .ok (.getfield 35, 3) := by decide +kernel
theorem dX12_more_107 : decode cX12_more 107 = .ok (.iload_n 1, 1) := by decide +kernel
theorem dX12_more_108 : decode cX12_more 108 = .ok (.iconst 0, 1) := by decide +kernel
theorem dX12_more_109 : decode cX12_more 109 = .ok (.iastore, 1) := by decide +kernel
theorem dX12_more_110 : decode cX12_more 110 = .ok (.aload_n 0, 1) := by decide +kernel
theorem dX12_more_111 : decode cX12_more 111 = .ok (.iload_n 1, 1) := by decide +kernel
theorem dX12_more_112 : decode cX12_more 112 = .ok (.invokevirtual 309, 3) := by decide +kernel
theorem dX12_more_115 : decode cX12_more 115 = .ok (.istore 7, 2) := by decide +kernel
theorem dX12_more_117 : decode cX12_more 117 = .ok (.aload_n 0, 1) := by decide +kernel
theorem dX12_more_118 : decode cX12_more 118 = .ok (.getfield 29, 3) := by decide +kernel
theorem dX12_more_121 : decode cX12_more 121 = .ok (.iload_n 1, 1) := by decide +kernel
theorem dX12_more_122 : decode cX12_more 122 = .ok (.iload 4, 2) := by decide +kernel
theorem dX12_more_124 : decode cX12_more 124 = .ok (.iastore, 1) := by decide +kernel
theorem dX12_more_125 : decode cX12_more 125 = .ok (.aload_n 0, 1) := by decide +kernel
theorem dX12_more_126 : decode cX12_more 126 = .ok (.getfield 32, 3) := by decide +kernel
theorem dX12_more_129 : decode cX12_more 129 = .ok (.iload_n 1, 1) := by decide +kernel
theorem dX12_more_130 : decode cX12_more 130 = .ok (.iload 5, 2) := by decide +kernel
theorem dX12_more_132 : decode cX12_more 132 = .ok (.iastore, 1) := by decide +kernel
theorem dX12_more_133 : decode cX12_more 133 = .ok (.aload_n 0, 1) := by decide +kernel
theorem dX12_more_134 : decode cX12_more 134 = .ok (.getfield 35, 3) := by decide +kernel
theorem dX12_more_137 : decode cX12_more 137 = .ok (.iload_n 1, 1) := by decide +kernel
theorem dX12_more_138 : decode cX12_more 138 = .ok (.iload 6, 2) := by decide +kernel
theorem dX12_more_140 : decode cX12_more 140 = .ok (.iastore, 1) := by decide +kernel
theorem dX12_more_141 : decode cX12_more 141 = .ok (.iload 7, 2) := by decide +kernel
theorem dX12_more_143 : decode cX12_more 143 = .ok (.iload_n 3, 1) := by decide +kernel
theorem dX12_more_144 : decode cX12_more 144 = .ok (.isub, 1) := by decide +kernel
theorem dX12_more_145 : decode cX12_more 145 = .ok (.ireturn, 1) := by decide +kernel
theorem dX12_safe_0 : decode cX12_safe 0 = .ok (.aload_n 0, 1) := by decide +kernel
theorem dX12_safe_1 : decode cX12_safe 1 = .ok (.iload_n 1, 1) := by decide +kernel
theorem dX12_safe_2 : decode cX12_safe 2 = .ok (.invokevirtual 211, 3) := by decide +kernel
theorem dX12_safe_5 : decode cX12_safe 5 = .ok (.ifCond .ne 5, 3) := by decide +kernel
theorem dX12_safe_8 : decode cX12_safe 8 = .ok (.iconst (-1), 1) := by decide +kernel
theorem dX12_safe_9 : decode cX12_safe 9 = .ok (.ireturn, 1) := by decide +kernel
theorem dX12_safe_10 : decode cX12_safe 10 = .ok (.aload_n 0, 1) := by decide +kernel
theorem dX12_safe_11 : decode cX12_safe 11 = .ok (.iload_n 2, 1) := by decide +kernel
theorem dX12_safe_12 : decode cX12_safe 12 = .ok (.iconst 0, 1) := by decide +kernel
theorem dX12_safe_13 : decode cX12_safe 13 = .ok (.bipush 100, 2) := by decide +kernel
theorem dX12_safe_15 : decode cX12_safe 15 = .ok (.invokevirtual 203, 3) := by decide +kernel
theorem dX12_safe_18 : decode cX12_safe 18 = .ok (.ifCond .ne 6, 3) := by decide +kernel
theorem dX12_safe_21 : decode cX12_safe 21 = .ok (.bipush (-2), 2) := by decide +kernel
theorem dX12_safe_23 : decode cX12_safe 23 = .ok (.ireturn, 1) := by decide +kernel
theorem dX12_safe_24 : decode cX12_safe 24 = .ok (.bipush 9, 2) := by decide +kernel
theorem dX12_safe_26 : decode cX12_safe 26 = .ok (.istore_n 3, 1) := by decide +kernel
theorem dX12_safe_27 : decode cX12_safe 27 = .ok (.iload_n 3, 1) := by decide +kernel
theorem dX12_safe_28 : decode cX12_safe 28 = .ok (.ifCond .lt 21, 3) := by decide +kernel
theorem dX12_safe_31 : decode cX12_safe 31 = .ok (.aload_n 0, 1) := by decide +kernel
theorem dX12_safe_32 : decode cX12_safe 32 = .ok (.iload_n 1, 1) := by decide +kernel
theorem dX12_safe_33 : decode cX12_safe 33 = .ok (.iload_n 3, 1) := by decide +kernel
theorem dX12_safe_34 : decode cX12_safe 34 = .ok (.invokevirtual 280, 3) := by decide +kernel
theorem dX12_safe_37 : decode cX12_safe 37 = .ok (.iload_n 2, 1) := by decide +kernel
theorem dX12_safe_38 : decode cX12_safe 38 = .ok (.if_icmp .lt 5, 3) := by decide +kernel
theorem dX12_safe_41 : decode cX12_safe 41 = .ok (.iload_n 3, 1) := by decide +kernel
theorem dX12_safe_42 : decode cX12_safe 42 = .ok (.ireturn, 1) := by decide +kernel
theorem dX12_safe_43 : decode cX12_safe 43 = .ok (.iinc 3 (-1), 3) := by decide +kernel
theorem dX12_safe_46 : decode cX12_safe 46 = .ok (.goto (-19), 3) := by decide +kernel
theorem dX12_safe_49 : decode cX12_safe 49 = .ok (.bipush (-5), 2) := by decide +kernel
theorem dX12_safe_51 : decode cX12_safe 51 = .ok (.ireturn, 1) := by decide +kernel
theorem dX12_stand_0 : decode cX12_stand 0 = .ok (.aload_n 0, 1) := by decide +kernel
theorem dX12_stand_1 : decode cX12_stand 1 = .ok (.iload_n 1, 1) := by decide +kernel
theorem dX12_stand_2 : decode cX12_stand 2 = .ok (.invokevirtual 211, 3) := by decide +kernel
theorem dX12_stand_5 : decode cX12_stand 5 = .ok (.ifCond .eq 13, 3) := by decide +kernel
theorem dX12_stand_8 : decode cX12_stand 8 = .ok (.aload_n 0, 1) := by decide +kernel
theorem dX12_stand_9 : decode cX12_stand 9 = .ok (.iload_n 2, 1) := by decide +kernel
theorem dX12_stand_10 : decode cX12_stand 10 = .ok (.iconst 0, 1) := by decide +kernel
theorem dX12_stand_11 : decode cX12_stand 11 = .ok (.iconst 1, 1) := by decide +kernel
theorem dX12_stand_12 : decode cX12_stand 12 = .ok (.invokevirtual 203, 3) := by decide +kernel
theorem dX12_stand_15 : decode cX12_stand 15 = .ok (.ifCond .ne 5, 3) := by decide +kernel
theorem dX12_stand_18 : decode cX12_stand 18 = .ok (.iconst (-1), 1) := by decide +kernel
theorem dX12_stand_19 : decode cX12_stand 19 = .ok (.ireturn, 1) := by decide +kernel
theorem dX12_stand_20 : decode cX12_stand 20 = .ok (.aload_n 0, 1) := by decide +kernel
theorem dX12_stand_21 : decode cX12_stand 21 = .ok (.getfield 19, 3) := by decide +kernel
theorem dX12_stand_24 : decode cX12_stand 24 = .ok (.istore_n 3, 1) := by decide +kernel
theorem dX12_stand_25 : decode cX12_stand 25 = .ok (.iconst 0, 1) := by decide +kernel
theorem dX12_stand_26 : decode cX12_stand 26 = .ok (.istore 4, 2) := by decide +kernel
theorem dX12_stand_28 : decode cX12_stand 28 = .ok (.ldc_w 312, 3) := by decide +kernel
theorem dX12_stand_31 : decode cX12_stand 31 = .ok (.istore 5, 2) := by decide +kernel
theorem dX12_stand_33 : decode cX12_stand 33 = .ok (.iconst 0, 1) := by decide +kernel
theorem dX12_stand_34 : decode cX12_stand 34 = .ok (.istore 6, 2) := by decide +kernel
theorem dX12_stand_36 : decode cX12_stand 36 = .ok (.iload 6, 2) := by decide +kernel
theorem dX12_stand_38 : decode cX12_stand 38 = .ok (.iconst 3, 1) := by decide +kernel
theorem dX12_stand_39 : decode cX12_stand 39 = .ok (.if_icmp .ge 40, 3) := by decide +kernel
theorem dX12_stand_42 : decode cX12_stand 42 = .ok (.aload_n 0, 1) := by decide +kernel
theorem dX12_stand_43 : decode cX12_stand 43 = .ok (.iload 6, 2) := by decide +kernel
theorem dX12_stand_45 : decode cX12_stand 45 = .ok (.putfield 19, 3) := by decide +kernel
theorem dX12_stand_48 : decode cX12_stand 48 = .ok (.aload_n 0, 1) := by decide +kernel
theorem dX12_stand_49 : decode cX12_stand 49 = .ok (.iload_n 1, 1) := by decide +kernel
theorem dX12_stand_50 : decode cX12_stand 50 = .ok (.invokevirtual 309, 3) := by decide +kernel
theorem dX12_stand_53 : decode cX12_stand 53 = .ok (.istore 7, 2) := by decide +kernel
theorem dX12_stand_55 : decode cX12_stand 55 = .ok (.iload 7, 2) := by decide +kernel
theorem dX12_stand_57 : decode cX12_stand 57 = .ok (.iload 5, 2) := by decide +kernel
theorem dX12_stand_59 : decode cX12_stand 59 = .ok (.if_icmp .lt 6, 3) := by decide +kernel
theorem dX12_stand_62 : decode cX12_stand 62 = .ok (.goto 11, 3) := by decide +kernel
theorem dX12_stand_65 : decode cX12_stand 65 = .ok (.iload 6, 2) := by decide +kernel
theorem dX12_stand_67 : decode cX12_stand 67 = .ok (.istore 4, 2) := by decide +kernel
theorem dX12_stand_69 : decode cX12_stand 69 = .ok (.iload 7, 2) := by decide +kernel
theorem dX12_stand_71 : decode cX12_stand 71 = .ok (.istore 5, 2) := by decide +kernel
theorem dX12_stand_73 : decode cX12_stand 73 = .ok (.iinc 6 1, 3) := by decide +kernel
theorem dX12_stand_76 : decode cX12_stand 76 = .ok (.goto (-40), 3) := by decide +kernel
theorem dX12_stand_79 : decode cX12_stand 79 = .ok (.aload_n 0, 1) := by decide +kernel
theorem dX12_stand_80 : decode cX12_stand 80 = .ok (.iload_n 3, 1) := by decide +kernel
theorem dX12_stand_81 : decode cX12_stand 81 = .ok (.putfield 19, 3) := by decide +kernel
theorem dX12_stand_84 : decode cX12_stand 84 = .ok (.iload_n 2, 1) := by decide +kernel
theorem dX12_stand_85 : decode cX12_stand 85 = .ok (.ifCond .ne 8, 3) := by decide +kernel
theorem dX12_stand_88 : decode cX12_stand 88 = .ok (.iload 4, 2) := by decide +kernel
theorem dX12_stand_90 : decode cX12_stand 90 = .ok (.goto 5, 3) := by decide +kernel
theorem dX12_stand_93 : decode cX12_stand 93 = .ok (.iload 5, 2) := by decide +kernel
theorem dX12_stand_95 : decode cX12_stand 95 = .ok (.ireturn, 1) := by decide +kernel
theorem dX12_layGames_0 : decode cX12_layGames 0 = .ok (.aload_n 0, 1) := by decide +kernel
theorem dX12_layGames_1 : decode cX12_layGames 1 = .ok (.getfield 13, 3) := by decide +kernel
theorem dX12_layGames_4 : decode cX12_layGames 4 = .ok (.istore_n 2, 1) := by decide +kernel
theorem dX12_layGames_5 : decode cX12_layGames 5 = .ok (.aload_n 0, 1) := by decide +kernel
theorem dX12_layGames_6 : decode cX12_layGames 6 = .ok (.getfield 16, 3) := by decide +kernel
theorem dX12_layGames_9 : decode cX12_layGames 9 = .ok (.istore_n 3, 1) := by decide +kernel
theorem dX12_layGames_10 : decode cX12_layGames 10 = .ok (.iconst 4, 1) := by decide +kernel
theorem dX12_layGames_11 : decode cX12_layGames 11 = .ok (.istore 4, 2) := by decide +kernel
theorem dX12_layGames_13 : decode cX12_layGames 13 = .ok (.iload 4, 2) := by decide +kernel
theorem dX12_layGames_15 : decode cX12_layGames 15 = .ok (.ifCond .lt 141, 3) := by decide +kernel
theorem dX12_layGames_18 : decode cX12_layGames 18 = .ok (.iconst 4, 1) := by decide +kernel
theorem dX12_layGames_19 : decode cX12_layGames 19 = .ok (.istore 5, 2) := by decide +kernel
theorem dX12_layGames_21 : decode cX12_layGames 21 = .ok (.iload 5, 2) := by decide +kernel
theorem dX12_layGames_23 : decode cX12_layGames 23 = .ok (.ifCond .lt 127, 3) := by decide +kernel
theorem dX12_layGames_26 : decode cX12_layGames 26 = .ok (.iload 4, 2) := by decide +kernel
theorem dX12_layGames_28 : decode cX12_layGames 28 = .ok (.iconst 4, 1) := by decide +kernel
theorem dX12_layGames_29 : decode cX12_layGames 29 = .ok (.if_icmp .eq 9, 3) := by decide +kernel
theorem dX12_layGames_32 : decode cX12_layGames 32 = .ok (.iload 5, 2) := by decide +kernel
theorem dX12_layGames_34 : decode cX12_layGames 34 = .ok (.iconst 4, 1) := by decide +kernel
theorem dX12_layGames_35 : decode cX12_layGames 35 = .ok (.if_icmp .ne 31, 3) := by decide +kernel
theorem dX12_layGames_38 : decode cX12_layGames 38 = .ok (.aload_n 0, 1) := by decide +kernel
theorem dX12_layGames_39 : decode cX12_layGames 39 = .ok (.getfield 96, 3) := by decide +kernel
theorem dX12_layGames_42 : decode cX12_layGames 42 = .ok (.iconst 5, 1) := by decide +kernel
theorem dX12_layGames_43 : decode cX12_layGames 43 = .ok (.iload 4, 2) := by decide +kernel
theorem dX12_layGames_45 : decode cX12_layGames 45 = .ok (.imul, 1) := by decide +kernel
theorem dX12_layGames_46 : decode cX12_layGames 46 = .ok (.iload 5, 2) := by decide +kernel
theorem dX12_layGames_48 : decode cX12_layGames 48 = .ok (.iadd, 1) := by decide +kernel
theorem dX12_layGames_49 : decode cX12_layGames 49 = .ok (.iload 4, 2) := by decide +kernel
theorem dX12_layGames_51 : decode cX12_layGames 51 = .ok (.iconst 4, 1) := by decide +kernel
theorem dX12_layGames_52 : decode cX12_layGames 52 = .ok (.if_icmp .ne 9, 3) := by decide +kernel
theorem dX12_layGames_55 : decode cX12_layGames 55 = .ok (.ldc_w 313, 3) := by decide +kernel
theorem dX12_layGames_58 : decode cX12_layGames 58 = .ok (.goto 4, 3) := by decide +kernel
theorem dX12_layGames_61 : decode cX12_layGames 61 = .ok (.iconst 0, 1) := by decide +kernel
theorem dX12_layGames_62 : decode cX12_layGames 62 = .ok (.iastore, 1) := by decide +kernel
theorem dX12_layGames_63 : decode cX12_layGames 63 = .ok (.goto 81, 3) := by decide +kernel
theorem dX12_layGames_66 : decode cX12_layGames 66 = .ok (.aload_n 0, 1) := by decide +kernel
theorem dX12_layGames_67 : decode cX12_layGames 67 = .ok (.iload 4, 2) := by decide +kernel
theorem dX12_layGames_69 : decode cX12_layGames 69 = .ok (.putfield 13, 3) := by decide +kernel
theorem dX12_layGames_72 : decode cX12_layGames 72 = .ok (.aload_n 0, 1) := by decide +kernel
theorem dX12_layGames_73 : decode cX12_layGames 73 = .ok (.iload 5, 2) := by decide +kernel
theorem dX12_layGames_75 : decode cX12_layGames 75 = .ok (.putfield 16, 3) := by decide +kernel
theorem dX12_layGames_78 : decode cX12_layGames 78 = .ok (.aload_n 0, 1) := by decide +kernel
