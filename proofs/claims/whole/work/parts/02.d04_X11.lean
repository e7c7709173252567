theorem dX11_init_0 : decode cX11_init 0 = .ok (.aload_n 0, 1) := by decide +kernel
theorem dX11_init_1 : decode cX11_init 1 = .ok (.invokespecial 3, 3) := by decide +kernel
theorem dX11_init_4 : decode cX11_init 4 = .ok (.aload_n 0, 1) := by decide +kernel
theorem dX11_init_5 : decode cX11_init 5 = .ok (.new 9, 3) := by decide +kernel
theorem dX11_init_8 : decode cX11_init 8 = .ok (.dup, 1) := by decide +kernel
theorem dX11_init_9 : decode cX11_init 9 = .ok (.invokespecial 11, 3) := by decide +kernel
theorem dX11_init_12 : decode cX11_init 12 = .ok (.putfield 12, 3) := by decide +kernel
theorem dX11_init_15 : decode cX11_init 15 = .ok (.aload_n 0, 1) := by decide +kernel
theorem dX11_init_16 : decode cX11_init 16 = .ok (.new 9, 3) := by decide +kernel
theorem dX11_init_19 : decode cX11_init 19 = .ok (.dup, 1) := by decide +kernel
theorem dX11_init_20 : decode cX11_init 20 = .ok (.invokespecial 11, 3) := by decide +kernel
theorem dX11_init_23 : decode cX11_init 23 = .ok (.putfield 18, 3) := by decide +kernel
theorem dX11_init_26 : decode cX11_init 26 = .ok (.aload_n 0, 1) := by decide +kernel
theorem dX11_init_27 : decode cX11_init 27 = .ok (.new 9, 3) := by decide +kernel
theorem dX11_init_30 : decode cX11_init 30 = .ok (.dup, 1) := by decide +kernel
theorem dX11_init_31 : decode cX11_init 31 = .ok (.invokespecial 11, 3) := by decide +kernel
theorem dX11_init_34 : decode cX11_init 34 = .ok (.putfield 21, 3) := by decide +kernel
theorem dX11_init_37 : decode cX11_init 37 = .ok (.aload_n 0, 1) := by decide +kernel
theorem dX11_init_38 : decode cX11_init 38 = .ok (.new 24, 3) := by decide +kernel
theorem dX11_init_41 : decode cX11_init 41 = .ok (.dup, 1) := by decide +kernel
theorem dX11_init_42 : decode cX11_init 42 = .ok (.invokespecial 26, 3) := by decide +kernel
theorem dX11_init_45 : decode cX11_init 45 = .ok (.putfield 27, 3) := by decide +kernel
theorem dX11_init_48 : decode cX11_init 48 = .ok (.aload_n 0, 1) := by decide +kernel
theorem dX11_init_49 : decode cX11_init 49 = .ok (.bipush 6, 2) := by decide +kernel
theorem dX11_init_51 : decode cX11_init 51 = .ok (.anewarray 31, 3) := by decide +kernel
theorem dX11_init_54 : decode cX11_init 54 = .ok (.putfield 33, 3) := by decide +kernel
theorem dX11_init_57 : decode cX11_init 57 = .ok (.aload_n 0, 1) := by decide +kernel
theorem dX11_init_58 : decode cX11_init 58 = .ok (.bipush 6, 2) := by decide +kernel
theorem dX11_init_60 : decode cX11_init 60 = .ok (.anewarray 37, 3) := by decide +kernel
theorem dX11_init_63 : decode cX11_init 63 = .ok (.putfield 39, 3) := by decide +kernel
theorem dX11_init_66 : decode cX11_init 66 = .ok (.aload_n 0, 1) := by decide +kernel
theorem dX11_init_67 : decode cX11_init 67 = .ok (.new 43, 3) := by decide +kernel
theorem dX11_init_70 : decode cX11_init 70 = .ok (.dup, 1) := by decide +kernel
theorem dX11_init_71 : decode cX11_init 71 = .ok (.invokespecial 45, 3) := by decide +kernel
theorem dX11_init_74 : decode cX11_init 74 = .ok (.putfield 46, 3) := by decide +kernel
theorem dX11_init_77 : decode cX11_init 77 = .ok (.aload_n 0, 1) := by decide +kernel
theorem dX11_init_78 : decode cX11_init 78 = .ok (.bipush 10, 2) := by decide +kernel
theorem dX11_init_80 : decode cX11_init 80 = .ok (.newarray .int, 2) := by decide +kernel
theorem dX11_init_82 : decode cX11_init 82 = .ok (.putfield 50, 3) := by decide +kernel
theorem dX11_init_85 : decode cX11_init 85 = .ok (.aload_n 0, 1) := by decide +kernel
theorem dX11_init_86 : decode cX11_init 86 = .ok (.bipush 10, 2) := by decide +kernel
theorem dX11_init_88 : decode cX11_init 88 = .ok (.newarray .int, 2) := by decide +kernel
theorem dX11_init_90 : decode cX11_init 90 = .ok (.putfield 54, 3) := by decide +kernel
theorem dX11_init_93 : decode cX11_init 93 = .ok (.aload_n 0, 1) := by decide +kernel
theorem dX11_init_94 : decode cX11_init 94 = .ok (.iconst 5, 1) := by decide +kernel
theorem dX11_init_95 : decode cX11_init 95 = .ok (.iconst 5, 1) := by decide +kernel
theorem dX11_init_96 : decode cX11_init 96 = .ok (.multianewarray 57 2, 4) := by decide +kernel
theorem dX11_init_100 : decode cX11_init 100 = .ok (.putfield 59, 3) := by decide +kernel
theorem dX11_init_103 : decode cX11_init 103 = .ok (.aload_n 0, 1) := by decide +kernel
theorem dX11_init_104 : decode cX11_init 104 = .ok (.iconst 5, 1) := by decide +kernel
theorem dX11_init_105 : decode cX11_init 105 = .ok (.iconst 5, 1) := by decide +kernel
theorem dX11_init_106 : decode cX11_init 106 = .ok (.multianewarray 57 2, 4) := by decide +kernel
theorem dX11_init_110 : decode cX11_init 110 = .ok (.putfield 62, 3) := by decide +kernel
theorem dX11_init_113 : decode cX11_init 113 = .ok (.iconst 0, 1) := by decide +kernel
theorem dX11_init_114 : decode cX11_init 114 = .ok (.istore_n 1, 1) := by decide +kernel
theorem dX11_init_115 : decode cX11_init 115 = .ok (.iload_n 1, 1) := by decide +kernel
theorem dX11_init_116 : decode cX11_init 116 = .ok (.bipush 6, 2) := by decide +kernel
theorem dX11_init_118 : decode cX11_init 118 = .ok (.if_icmp .ge 22, 3) := by decide +kernel
theorem dX11_init_121 : decode cX11_init 121 = .ok (.aload_n 0, 1) := by decide +kernel
theorem dX11_init_122 : decode cX11_init 122 = .ok (.getfield 33, 3) := by decide +kernel
theorem dX11_init_125 : decode cX11_init 125 = .ok (.iload_n 1, 1) := by decide +kernel
theorem dX11_init_126 : decode cX11_init 126 = .ok (.new 31, 3) := by decide +kernel
theorem dX11_init_129 : decode cX11_init 129 = .ok (.dup, 1) := by decide +kernel
theorem dX11_init_130 : decode cX11_init 130 = .ok (.invokespecial 65, 3) := by decide +kernel
theorem dX11_init_133 : decode cX11_init 133 = .ok (.aastore, 1) := by decide +kernel
theorem dX11_init_134 : decode cX11_init 134 = .ok (.iinc 1 1, 3) := by decide +kernel
theorem dX11_init_137 : decode cX11_init 137 = .ok (.goto (-22), 3) := by decide +kernel
theorem dX11_init_140 : decode cX11_init 140 = .ok (.iconst 0, 1) := by decide +kernel
theorem dX11_init_141 : decode cX11_init 141 = .ok (.istore_n 1, 1) := by decide +kernel
theorem dX11_init_142 : decode cX11_init 142 = .ok (.iload_n 1, 1) := by decide +kernel
theorem dX11_init_143 : decode cX11_init 143 = .ok (.bipush 6, 2) := by decide +kernel
theorem dX11_init_145 : decode cX11_init 145 = .ok (.if_icmp .ge 22, 3) := by decide +kernel
theorem dX11_init_148 : decode cX11_init 148 = .ok (.aload_n 0, 1) := by decide +kernel
theorem dX11_init_149 : decode cX11_init 149 = .ok (.getfield 39, 3) := by decide +kernel
theorem dX11_init_152 : decode cX11_init 152 = .ok (.iload_n 1, 1) := by decide +kernel
theorem dX11_init_153 : decode cX11_init 153 = .ok (.new 37, 3) := by decide +kernel
theorem dX11_init_156 : decode cX11_init 156 = .ok (.dup, 1) := by decide +kernel
theorem dX11_init_157 : decode cX11_init 157 = .ok (.invokespecial 66, 3) := by decide +kernel
theorem dX11_init_160 : decode cX11_init 160 = .ok (.aastore, 1) := by decide +kernel
theorem dX11_init_161 : decode cX11_init 161 = .ok (.iinc 1 1, 3) := by decide +kernel
theorem dX11_init_164 : decode cX11_init 164 = .ok (.goto (-22), 3) := by decide +kernel
theorem dX11_init_167 : decode cX11_init 167 = .ok (.return_, 1) := by decide +kernel
theorem dX11_server_0 : decode cX11_server 0 = .ok (.iload_n 1, 1) := by decide +kernel
theorem dX11_server_1 : decode cX11_server 1 = .ok (.bipush 7, 2) := by decide +kernel
theorem dX11_server_3 : decode cX11_server 3 = .ok (.invokestatic 67, 3) := by decide +kernel
theorem dX11_server_6 : decode cX11_server 6 = .ok (.ifCond .ne 5, 3) := by decide +kernel
theorem dX11_server_9 : decode cX11_server 9 = .ok (.iconst (-1), 1) := by decide +kernel
theorem dX11_server_10 : decode cX11_server 10 = .ok (.ireturn, 1) := by decide +kernel
theorem dX11_server_11 : decode cX11_server 11 = .ok (.iload_n 2, 1) := by decide +kernel
theorem dX11_server_12 : decode cX11_server 12 = .ok (.bipush 10, 2) := by decide +kernel
theorem dX11_server_14 : decode cX11_server 14 = .ok (.invokestatic 67, 3) := by decide +kernel
theorem dX11_server_17 : decode cX11_server 17 = .ok (.ifCond .eq 22, 3) := by decide +kernel
theorem dX11_server_20 : decode cX11_server 20 = .ok (.iload_n 3, 1) := by decide +kernel
theorem dX11_server_21 : decode cX11_server 21 = .ok (.bipush 10, 2) := by decide +kernel
theorem dX11_server_23 : decode cX11_server 23 = .ok (.invokestatic 67, 3) := by decide +kernel
theorem dX11_server_26 : decode cX11_server 26 = .ok (.ifCond .eq 13, 3) := by decide +kernel
theorem dX11_server_29 : decode cX11_server 29 = .ok (.iload 4, 2) := by decide +kernel
theorem dX11_server_31 : decode cX11_server 31 = .ok (.bipush 10, 2) := by decide +kernel
theorem dX11_server_33 : decode cX11_server 33 = .ok (.invokestatic 67, 3) := by decide +kernel
theorem dX11_server_36 : decode cX11_server 36 = .ok (.ifCond .ne 6, 3) := by decide +kernel
theorem dX11_server_39 : decode cX11_server 39 = .ok (.bipush (-2), 2) := by decide +kernel
theorem dX11_server_41 : decode cX11_server 41 = .ok (.ireturn, 1) := by decide +kernel
theorem dX11_server_42 : decode cX11_server 42 = .ok (.aload_n 0, 1) := by decide +kernel
theorem dX11_server_43 : decode cX11_server 43 = .ok (.getfield 12, 3) := by decide +kernel
theorem dX11_server_46 : decode cX11_server 46 = .ok (.getfield 71, 3) := by decide +kernel
theorem dX11_server_49 : decode cX11_server 49 = .ok (.iconst 4, 1) := by decide +kernel
theorem dX11_server_50 : decode cX11_server 50 = .ok (.if_icmp .lt 6, 3) := by decide +kernel
theorem dX11_server_53 : decode cX11_server 53 = .ok (.bipush (-4), 2) := by decide +kernel
theorem dX11_server_55 : decode cX11_server 55 = .ok (.ireturn, 1) := by decide +kernel
theorem dX11_server_56 : decode cX11_server 56 = .ok (.aload_n 0, 1) := by decide +kernel
theorem dX11_server_57 : decode cX11_server 57 = .ok (.getfield 12, 3) := by decide +kernel
theorem dX11_server_60 : decode cX11_server 60 = .ok (.iload_n 1, 1) := by decide +kernel
theorem dX11_server_61 : decode cX11_server 61 = .ok (.aload_n 0, 1) := by decide +kernel
theorem dX11_server_62 : decode cX11_server 62 = .ok (.getfield 12, 3) := by decide +kernel
theorem dX11_server_65 : decode cX11_server 65 = .ok (.getfield 71, 3) := by decide +kernel
theorem dX11_server_68 : decode cX11_server 68 = .ok (.iload_n 2, 1) := by decide +kernel
theorem dX11_server_69 : decode cX11_server 69 = .ok (.invokestatic 75, 3) := by decide +kernel
theorem dX11_server_72 : decode cX11_server 72 = .ok (.iload_n 3, 1) := by decide +kernel
theorem dX11_server_73 : decode cX11_server 73 = .ok (.iload 4, 2) := by decide +kernel
theorem dX11_server_75 : decode cX11_server 75 = .ok (.invokevirtual 79, 3) := by decide +kernel
theorem dX11_server_78 : decode cX11_server 78 = .ok (.ireturn, 1) := by decide +kernel
theorem dX11_of_0 : decode cX11_of 0 = .ok (.aload_n 0, 1) := by decide +kernel
theorem dX11_of_1 : decode cX11_of 1 = .ok (.iload_n 1, 1) := by decide +kernel
theorem dX11_of_2 : decode cX11_of 2 = .ok (.invokevirtual 83, 3) := by decide +kernel
theorem dX11_of_5 : decode cX11_of 5 = .ok (.astore_n 3, 1) := by decide +kernel
theorem dX11_of_6 : decode cX11_of 6 = .ok (.aload_n 3, 1) := by decide +kernel
theorem dX11_of_7 : decode cX11_of 7 = .ok (.ifnonnull 5, 3) := by decide +kernel
theorem dX11_of_10 : decode cX11_of 10 = .ok (.iconst (-1), 1) := by decide +kernel
theorem dX11_of_11 : decode cX11_of 11 = .ok (.ireturn, 1) := by decide +kernel
theorem dX11_of_12 : decode cX11_of 12 = .ok (.iload_n 2, 1) := by decide +kernel
theorem dX11_of_13 : decode cX11_of 13 = .ok (.bipush 10, 2) := by decide +kernel
theorem dX11_of_15 : decode cX11_of 15 = .ok (.isub, 1) := by decide +kernel
theorem dX11_of_16 : decode cX11_of 16 = .ok (.bipush 10, 2) := by decide +kernel
theorem dX11_of_18 : decode cX11_of 18 = .ok (.invokestatic 67, 3) := by decide +kernel
theorem dX11_of_21 : decode cX11_of 21 = .ok (.ifCond .eq 16, 3) := by decide +kernel
theorem dX11_of_24 : decode cX11_of 24 = .ok (.aload_n 0, 1) := by decide +kernel
theorem dX11_of_25 : decode cX11_of 25 = .ok (.getfield 12, 3) := by decide +kernel
theorem dX11_of_28 : decode cX11_of 28 = .ok (.aload_n 3, 1) := by decide +kernel
theorem dX11_of_29 : decode cX11_of 29 = .ok (.iload_n 2, 1) := by decide +kernel
theorem dX11_of_30 : decode cX11_of 30 = .ok (.bipush 10, 2) := by decide +kernel
theorem dX11_of_32 : decode cX11_of 32 = .ok (.isub, 1) := by decide +kernel
theorem dX11_of_33 : decode cX11_of 33 = .ok (.invokevirtual 87, 3) := by decide +kernel
theorem dX11_of_36 : decode cX11_of 36 = .ok (.ireturn, 1) := by decide +kernel
theorem dX11_of_37 : decode cX11_of 37 = .ok (.iload_n 2, 1) := by decide +kernel
theorem dX11_of_38 : decode cX11_of 38 = .ok (.bipush 20, 2) := by decide +kernel
theorem dX11_of_40 : decode cX11_of 40 = .ok (.isub, 1) := by decide +kernel
theorem dX11_of_41 : decode cX11_of 41 = .ok (.bipush 10, 2) := by decide +kernel
theorem dX11_of_43 : decode cX11_of 43 = .ok (.invokestatic 67, 3) := by decide +kernel
theorem dX11_of_46 : decode cX11_of 46 = .ok (.ifCond .eq 16, 3) := by decide +kernel
theorem dX11_of_49 : decode cX11_of 49 = .ok (.aload_n 0, 1) := by decide +kernel
theorem dX11_of_50 : decode cX11_of 50 = .ok (.getfield 12, 3) := by decide +kernel
theorem dX11_of_53 : decode cX11_of 53 = .ok (.aload_n 3, 1) := by decide +kernel
theorem dX11_of_54 : decode cX11_of 54 = .ok (.iload_n 2, 1) := by decide +kernel
theorem dX11_of_55 : decode cX11_of 55 = .ok (.bipush 20, 2) := by decide +kernel
theorem dX11_of_57 : decode cX11_of 57 = .ok (.isub, 1) := by decide +kernel
theorem dX11_of_58 : decode cX11_of 58 = .ok (.invokevirtual 91, 3) := by decide +kernel
theorem dX11_of_61 : decode cX11_of 61 = .ok (.ireturn, 1) := by decide +kernel
theorem dX11_of_62 : decode cX11_of 62 = .ok (.iload_n 2, 1) := by decide +kernel
theorem dX11_of_63 : decode cX11_of 63 = .ok (.tableswitch 108 0 6 #[41, 46, 51, 64, 77, 90, 99], 41) := by decide +kernel
theorem dX11_of_104 : decode cX11_of 104 = .ok (.aload_n 3, 1) := by decide +kernel
theorem dX11_of_105 : decode cX11_of 105 = .ok (.getfield 94, 3) := by decide +kernel
theorem dX11_of_108 : decode cX11_of 108 = .ok (.ireturn, 1) := by decide +kernel
theorem dX11_of_109 : decode cX11_of 109 = .ok (.aload_n 3, 1) := by decide +kernel
theorem dX11_of_110 : decode cX11_of 110 = .ok (.getfield 99, 3) := by decide +kernel
theorem dX11_of_113 : decode cX11_of 113 = .ok (.ireturn, 1) := by decide +kernel
theorem dX11_of_114 : decode cX11_of 114 = .ok (.aload_n 0, 1) := by decide +kernel
theorem dX11_of_115 : decode cX11_of 115 = .ok (.getfield 12, 3) := by decide +kernel
theorem dX11_of_118 : decode cX11_of 118 = .ok (.getfield 102, 3) := by decide +kernel
theorem dX11_of_121 : decode cX11_of 121 = .ok (.aload_n 3, 1) := by decide +kernel
theorem dX11_of_122 : decode cX11_of 122 = .ok (.getfield 105, 3) := by decide +kernel
theorem dX11_of_125 : decode cX11_of 125 = .ok (.iaload, 1) := by decide +kernel
theorem dX11_of_126 : decode cX11_of 126 = .ok (.ireturn, 1) := by decide +kernel
theorem dX11_of_127 : decode cX11_of 127 = .ok (.aload_n 0, 1) := by decide +kernel
theorem dX11_of_128 : decode cX11_of 128 = .ok (.getfield 12, 3) := by decide +kernel
theorem dX11_of_131 : decode cX11_of 131 = .ok (.getfield 108, 3) := by decide +kernel
theorem dX11_of_134 : decode cX11_of 134 = .ok (.aload_n 3, 1) := by decide +kernel
theorem dX11_of_135 : decode cX11_of 135 = .ok (.getfield 105, 3) := by decide +kernel
theorem dX11_of_138 : decode cX11_of 138 = .ok (.iaload, 1) := by decide +kernel
theorem dX11_of_139 : decode cX11_of 139 = .ok (.ireturn, 1) := by decide +kernel
theorem dX11_of_140 : decode cX11_of 140 = .ok (.aload_n 0, 1) := by decide +kernel
theorem dX11_of_141 : decode cX11_of 141 = .ok (.getfield 12, 3) := by decide +kernel
theorem dX11_of_144 : decode cX11_of 144 = .ok (.getfield 111, 3) := by decide +kernel
theorem dX11_of_147 : decode cX11_of 147 = .ok (.aload_n 3, 1) := by decide +kernel
theorem dX11_of_148 : decode cX11_of 148 = .ok (.getfield 105, 3) := by decide +kernel
theorem dX11_of_151 : decode cX11_of 151 = .ok (.iaload, 1) := by decide +kernel
theorem dX11_of_152 : decode cX11_of 152 = .ok (.ireturn, 1) := by decide +kernel
theorem dX11_of_153 : decode cX11_of 153 = .ok (.aload_n 3, 1) := by decide +kernel
theorem dX11_of_154 : decode cX11_of 154 = .ok (.aload_n 0, 1) := by decide +kernel
theorem dX11_of_155 : decode cX11_of 155 = .ok (.getfield 12, 3) := by decide +kernel
theorem dX11_of_158 : decode cX11_of 158 = .ok (.invokevirtual 114, 3) := by decide +kernel
theorem dX11_of_161 : decode cX11_of 161 = .ok (.ireturn, 1) := by decide +kernel
theorem dX11_of_162 : decode cX11_of 162 = .ok (.aload_n 3, 1) := by decide +kernel
theorem dX11_of_163 : decode cX11_of 163 = .ok (.aload_n 0, 1) := by decide +kernel
theorem dX11_of_164 : decode cX11_of 164 = .ok (.getfield 12, 3) := by decide +kernel
theorem dX11_of_167 : decode cX11_of 167 = .ok (.invokevirtual 118, 3) := by decide +kernel
theorem dX11_of_170 : decode cX11_of 170 = .ok (.ireturn, 1) := by decide +kernel
theorem dX11_of_171 : decode cX11_of 171 = .ok (.iconst (-1), 1) := by decide +kernel
theorem dX11_of_172 : decode cX11_of 172 = .ok (.ireturn, 1) := by decide +kernel
theorem dX11_set_0 : decode cX11_set 0 = .ok (.aload_n 0, 1) := by decide +kernel
theorem dX11_set_1 : decode cX11_set 1 = .ok (.iload_n 1, 1) := by decide +kernel
theorem dX11_set_2 : decode cX11_set 2 = .ok (.invokevirtual 83, 3) := by decide +kernel
theorem dX11_set_5 : decode cX11_set 5 = .ok (.astore 4, 2) := by decide +kernel
theorem dX11_set_7 : decode cX11_set 7 = .ok (.aload 4, 2) := by decide +kernel
theorem dX11_set_9 : decode cX11_set 9 = .ok (.ifnull 11, 3) := by decide +kernel
theorem dX11_set_12 : decode cX11_set 12 = .ok (.iload_n 2, 1) := by decide +kernel
theorem dX11_set_13 : decode cX11_set 13 = .ok (.iconst 3, 1) := by decide +kernel
theorem dX11_set_14 : decode cX11_set 14 = .ok (.invokestatic 67, 3) := by decide +kernel
theorem dX11_set_17 : decode cX11_set 17 = .ok (.ifCond .ne 5, 3) := by decide +kernel
theorem dX11_set_20 : decode cX11_set 20 = .ok (.iconst (-1), 1) := by decide +kernel
theorem dX11_set_21 : decode cX11_set 21 = .ok (.ireturn, 1) := by decide +kernel
theorem dX11_set_22 : decode cX11_set 22 = .ok (.iload_n 3, 1) := by decide +kernel
theorem dX11_set_23 : decode cX11_set 23 = .ok (.iload_n 2, 1) := by decide +kernel
theorem dX11_set_24 : decode cX11_set 24 = .ok (.iconst 2, 1) := by decide +kernel
theorem dX11_set_25 : decode cX11_set 25 = .ok (.if_icmp .ne 9, 3) := by decide +kernel
theorem dX11_set_28 : decode cX11_set 28 = .ok (.sipush 10000, 3) := by decide +kernel
theorem dX11_set_31 : decode cX11_set 31 = .ok (.goto 5, 3) := by decide +kernel
theorem dX11_set_34 : decode cX11_set 34 = .ok (.bipush 10, 2) := by decide +kernel
theorem dX11_set_36 : decode cX11_set 36 = .ok (.invokestatic 67, 3) := by decide +kernel
theorem dX11_set_39 : decode cX11_set 39 = .ok (.ifCond .ne 6, 3) := by decide +kernel
theorem dX11_set_42 : decode cX11_set 42 = .ok (.bipush (-2), 2) := by decide +kernel
theorem dX11_set_44 : decode cX11_set 44 = .ok (.ireturn, 1) := by decide +kernel
theorem dX11_set_45 : decode cX11_set 45 = .ok (.iload_n 2, 1) := by decide +kernel
theorem dX11_set_46 : decode cX11_set 46 = .ok (.ifCond .ne 13, 3) := by decide +kernel
theorem dX11_set_49 : decode cX11_set 49 = .ok (.aload_n 0, 1) := by decide +kernel
theorem dX11_set_50 : decode cX11_set 50 = .ok (.getfield 12, 3) := by decide +kernel
theorem dX11_set_53 : decode cX11_set 53 = .ok (.getfield 102, 3) := by decide +kernel
theorem dX11_set_56 : decode cX11_set 56 = .ok (.goto 25, 3) := by decide +kernel
theorem dX11_set_59 : decode cX11_set 59 = .ok (.iload_n 2, 1) := by decide +kernel
theorem dX11_set_60 : decode cX11_set 60 = .ok (.iconst 1, 1) := by decide +kernel
theorem dX11_set_61 : decode cX11_set 61 = .ok (.if_icmp .ne 13, 3) := by decide +kernel
theorem dX11_set_64 : decode cX11_set 64 = .ok (.aload_n 0, 1) := by decide +kernel
theorem dX11_set_65 : decode cX11_set 65 = .ok (.getfield 12, 3) := by decide +kernel
theorem dX11_set_68 : decode cX11_set 68 = .ok (.getfield 108, 3) := by decide +kernel
theorem dX11_set_71 : decode cX11_set 71 = .ok (.goto 10, 3) := by decide +kernel
theorem dX11_set_74 : decode cX11_set 74 = .ok (.aload_n 0, 1) := by decide +kernel
theorem dX11_set_75 : decode cX11_set 75 = .ok (.getfield 12, 3) := by decide +kernel
theorem dX11_set_78 : decode cX11_set 78 = .ok (.getfield 111, 3) := by decide +kernel
theorem dX11_set_81 : decode cX11_set 81 = .ok (.astore 5, 2) := by decide +kernel
theorem dX11_set_83 : decode cX11_set 83 = .ok (.aload 5, 2) := by decide +kernel
theorem dX11_set_85 : decode cX11_set 85 = .ok (.aload 4, 2) := by decide +kernel
theorem dX11_set_87 : decode cX11_set 87 = .ok (.getfield 105, 3) := by decide +kernel
theorem dX11_set_90 : decode cX11_set 90 = .ok (.iload_n 3, 1) := by decide +kernel
theorem dX11_set_91 : decode cX11_set 91 = .ok (.invokestatic 121, 3) := by decide +kernel
theorem dX11_set_94 : decode cX11_set 94 = .ok (.ireturn, 1) := by decide +kernel
theorem dX11_row_0 : decode cX11_row 0 = .ok (.aload_n 0, 1) := by decide +kernel
theorem dX11_row_1 : decode cX11_row 1 = .ok (.iload_n 1, 1) := by decide +kernel
theorem dX11_row_2 : decode cX11_row 2 = .ok (.invokevirtual 83, 3) := by decide +kernel
theorem dX11_row_5 : decode cX11_row 5 = .ok (.astore 4, 2) := by decide +kernel
theorem dX11_row_7 : decode cX11_row 7 = .ok (.aload 4, 2) := by decide +kernel
theorem dX11_row_9 : decode cX11_row 9 = .ok (.ifnull 11, 3) := by decide +kernel
theorem dX11_row_12 : decode cX11_row 12 = .ok (.iload_n 2, 1) := by decide +kernel
theorem dX11_row_13 : decode cX11_row 13 = .ok (.iconst 4, 1) := by decide +kernel
theorem dX11_row_14 : decode cX11_row 14 = .ok (.invokestatic 67, 3) := by decide +kernel
theorem dX11_row_17 : decode cX11_row 17 = .ok (.ifCond .ne 5, 3) := by decide +kernel
theorem dX11_row_20 : decode cX11_row 20 = .ok (.iconst (-1), 1) := by decide +kernel
theorem dX11_row_21 : decode cX11_row 21 = .ok (.ireturn, 1) := by decide +kernel
theorem dX11_row_22 : decode cX11_row 22 = .ok (.iload_n 3, 1) := by decide +kernel
theorem dX11_row_23 : decode cX11_row 23 = .ok (.bipush 10, 2) := by decide +kernel
theorem dX11_row_25 : decode cX11_row 25 = .ok (.invokestatic 67, 3) := by decide +kernel
theorem dX11_row_28 : decode cX11_row 28 = .ok (.ifCond .ne 6, 3) := by decide +kernel
theorem dX11_row_31 : decode cX11_row 31 = .ok (.bipush (-2), 2) := by decide +kernel
theorem dX11_row_33 : decode cX11_row 33 = .ok (.ireturn, 1) := by decide +kernel
theorem dX11_row_34 : decode cX11_row 34 = .ok (.aload 4, 2) := by decide +kernel
theorem dX11_row_36 : decode cX11_row 36 = .ok (.instanceof 125, 3) := by decide +kernel
theorem dX11_row_39 : decode cX11_row 39 = .ok (.ifCond .ne 6, 3) := by decide +kernel
theorem dX11_row_42 : decode cX11_row 42 = .ok (.bipush (-3), 2) := by decide +kernel
theorem dX11_row_44 : decode cX11_row 44 = .ok (.ireturn, 1) := by decide +kernel
theorem dX11_row_45 : decode cX11_row 45 = .ok (.aload_n 0, 1) := by decide +kernel
theorem dX11_row_46 : decode cX11_row 46 = .ok (.getfield 12, 3) := by decide +kernel
theorem dX11_row_49 : decode cX11_row 49 = .ok (.getfield 127, 3) := by decide +kernel
theorem dX11_row_52 : decode cX11_row 52 = .ok (.aload 4, 2) := by decide +kernel
theorem dX11_row_54 : decode cX11_row 54 = .ok (.getfield 105, 3) := by decide +kernel
theorem dX11_row_57 : decode cX11_row 57 = .ok (.iconst 4, 1) := by decide +kernel
theorem dX11_row_58 : decode cX11_row 58 = .ok (.imul, 1) := by decide +kernel
theorem dX11_row_59 : decode cX11_row 59 = .ok (.iload_n 2, 1) := by decide +kernel
theorem dX11_row_60 : decode cX11_row 60 = .ok (.iadd, 1) := by decide +kernel
theorem dX11_row_61 : decode cX11_row 61 = .ok (.iload_n 3, 1) := by decide +kernel
theorem dX11_row_62 : decode cX11_row 62 = .ok (.invokestatic 121, 3) := by decide +kernel
theorem dX11_row_65 : decode cX11_row 65 = .ok (.ireturn, 1) := by decide +kernel
theorem dX11_feed_0 : decode cX11_feed 0 = .ok (.iload_n 1, 1) := by decide +kernel
theorem dX11_feed_1 : decode cX11_feed 1 = .ok (.sipush 128, 3) := by decide +kernel
theorem dX11_feed_4 : decode cX11_feed 4 = .ok (.invokestatic 67, 3) := by decide +kernel
theorem dX11_feed_7 : decode cX11_feed 7 = .ok (.ifCond .ne 6, 3) := by decide +kernel
theorem dX11_feed_10 : decode cX11_feed 10 = .ok (.bipush (-2), 2) := by decide +kernel
theorem dX11_feed_12 : decode cX11_feed 12 = .ok (.ireturn, 1) := by decide +kernel
theorem dX11_feed_13 : decode cX11_feed 13 = .ok (.aload_n 0, 1) := by decide +kernel
theorem dX11_feed_14 : decode cX11_feed 14 = .ok (.getfield 27, 3) := by decide +kernel
theorem dX11_feed_17 : decode cX11_feed 17 = .ok (.iload_n 1, 1) := by decide +kernel
theorem dX11_feed_18 : decode cX11_feed 18 = .ok (.invokevirtual 130, 3) := by decide +kernel
theorem dX11_feed_21 : decode cX11_feed 21 = .ok (.ifCond .eq 13, 3) := by decide +kernel
theorem dX11_feed_24 : decode cX11_feed 24 = .ok (.aload_n 0, 1) := by decide +kernel
theorem dX11_feed_25 : decode cX11_feed 25 = .ok (.getfield 27, 3) := by decide +kernel
theorem dX11_feed_28 : decode cX11_feed 28 = .ok (.getfield 134, 3) := by decide +kernel
theorem dX11_feed_31 : decode cX11_feed 31 = .ok (.goto 5, 3) := by decide +kernel
theorem dX11_feed_34 : decode cX11_feed 34 = .ok (.bipush (-4), 2) := by decide +kernel
theorem dX11_feed_36 : decode cX11_feed 36 = .ok (.ireturn, 1) := by decide +kernel
theorem dX11_court_0 : decode cX11_court 0 = .ok (.aload_n 0, 1) := by decide +kernel
theorem dX11_court_1 : decode cX11_court 1 = .ok (.getfield 137, 3) := by decide +kernel
theorem dX11_court_4 : decode cX11_court 4 = .ok (.bipush 6, 2) := by decide +kernel
theorem dX11_court_6 : decode cX11_court 6 = .ok (.invokestatic 67, 3) := by decide +kernel
theorem dX11_court_9 : decode cX11_court 9 = .ok (.ifCond .ne 6, 3) := by decide +kernel
theorem dX11_court_12 : decode cX11_court 12 = .ok (.bipush (-4), 2) := by decide +kernel
theorem dX11_court_14 : decode cX11_court 14 = .ok (.ireturn, 1) := by decide +kernel
theorem dX11_court_15 : decode cX11_court 15 = .ok (.aload_n 0, 1) := by decide +kernel
theorem dX11_court_16 : decode cX11_court 16 = .ok (.getfield 33, 3) := by decide +kernel
theorem dX11_court_19 : decode cX11_court 19 = .ok (.aload_n 0, 1) := by decide +kernel
theorem dX11_court_20 : decode cX11_court 20 = .ok (.getfield 137, 3) := by decide +kernel
theorem dX11_court_23 : decode cX11_court 23 = .ok (.aaload, 1) := by decide +kernel
theorem dX11_court_24 : decode cX11_court 24 = .ok (.astore_n 1, 1) := by decide +kernel
theorem dX11_court_25 : decode cX11_court 25 = .ok (.aload_n 0, 1) := by decide +kernel
theorem dX11_court_26 : decode cX11_court 26 = .ok (.getfield 27, 3) := by decide +kernel
theorem dX11_court_29 : decode cX11_court 29 = .ok (.aload_n 1, 1) := by decide +kernel
theorem dX11_court_30 : decode cX11_court 30 = .ok (.invokevirtual 140, 3) := by decide +kernel
theorem dX11_court_33 : decode cX11_court 33 = .ok (.istore_n 2, 1) := by decide +kernel
theorem dX11_court_34 : decode cX11_court 34 = .ok (.aload_n 0, 1) := by decide +kernel
theorem dX11_court_35 : decode cX11_court 35 = .ok (.getfield 27, 3) := by decide +kernel
theorem dX11_court_38 : decode cX11_court 38 = .ok (.iconst 0, 1) := by decide +kernel
theorem dX11_court_39 : decode cX11_court 39 = .ok (.putfield 134, 3) := by decide +kernel
theorem dX11_court_42 : decode cX11_court 42 = .ok (.iload_n 2, 1) := by decide +kernel
theorem dX11_court_43 : decode cX11_court 43 = .ok (.iconst (-1), 1) := by decide +kernel
theorem dX11_court_44 : decode cX11_court 44 = .ok (.if_icmp .eq 8, 3) := by decide +kernel
theorem dX11_court_47 : decode cX11_court 47 = .ok (.bipush (-10), 2) := by decide +kernel
theorem dX11_court_49 : decode cX11_court 49 = .ok (.iload_n 2, 1) := by decide +kernel
theorem dX11_court_50 : decode cX11_court 50 = .ok (.isub, 1) := by decide +kernel
theorem dX11_court_51 : decode cX11_court 51 = .ok (.ireturn, 1) := by decide +kernel
theorem dX11_court_52 : decode cX11_court 52 = .ok (.aload_n 0, 1) := by decide +kernel
theorem dX11_court_53 : decode cX11_court 53 = .ok (.getfield 12, 3) := by decide +kernel
theorem dX11_court_56 : decode cX11_court 56 = .ok (.aload_n 1, 1) := by decide +kernel
theorem dX11_court_57 : decode cX11_court 57 = .ok (.putfield 144, 3) := by decide +kernel
theorem dX11_court_60 : decode cX11_court 60 = .ok (.aload_n 0, 1) := by decide +kernel
theorem dX11_court_61 : decode cX11_court 61 = .ok (.dup, 1) := by decide +kernel
theorem dX11_court_62 : decode cX11_court 62 = .ok (.getfield 137, 3) := by decide +kernel
theorem dX11_court_65 : decode cX11_court 65 = .ok (.iconst 1, 1) := by decide +kernel
theorem dX11_court_66 : decode cX11_court 66 = .ok (.iadd, 1) := by decide +kernel
theorem dX11_court_67 : decode cX11_court 67 = .ok (.putfield 137, 3) := by decide +kernel
theorem dX11_court_70 : decode cX11_court 70 = .ok (.aload_n 0, 1) := by decide +kernel
theorem dX11_court_71 : decode cX11_court 71 = .ok (.getfield 137, 3) := by decide +kernel
theorem dX11_court_74 : decode cX11_court 74 = .ok (.iconst 1, 1) := by decide +kernel
theorem dX11_court_75 : decode cX11_court 75 = .ok (.isub, 1) := by decide +kernel
theorem dX11_court_76 : decode cX11_court 76 = .ok (.ireturn, 1) := by decide +kernel
theorem dX11_told_0 : decode cX11_told 0 = .ok (.iload_n 1, 1) := by decide +kernel
theorem dX11_told_1 : decode cX11_told 1 = .ok (.tableswitch 51 0 2 #[27, 35, 43], 27) := by decide +kernel
theorem dX11_told_28 : decode cX11_told 28 = .ok (.aload_n 0, 1) := by decide +kernel
theorem dX11_told_29 : decode cX11_told 29 = .ok (.getfield 12, 3) := by decide +kernel
theorem dX11_told_32 : decode cX11_told 32 = .ok (.getfield 148, 3) := by decide +kernel
theorem dX11_told_35 : decode cX11_told 35 = .ok (.ireturn, 1) := by decide +kernel
theorem dX11_told_36 : decode cX11_told 36 = .ok (.aload_n 0, 1) := by decide +kernel
theorem dX11_told_37 : decode cX11_told 37 = .ok (.getfield 12, 3) := by decide +kernel
theorem dX11_told_40 : decode cX11_told 40 = .ok (.getfield 151, 3) := by decide +kernel
theorem dX11_told_43 : decode cX11_told 43 = .ok (.ireturn, 1) := by decide +kernel
theorem dX11_told_44 : decode cX11_told 44 = .ok (.aload_n 0, 1) := by decide +kernel
theorem dX11_told_45 : decode cX11_told 45 = .ok (.getfield 12, 3) := by decide +kernel
theorem dX11_told_48 : decode cX11_told 48 = .ok (.getfield 154, 3) := by decide +kernel
theorem dX11_told_51 : decode cX11_told 51 = .ok (.ireturn, 1) := by decide +kernel
theorem dX11_told_52 : decode cX11_told 52 = .ok (.iconst (-1), 1) := by decide +kernel
theorem dX11_told_53 : decode cX11_told 53 = .ok (.ireturn, 1) := by decide +kernel
theorem dX11_stance_0 : decode cX11_stance 0 = .ok (.iload_n 1, 1) := by decide +kernel
theorem dX11_stance_1 : decode cX11_stance 1 = .ok (.iconst 3, 1) := by decide +kernel
theorem dX11_stance_2 : decode cX11_stance 2 = .ok (.invokestatic 67, 3) := by decide +kernel
theorem dX11_stance_5 : decode cX11_stance 5 = .ok (.ifCond .ne 5, 3) := by decide +kernel
theorem dX11_stance_8 : decode cX11_stance 8 = .ok (.iconst (-1), 1) := by decide +kernel
theorem dX11_stance_9 : decode cX11_stance 9 = .ok (.ireturn, 1) := by decide +kernel
theorem dX11_stance_10 : decode cX11_stance 10 = .ok (.aload_n 0, 1) := by decide +kernel
theorem dX11_stance_11 : decode cX11_stance 11 = .ok (.getfield 12, 3) := by decide +kernel
theorem dX11_stance_14 : decode cX11_stance 14 = .ok (.getfield 154, 3) := by decide +kernel
theorem dX11_stance_17 : decode cX11_stance 17 = .ok (.istore_n 2, 1) := by decide +kernel
theorem dX11_stance_18 : decode cX11_stance 18 = .ok (.aload_n 0, 1) := by decide +kernel
theorem dX11_stance_19 : decode cX11_stance 19 = .ok (.getfield 12, 3) := by decide +kernel
theorem dX11_stance_22 : decode cX11_stance 22 = .ok (.iload_n 1, 1) := by decide +kernel
theorem dX11_stance_23 : decode cX11_stance 23 = .ok (.putfield 154, 3) := by decide +kernel
theorem dX11_stance_26 : decode cX11_stance 26 = .ok (.iload_n 2, 1) := by decide +kernel
theorem dX11_stance_27 : decode cX11_stance 27 = .ok (.ireturn, 1) := by decide +kernel
theorem dX11_score_0 : decode cX11_score 0 = .ok (.iload_n 1, 1) := by decide +kernel
theorem dX11_score_1 : decode cX11_score 1 = .ok (.iconst 5, 1) := by decide +kernel
theorem dX11_score_2 : decode cX11_score 2 = .ok (.invokestatic 67, 3) := by decide +kernel
theorem dX11_score_5 : decode cX11_score 5 = .ok (.ifCond .eq 21, 3) := by decide +kernel
theorem dX11_score_8 : decode cX11_score 8 = .ok (.iload_n 2, 1) := by decide +kernel
theorem dX11_score_9 : decode cX11_score 9 = .ok (.iconst 5, 1) := by decide +kernel
theorem dX11_score_10 : decode cX11_score 10 = .ok (.invokestatic 67, 3) := by decide +kernel
theorem dX11_score_13 : decode cX11_score 13 = .ok (.ifCond .eq 13, 3) := by decide +kernel
theorem dX11_score_16 : decode cX11_score 16 = .ok (.iload_n 1, 1) := by decide +kernel
theorem dX11_score_17 : decode cX11_score 17 = .ok (.iconst 4, 1) := by decide +kernel
theorem dX11_score_18 : decode cX11_score 18 = .ok (.if_icmp .ne 11, 3) := by decide +kernel
theorem dX11_score_21 : decode cX11_score 21 = .ok (.iload_n 2, 1) := by decide +kernel
theorem dX11_score_22 : decode cX11_score 22 = .ok (.iconst 4, 1) := by decide +kernel
theorem dX11_score_23 : decode cX11_score 23 = .ok (.if_icmp .ne 6, 3) := by decide +kernel
theorem dX11_score_26 : decode cX11_score 26 = .ok (.bipush (-2), 2) := by decide +kernel
theorem dX11_score_28 : decode cX11_score 28 = .ok (.ireturn, 1) := by decide +kernel
theorem dX11_score_29 : decode cX11_score 29 = .ok (.aload_n 0, 1) := by decide +kernel
theorem dX11_score_30 : decode cX11_score 30 = .ok (.getfield 12, 3) := by decide +kernel
theorem dX11_score_33 : decode cX11_score 33 = .ok (.iload_n 1, 1) := by decide +kernel
theorem dX11_score_34 : decode cX11_score 34 = .ok (.putfield 148, 3) := by decide +kernel
theorem dX11_score_37 : decode cX11_score 37 = .ok (.aload_n 0, 1) := by decide +kernel
theorem dX11_score_38 : decode cX11_score 38 = .ok (.getfield 12, 3) := by decide +kernel
theorem dX11_score_41 : decode cX11_score 41 = .ok (.iload_n 2, 1) := by decide +kernel
theorem dX11_score_42 : decode cX11_score 42 = .ok (.putfield 151, 3) := by decide +kernel
theorem dX11_score_45 : decode cX11_score 45 = .ok (.iconst 1, 1) := by decide +kernel
theorem dX11_score_46 : decode cX11_score 46 = .ok (.ireturn, 1) := by decide +kernel
theorem dX11_chance_0 : decode cX11_chance 0 = .ok (.aload_n 0, 1) := by decide +kernel
theorem dX11_chance_1 : decode cX11_chance 1 = .ok (.iload_n 1, 1) := by decide +kernel
theorem dX11_chance_2 : decode cX11_chance 2 = .ok (.invokevirtual 83, 3) := by decide +kernel
theorem dX11_chance_5 : decode cX11_chance 5 = .ok (.astore 4, 2) := by decide +kernel
theorem dX11_chance_7 : decode cX11_chance 7 = .ok (.aload 4, 2) := by decide +kernel
theorem dX11_chance_9 : decode cX11_chance 9 = .ok (.ifnull 21, 3) := by decide +kernel
theorem dX11_chance_12 : decode cX11_chance 12 = .ok (.iload_n 2, 1) := by decide +kernel
theorem dX11_chance_13 : decode cX11_chance 13 = .ok (.bipush 10, 2) := by decide +kernel
theorem dX11_chance_15 : decode cX11_chance 15 = .ok (.invokestatic 67, 3) := by decide +kernel
theorem dX11_chance_18 : decode cX11_chance 18 = .ok (.ifCond .eq 12, 3) := by decide +kernel
theorem dX11_chance_21 : decode cX11_chance 21 = .ok (.iload_n 3, 1) := by decide +kernel
theorem dX11_chance_22 : decode cX11_chance 22 = .ok (.bipush 10, 2) := by decide +kernel
theorem dX11_chance_24 : decode cX11_chance 24 = .ok (.invokestatic 67, 3) := by decide +kernel
theorem dX11_chance_27 : decode cX11_chance 27 = .ok (.ifCond .ne 5, 3) := by decide +kernel
theorem dX11_chance_30 : decode cX11_chance 30 = .ok (.iconst (-1), 1) := by decide +kernel
theorem dX11_chance_31 : decode cX11_chance 31 = .ok (.ireturn, 1) := by decide +kernel
theorem dX11_chance_32 : decode cX11_chance 32 = .ok (.aload_n 0, 1) := by decide +kernel
theorem dX11_chance_33 : decode cX11_chance 33 = .ok (.getfield 12, 3) := by decide +kernel
theorem dX11_chance_36 : decode cX11_chance 36 = .ok (.aload 4, 2) := by decide +kernel
theorem dX11_chance_38 : decode cX11_chance 38 = .ok (.iload_n 2, 1) := by decide +kernel
theorem dX11_chance_39 : decode cX11_chance 39 = .ok (.iload_n 3, 1) := by decide +kernel
theorem dX11_chance_40 : decode cX11_chance 40 = .ok (.invokevirtual 157, 3) := by decide +kernel
theorem dX11_chance_43 : decode cX11_chance 43 = .ok (.ireturn, 1) := by decide +kernel
theorem dX11_faults_0 : decode cX11_faults 0 = .ok (.aload_n 0, 1) := by decide +kernel
theorem dX11_faults_1 : decode cX11_faults 1 = .ok (.iload_n 1, 1) := by decide +kernel
theorem dX11_faults_2 : decode cX11_faults 2 = .ok (.invokevirtual 83, 3) := by decide +kernel
theorem dX11_faults_5 : decode cX11_faults 5 = .ok (.astore 4, 2) := by decide +kernel
theorem dX11_faults_7 : decode cX11_faults 7 = .ok (.aload 4, 2) := by decide +kernel
theorem dX11_faults_9 : decode cX11_faults 9 = .ok (.ifnull 21, 3) := by decide +kernel
theorem dX11_faults_12 : decode cX11_faults 12 = .ok (.iload_n 2, 1) := by decide +kernel
theorem dX11_faults_13 : decode cX11_faults 13 = .ok (.bipush 10, 2) := by decide +kernel
theorem dX11_faults_15 : decode cX11_faults 15 = .ok (.invokestatic 67, 3) := by decide +kernel
theorem dX11_faults_18 : decode cX11_faults 18 = .ok (.ifCond .eq 12, 3) := by decide +kernel
theorem dX11_faults_21 : decode cX11_faults 21 = .ok (.iload_n 3, 1) := by decide +kernel
theorem dX11_faults_22 : decode cX11_faults 22 = .ok (.bipush 10, 2) := by decide +kernel
theorem dX11_faults_24 : decode cX11_faults 24 = .ok (.invokestatic 67, 3) := by decide +kernel
theorem dX11_faults_27 : decode cX11_faults 27 = .ok (.ifCond .ne 5, 3) := by decide +kernel
theorem dX11_faults_30 : decode cX11_faults 30 = .ok (.iconst (-1), 1) := by decide +kernel
theorem dX11_faults_31 : decode cX11_faults 31 = .ok (.ireturn, 1) := by decide +kernel
theorem dX11_faults_32 : decode cX11_faults 32 = .ok (.aload_n 0, 1) := by decide +kernel
theorem dX11_faults_33 : decode cX11_faults 33 = .ok (.getfield 12, 3) := by decide +kernel
theorem dX11_faults_36 : decode cX11_faults 36 = .ok (.aload 4, 2) := by decide +kernel
theorem dX11_faults_38 : decode cX11_faults 38 = .ok (.iload_n 2, 1) := by decide +kernel
theorem dX11_faults_39 : decode cX11_faults 39 = .ok (.iload_n 3, 1) := by decide +kernel
theorem dX11_faults_40 : decode cX11_faults 40 = .ok (.invokevirtual 160, 3) := by decide +kernel
theorem dX11_faults_43 : decode cX11_faults 43 = .ok (.ireturn, 1) := by decide +kernel
theorem dX11_play_0 : decode cX11_play 0 = .ok (.aload_n 0, 1) := by decide +kernel
theorem dX11_play_1 : decode cX11_play 1 = .ok (.iload_n 1, 1) := by decide +kernel
theorem dX11_play_2 : decode cX11_play 2 = .ok (.invokevirtual 83, 3) := by decide +kernel
theorem dX11_play_5 : decode cX11_play 5 = .ok (.astore 4, 2) := by decide +kernel
theorem dX11_play_7 : decode cX11_play 7 = .ok (.aload 4, 2) := by decide +kernel
theorem dX11_play_9 : decode cX11_play 9 = .ok (.ifnonnull 5, 3) := by decide +kernel
theorem dX11_play_12 : decode cX11_play 12 = .ok (.iconst (-1), 1) := by decide +kernel
theorem dX11_play_13 : decode cX11_play 13 = .ok (.ireturn, 1) := by decide +kernel
theorem dX11_play_14 : decode cX11_play 14 = .ok (.iload_n 2, 1) := by decide +kernel
theorem dX11_play_15 : decode cX11_play 15 = .ok (.bipush 100, 2) := by decide +kernel
theorem dX11_play_17 : decode cX11_play 17 = .ok (.invokestatic 67, 3) := by decide +kernel
theorem dX11_play_20 : decode cX11_play 20 = .ok (.ifCond .eq 12, 3) := by decide +kernel
theorem dX11_play_23 : decode cX11_play 23 = .ok (.iload_n 3, 1) := by decide +kernel
theorem dX11_play_24 : decode cX11_play 24 = .ok (.bipush 100, 2) := by decide +kernel
theorem dX11_play_26 : decode cX11_play 26 = .ok (.invokestatic 67, 3) := by decide +kernel
theorem dX11_play_29 : decode cX11_play 29 = .ok (.ifCond .ne 6, 3) := by decide +kernel
theorem dX11_play_32 : decode cX11_play 32 = .ok (.bipush (-2), 2) := by decide +kernel
theorem dX11_play_34 : decode cX11_play 34 = .ok (.ireturn, 1) := by decide +kernel
theorem dX11_play_35 : decode cX11_play 35 = .ok (.aload_n 0, 1) := by decide +kernel
theorem dX11_play_36 : decode cX11_play 36 = .ok (.getfield 12, 3) := by decide +kernel
theorem dX11_play_39 : decode cX11_play 39 = .ok (.invokevirtual 163, 3) := by decide +kernel
theorem dX11_play_42 : decode cX11_play 42 = .ok (.ifCond .eq 6, 3) := by decide +kernel
theorem dX11_play_45 : decode cX11_play 45 = .ok (.bipush (-3), 2) := by decide +kernel
theorem dX11_play_47 : decode cX11_play 47 = .ok (.ireturn, 1) := by decide +kernel
theorem dX11_play_48 : decode cX11_play 48 = .ok (.aload_n 0, 1) := by decide +kernel
theorem dX11_play_49 : decode cX11_play 49 = .ok (.getfield 12, 3) := by decide +kernel
theorem dX11_play_52 : decode cX11_play 52 = .ok (.aload 4, 2) := by decide +kernel
theorem dX11_play_54 : decode cX11_play 54 = .ok (.iload_n 2, 1) := by decide +kernel
theorem dX11_play_55 : decode cX11_play 55 = .ok (.iload_n 3, 1) := by decide +kernel
theorem dX11_play_56 : decode cX11_play 56 = .ok (.invokevirtual 167, 3) := by decide +kernel
theorem dX11_play_59 : decode cX11_play 59 = .ok (.ifCond .eq 7, 3) := by decide +kernel
theorem dX11_play_62 : decode cX11_play 62 = .ok (.iconst 1, 1) := by decide +kernel
theorem dX11_play_63 : decode cX11_play 63 = .ok (.goto 4, 3) := by decide +kernel
theorem dX11_play_66 : decode cX11_play 66 = .ok (.iconst 0, 1) := by decide +kernel
theorem dX11_play_67 : decode cX11_play 67 = .ok (.ireturn, 1) := by decide +kernel
theorem dX11_best_0 : decode cX11_best 0 = .ok (.aload_n 0, 1) := by decide +kernel
theorem dX11_best_1 : decode cX11_best 1 = .ok (.iload_n 1, 1) := by decide +kernel
theorem dX11_best_2 : decode cX11_best 2 = .ok (.invokevirtual 83, 3) := by decide +kernel
theorem dX11_best_5 : decode cX11_best 5 = .ok (.astore_n 3, 1) := by decide +kernel
theorem dX11_best_6 : decode cX11_best 6 = .ok (.aload_n 3, 1) := by decide +kernel
theorem dX11_best_7 : decode cX11_best 7 = .ok (.ifnull 11, 3) := by decide +kernel
theorem dX11_best_10 : decode cX11_best 10 = .ok (.iload_n 2, 1) := by decide +kernel
theorem dX11_best_11 : decode cX11_best 11 = .ok (.iconst 2, 1) := by decide +kernel
theorem dX11_best_12 : decode cX11_best 12 = .ok (.invokestatic 67, 3) := by decide +kernel
theorem dX11_best_15 : decode cX11_best 15 = .ok (.ifCond .ne 5, 3) := by decide +kernel
theorem dX11_best_18 : decode cX11_best 18 = .ok (.iconst (-1), 1) := by decide +kernel
theorem dX11_best_19 : decode cX11_best 19 = .ok (.ireturn, 1) := by decide +kernel
theorem dX11_best_20 : decode cX11_best 20 = .ok (.aload_n 0, 1) := by decide +kernel
theorem dX11_best_21 : decode cX11_best 21 = .ok (.aload_n 3, 1) := by decide +kernel
theorem dX11_best_22 : decode cX11_best 22 = .ok (.iload_n 2, 1) := by decide +kernel
theorem dX11_best_23 : decode cX11_best 23 = .ok (.invokevirtual 171, 3) := by decide +kernel
theorem dX11_best_26 : decode cX11_best 26 = .ok (.ireturn, 1) := by decide +kernel
theorem dX11_risk_0 : decode cX11_risk 0 = .ok (.aload_n 0, 1) := by decide +kernel
theorem dX11_risk_1 : decode cX11_risk 1 = .ok (.iload_n 1, 1) := by decide +kernel
theorem dX11_risk_2 : decode cX11_risk 2 = .ok (.invokevirtual 83, 3) := by decide +kernel
theorem dX11_risk_5 : decode cX11_risk 5 = .ok (.astore_n 2, 1) := by decide +kernel
theorem dX11_risk_6 : decode cX11_risk 6 = .ok (.aload_n 2, 1) := by decide +kernel
theorem dX11_risk_7 : decode cX11_risk 7 = .ok (.ifnonnull 5, 3) := by decide +kernel
theorem dX11_risk_10 : decode cX11_risk 10 = .ok (.iconst (-1), 1) := by decide +kernel
theorem dX11_risk_11 : decode cX11_risk 11 = .ok (.ireturn, 1) := by decide +kernel
theorem dX11_risk_12 : decode cX11_risk 12 = .ok (.aload_n 2, 1) := by decide +kernel
theorem dX11_risk_13 : decode cX11_risk 13 = .ok (.aload_n 0, 1) := by decide +kernel
theorem dX11_risk_14 : decode cX11_risk 14 = .ok (.getfield 12, 3) := by decide +kernel
theorem dX11_risk_17 : decode cX11_risk 17 = .ok (.invokevirtual 114, 3) := by decide +kernel
theorem dX11_risk_20 : decode cX11_risk 20 = .ok (.istore_n 3, 1) := by decide +kernel
theorem dX11_risk_21 : decode cX11_risk 21 = .ok (.aload_n 0, 1) := by decide +kernel
theorem dX11_risk_22 : decode cX11_risk 22 = .ok (.getfield 12, 3) := by decide +kernel
theorem dX11_risk_25 : decode cX11_risk 25 = .ok (.aload_n 2, 1) := by decide +kernel
theorem dX11_risk_26 : decode cX11_risk 26 = .ok (.iload_n 3, 1) := by decide +kernel
theorem dX11_risk_27 : decode cX11_risk 27 = .ok (.aload_n 2, 1) := by decide +kernel
theorem dX11_risk_28 : decode cX11_risk 28 = .ok (.aload_n 0, 1) := by decide +kernel
theorem dX11_risk_29 : decode cX11_risk 29 = .ok (.getfield 12, 3) := by decide +kernel
theorem dX11_risk_32 : decode cX11_risk 32 = .ok (.invokevirtual 118, 3) := by decide +kernel
theorem dX11_risk_35 : decode cX11_risk 35 = .ok (.invokevirtual 160, 3) := by decide +kernel
theorem dX11_risk_38 : decode cX11_risk 38 = .ok (.istore 4, 2) := by decide +kernel
theorem dX11_risk_40 : decode cX11_risk 40 = .ok (.iconst 0, 1) := by decide +kernel
theorem dX11_risk_41 : decode cX11_risk 41 = .ok (.istore 5, 2) := by decide +kernel
theorem dX11_risk_43 : decode cX11_risk 43 = .ok (.iload 5, 2) := by decide +kernel
theorem dX11_risk_45 : decode cX11_risk 45 = .ok (.bipush 10, 2) := by decide +kernel
theorem dX11_risk_47 : decode cX11_risk 47 = .ok (.if_icmp .ge 28, 3) := by decide +kernel
theorem dX11_risk_50 : decode cX11_risk 50 = .ok (.aload_n 0, 1) := by decide +kernel
theorem dX11_risk_51 : decode cX11_risk 51 = .ok (.getfield 12, 3) := by decide +kernel
theorem dX11_risk_54 : decode cX11_risk 54 = .ok (.aload_n 2, 1) := by decide +kernel
theorem dX11_risk_55 : decode cX11_risk 55 = .ok (.iload_n 3, 1) := by decide +kernel
theorem dX11_risk_56 : decode cX11_risk 56 = .ok (.iload 5, 2) := by decide +kernel
theorem dX11_risk_58 : decode cX11_risk 58 = .ok (.invokevirtual 160, 3) := by decide +kernel
theorem dX11_risk_61 : decode cX11_risk 61 = .ok (.iload 4, 2) := by decide +kernel
theorem dX11_risk_63 : decode cX11_risk 63 = .ok (.if_icmp .le 6, 3) := by decide +kernel
theorem dX11_risk_66 : decode cX11_risk 66 = .ok (.iload 5, 2) := by decide +kernel
theorem dX11_risk_68 : decode cX11_risk 68 = .ok (.ireturn, 1) := by decide +kernel
theorem dX11_risk_69 : decode cX11_risk 69 = .ok (.iinc 5 1, 3) := by decide +kernel
theorem dX11_risk_72 : decode cX11_risk 72 = .ok (.goto (-29), 3) := by decide +kernel
theorem dX11_risk_75 : decode cX11_risk 75 = .ok (.bipush (-5), 2) := by decide +kernel
theorem dX11_risk_77 : decode cX11_risk 77 = .ok (.ireturn, 1) := by decide +kernel
theorem dX11_dare_0 : decode cX11_dare 0 = .ok (.aload_n 0, 1) := by decide +kernel
theorem dX11_dare_1 : decode cX11_dare 1 = .ok (.iload_n 1, 1) := by decide +kernel
theorem dX11_dare_2 : decode cX11_dare 2 = .ok (.invokevirtual 83, 3) := by decide +kernel
theorem dX11_dare_5 : decode cX11_dare 5 = .ok (.astore_n 2, 1) := by decide +kernel
theorem dX11_dare_6 : decode cX11_dare 6 = .ok (.aload_n 2, 1) := by decide +kernel
theorem dX11_dare_7 : decode cX11_dare 7 = .ok (.ifnonnull 6, 3) := by decide +kernel
theorem dX11_dare_10 : decode cX11_dare 10 = .ok (.ldc 174, 2) := by decide +kernel
theorem dX11_dare_12 : decode cX11_dare 12 = .ok (.ireturn, 1) := by decide +kernel
theorem dX11_dare_13 : decode cX11_dare 13 = .ok (.aload_n 2, 1) := by decide +kernel
theorem dX11_dare_14 : decode cX11_dare 14 = .ok (.aload_n 0, 1) := by decide +kernel
theorem dX11_dare_15 : decode cX11_dare 15 = .ok (.getfield 12, 3) := by decide +kernel
theorem dX11_dare_18 : decode cX11_dare 18 = .ok (.invokevirtual 114, 3) := by decide +kernel
theorem dX11_dare_21 : decode cX11_dare 21 = .ok (.istore_n 3, 1) := by decide +kernel
theorem dX11_dare_22 : decode cX11_dare 22 = .ok (.aload_n 0, 1) := by decide +kernel
theorem dX11_dare_23 : decode cX11_dare 23 = .ok (.getfield 12, 3) := by decide +kernel
theorem dX11_dare_26 : decode cX11_dare 26 = .ok (.aload_n 2, 1) := by decide +kernel
theorem dX11_dare_27 : decode cX11_dare 27 = .ok (.iload_n 3, 1) := by decide +kernel
theorem dX11_dare_28 : decode cX11_dare 28 = .ok (.iload_n 3, 1) := by decide +kernel
theorem dX11_dare_29 : decode cX11_dare 29 = .ok (.invokevirtual 157, 3) := by decide +kernel
theorem dX11_dare_32 : decode cX11_dare 32 = .ok (.aload_n 0, 1) := by decide +kernel
theorem dX11_dare_33 : decode cX11_dare 33 = .ok (.getfield 12, 3) := by decide +kernel
theorem dX11_dare_36 : decode cX11_dare 36 = .ok (.aload_n 2, 1) := by decide +kernel
theorem dX11_dare_37 : decode cX11_dare 37 = .ok (.invokevirtual 175, 3) := by decide +kernel
theorem dX11_dare_40 : decode cX11_dare 40 = .ok (.isub, 1) := by decide +kernel
theorem dX11_dare_41 : decode cX11_dare 41 = .ok (.ireturn, 1) := by decide +kernel
theorem dX11_more_0 : decode cX11_more 0 = .ok (.aload_n 0, 1) := by decide +kernel
theorem dX11_more_1 : decode cX11_more 1 = .ok (.iload_n 1, 1) := by decide +kernel
theorem dX11_more_2 : decode cX11_more 2 = .ok (.invokevirtual 83, 3) := by decide +kernel
theorem dX11_more_5 : decode cX11_more 5 = .ok (.astore_n 3, 1) := by decide +kernel
theorem dX11_more_6 : decode cX11_more 6 = .ok (.aload_n 3, 1) := by decide +kernel
theorem dX11_more_7 : decode cX11_more 7 = .ok (.ifnull 11, 3) := by decide +kernel
theorem dX11_more_10 : decode cX11_more 10 = .ok (.iload_n 2, 1) := by decide +kernel
theorem dX11_more_11 : decode cX11_more 11 = .ok (.iconst 2, 1) := by decide +kernel
theorem dX11_more_12 : decode cX11_more 12 = .ok (.invokestatic 67, 3) := by decide +kernel
theorem dX11_more_15 : decode cX11_more 15 = .ok (.ifCond .ne 6, 3) := by decide +kernel
theorem dX11_more_18 : decode cX11_more 18 = .ok (.ldc 174, 2) := by decide +kernel
theorem dX11_more_20 : decode cX11_more 20 = .ok (.ireturn, 1) := by decide +kernel
theorem dX11_more_21 : decode cX11_more 21 = .ok (.aload_n 0, 1) := by decide +kernel
theorem dX11_more_22 : decode cX11_more 22 = .ok (.getfield 21, 3) := by decide +kernel
theorem dX11_more_25 : decode cX11_more 25 = .ok (.aload_n 0, 1) := by decide +kernel
theorem dX11_more_26 : decode cX11_more 26 = .ok (.getfield 12, 3) := by decide +kernel
theorem dX11_more_29 : decode cX11_more 29 = .ok (.invokevirtual 179, 3) := by decide +kernel
theorem dX11_more_32 : decode cX11_more 32 = .ok (.iload_n 2, 1) := by decide +kernel
theorem dX11_more_33 : decode cX11_more 33 = .ok (.ifCond .ne 68, 3) := by decide +kernel
theorem dX11_more_36 : decode cX11_more 36 = .ok (.aload_n 0, 1) := by decide +kernel
theorem dX11_more_37 : decode cX11_more 37 = .ok (.getfield 21, 3) := by decide +kernel
theorem dX11_more_40 : decode cX11_more 40 = .ok (.getfield 102, 3) := by decide +kernel
theorem dX11_more_43 : decode cX11_more 43 = .ok (.aload_n 3, 1) := by decide +kernel
theorem dX11_more_44 : decode cX11_more 44 = .ok (.getfield 105, 3) := by decide +kernel
theorem dX11_more_47 : decode cX11_more 47 = .ok (.bipush 9, 2) := by decide +kernel
theorem dX11_more_49 : decode cX11_more 49 = .ok (.aload_n 0, 1) := by decide +kernel
theorem dX11_more_50 : decode cX11_more 50 = .ok (.getfield 12, 3) := by decide +kernel
theorem dX11_more_53 : decode cX11_more 53 = .ok (.getfield 102, 3) := by decide +kernel
theorem dX11_more_56 : decode cX11_more 56 = .ok (.aload_n 3, 1) := by decide +kernel
theorem dX11_more_57 : decode cX11_more 57 = .ok (.getfield 105, 3) := by decide +kernel
theorem dX11_more_60 : decode cX11_more 60 = .ok (.iaload, 1) := by decide +kernel
theorem dX11_more_61 : decode cX11_more 61 = .ok (.iconst 1, 1) := by decide +kernel
theorem dX11_more_62 : decode cX11_more 62 = .ok (.iadd, 1) := by decide +kernel
theorem dX11_more_63 : decode cX11_more 63 = .ok (.invokestatic 183, 3) := by decide +kernel
theorem dX11_more_66 : decode cX11_more 66 = .ok (.iastore, 1) := by decide +kernel
theorem dX11_more_67 : decode cX11_more 67 = .ok (.aload_n 0, 1) := by decide +kernel
theorem dX11_more_68 : decode cX11_more 68 = .ok (.getfield 21, 3) := by decide +kernel
theorem dX11_more_71 : decode cX11_more 71 = .ok (.getfield 108, 3) := by decide +kernel
theorem dX11_more_74 : decode cX11_more 74 = .ok (.aload_n 3, 1) := by decide +kernel
theorem dX11_more_75 : decode cX11_more 75 = .ok (.getfield 105, 3) := by decide +kernel
theorem dX11_more_78 : decode cX11_more 78 = .ok (.bipush 9, 2) := by decide +kernel
theorem dX11_more_80 : decode cX11_more 80 = .ok (.aload_n 0, 1) := by decide +kernel
theorem dX11_more_81 : decode cX11_more 81 = .ok (.getfield 12, 3) := by decide +kernel
theorem dX11_more_84 : decode cX11_more 84 = .ok (.getfield 108, 3) := by decide +kernel
theorem dX11_more_87 : decode cX11_more 87 = .ok (.aload_n 3, 1) := by decide +kernel
theorem dX11_more_88 : decode cX11_more 88 = .ok (.getfield 105, 3) := by decide +kernel
theorem dX11_more_91 : decode cX11_more 91 = .ok (.iaload, 1) := by decide +kernel
theorem dX11_more_92 : decode cX11_more 92 = .ok (.iconst 1, 1) := by decide +kernel
theorem dX11_more_93 : decode cX11_more 93 = .ok (.iadd, 1) := by decide +kernel
theorem dX11_more_94 : decode cX11_more 94 = .ok (.invokestatic 183, 3) := by decide +kernel
theorem dX11_more_97 : decode cX11_more 97 = .ok (.iastore, 1) := by decide +kernel
theorem dX11_more_98 : decode cX11_more 98 = .ok (.goto 16, 3) := by decide +kernel
theorem dX11_more_101 : decode cX11_more 101 = .ok (.aload_n 0, 1) := by decide +kernel
theorem dX11_more_102 : decode cX11_more 102 = .ok (.getfield 21, 3) := by decide +kernel
theorem dX11_more_105 : decode cX11_more 105 = .ok (.getfield 111, 3) := by decide +kernel
theorem dX11_more_108 : decode cX11_more 108 = .ok (.aload_n 3, 1) := by decide +kernel
theorem dX11_more_109 : decode cX11_more 109 = .ok (.getfield 105, 3) := by decide +kernel
theorem dX11_more_112 : decode cX11_more 112 = .ok (.iconst 0, 1) := by decide +kernel
theorem dX11_more_113 : decode cX11_more 113 = .ok (.iastore, 1) := by decide +kernel
theorem dX11_more_114 : decode cX11_more 114 = .ok (.aload_n 0, 1) := by decide +kernel
theorem dX11_more_115 : decode cX11_more 115 = .ok (.getfield 21, 3) := by decide +kernel
theorem dX11_more_118 : decode cX11_more 118 = .ok (.aload_n 3, 1) := by decide +kernel
theorem dX11_more_119 : decode cX11_more 119 = .ok (.invokevirtual 175, 3) := by decide +kernel
theorem dX11_more_122 : decode cX11_more 122 = .ok (.aload_n 0, 1) := by decide +kernel
theorem dX11_more_123 : decode cX11_more 123 = .ok (.getfield 12, 3) := by decide +kernel
theorem dX11_more_126 : decode cX11_more 126 = .ok (.aload_n 3, 1) := by decide +kernel
theorem dX11_more_127 : decode cX11_more 127 = .ok (.invokevirtual 175, 3) := by decide +kernel
theorem dX11_more_130 : decode cX11_more 130 = .ok (.isub, 1) := by decide +kernel
theorem dX11_more_131 : decode cX11_more 131 = .ok (.ireturn, 1) := by decide +kernel
theorem dX11_safe_0 : decode cX11_safe 0 = .ok (.aload_n 0, 1) := by decide +kernel
theorem dX11_safe_1 : decode cX11_safe 1 = .ok (.iload_n 1, 1) := by decide +kernel
theorem dX11_safe_2 : decode cX11_safe 2 = .ok (.invokevirtual 83, 3) := by decide +kernel
theorem dX11_safe_5 : decode cX11_safe 5 = .ok (.astore_n 3, 1) := by decide +kernel
theorem dX11_safe_6 : decode cX11_safe 6 = .ok (.aload_n 3, 1) := by decide +kernel
theorem dX11_safe_7 : decode cX11_safe 7 = .ok (.ifnonnull 5, 3) := by decide +kernel
theorem dX11_safe_10 : decode cX11_safe 10 = .ok (.iconst (-1), 1) := by decide +kernel
theorem dX11_safe_11 : decode cX11_safe 11 = .ok (.ireturn, 1) := by decide +kernel
theorem dX11_safe_12 : decode cX11_safe 12 = .ok (.iload_n 2, 1) := by decide +kernel
theorem dX11_safe_13 : decode cX11_safe 13 = .ok (.bipush 101, 2) := by decide +kernel
theorem dX11_safe_15 : decode cX11_safe 15 = .ok (.invokestatic 67, 3) := by decide +kernel
theorem dX11_safe_18 : decode cX11_safe 18 = .ok (.ifCond .ne 6, 3) := by decide +kernel
theorem dX11_safe_21 : decode cX11_safe 21 = .ok (.bipush (-2), 2) := by decide +kernel
theorem dX11_safe_23 : decode cX11_safe 23 = .ok (.ireturn, 1) := by decide +kernel
theorem dX11_safe_24 : decode cX11_safe 24 = .ok (.bipush 9, 2) := by decide +kernel
theorem dX11_safe_26 : decode cX11_safe 26 = .ok (.istore 4, 2) := by decide +kernel
theorem dX11_safe_28 : decode cX11_safe 28 = .ok (.iload 4, 2) := by decide +kernel
theorem dX11_safe_30 : decode cX11_safe 30 = .ok (.ifCond .lt 26, 3) := by decide +kernel
theorem dX11_safe_33 : decode cX11_safe 33 = .ok (.aload_n 0, 1) := by decide +kernel
theorem dX11_safe_34 : decode cX11_safe 34 = .ok (.getfield 12, 3) := by decide +kernel
theorem dX11_safe_37 : decode cX11_safe 37 = .ok (.aload_n 3, 1) := by decide +kernel
theorem dX11_safe_38 : decode cX11_safe 38 = .ok (.iload 4, 2) := by decide +kernel
theorem dX11_safe_40 : decode cX11_safe 40 = .ok (.invokevirtual 87, 3) := by decide +kernel
theorem dX11_safe_43 : decode cX11_safe 43 = .ok (.iload_n 2, 1) := by decide +kernel
theorem dX11_safe_44 : decode cX11_safe 44 = .ok (.if_icmp .lt 6, 3) := by decide +kernel
theorem dX11_safe_47 : decode cX11_safe 47 = .ok (.iload 4, 2) := by decide +kernel
theorem dX11_safe_49 : decode cX11_safe 49 = .ok (.ireturn, 1) := by decide +kernel
theorem dX11_safe_50 : decode cX11_safe 50 = .ok (.iinc 4 (-1), 3) := by decide +kernel
theorem dX11_safe_53 : decode cX11_safe 53 = .ok (.goto (-25), 3) := by decide +kernel
theorem dX11_safe_56 : decode cX11_safe 56 = .ok (.bipush (-5), 2) := by decide +kernel
theorem dX11_safe_58 : decode cX11_safe 58 = .ok (.ireturn, 1) := by decide +kernel
theorem dX11_stand_0 : decode cX11_stand 0 = .ok (.aload_n 0, 1) := by decide +kernel
theorem dX11_stand_1 : decode cX11_stand 1 = .ok (.iload_n 1, 1) := by decide +kernel
theorem dX11_stand_2 : decode cX11_stand 2 = .ok (.invokevirtual 83, 3) := by decide +kernel
theorem dX11_stand_5 : decode cX11_stand 5 = .ok (.astore_n 3, 1) := by decide +kernel
theorem dX11_stand_6 : decode cX11_stand 6 = .ok (.aload_n 3, 1) := by decide +kernel
theorem dX11_stand_7 : decode cX11_stand 7 = .ok (.ifnull 11, 3) := by decide +kernel
theorem dX11_stand_10 : decode cX11_stand 10 = .ok (.iload_n 2, 1) := by decide +kernel
theorem dX11_stand_11 : decode cX11_stand 11 = .ok (.iconst 2, 1) := by decide +kernel
theorem dX11_stand_12 : decode cX11_stand 12 = .ok (.invokestatic 67, 3) := by decide +kernel
theorem dX11_stand_15 : decode cX11_stand 15 = .ok (.ifCond .ne 5, 3) := by decide +kernel
theorem dX11_stand_18 : decode cX11_stand 18 = .ok (.iconst (-1), 1) := by decide +kernel
theorem dX11_stand_19 : decode cX11_stand 19 = .ok (.ireturn, 1) := by decide +kernel
theorem dX11_stand_20 : decode cX11_stand 20 = .ok (.aload_n 0, 1) := by decide +kernel
theorem dX11_stand_21 : decode cX11_stand 21 = .ok (.aload_n 3, 1) := by decide +kernel
theorem dX11_stand_22 : decode cX11_stand 22 = .ok (.iconst 0, 1) := by decide +kernel
theorem dX11_stand_23 : decode cX11_stand 23 = .ok (.invokevirtual 189, 3) := by decide +kernel
theorem dX11_stand_26 : decode cX11_stand 26 = .ok (.istore 4, 2) := by decide +kernel
theorem dX11_stand_28 : decode cX11_stand 28 = .ok (.iconst 0, 1) := by decide +kernel
theorem dX11_stand_29 : decode cX11_stand 29 = .ok (.istore 5, 2) := by decide +kernel
theorem dX11_stand_31 : decode cX11_stand 31 = .ok (.iconst 1, 1) := by decide +kernel
theorem dX11_stand_32 : decode cX11_stand 32 = .ok (.istore 6, 2) := by decide +kernel
theorem dX11_stand_34 : decode cX11_stand 34 = .ok (.iload 6, 2) := by decide +kernel
theorem dX11_stand_36 : decode cX11_stand 36 = .ok (.iconst 3, 1) := by decide +kernel
theorem dX11_stand_37 : decode cX11_stand 37 = .ok (.if_icmp .ge 33, 3) := by decide +kernel
theorem dX11_stand_40 : decode cX11_stand 40 = .ok (.aload_n 0, 1) := by decide +kernel
theorem dX11_stand_41 : decode cX11_stand 41 = .ok (.aload_n 3, 1) := by decide +kernel
theorem dX11_stand_42 : decode cX11_stand 42 = .ok (.iload 6, 2) := by decide +kernel
theorem dX11_stand_44 : decode cX11_stand 44 = .ok (.invokevirtual 189, 3) := by decide +kernel
theorem dX11_stand_47 : decode cX11_stand 47 = .ok (.istore 7, 2) := by decide +kernel
theorem dX11_stand_49 : decode cX11_stand 49 = .ok (.iload 7, 2) := by decide +kernel
theorem dX11_stand_51 : decode cX11_stand 51 = .ok (.iload 4, 2) := by decide +kernel
theorem dX11_stand_53 : decode cX11_stand 53 = .ok (.if_icmp .ge 11, 3) := by decide +kernel
theorem dX11_stand_56 : decode cX11_stand 56 = .ok (.iload 7, 2) := by decide +kernel
theorem dX11_stand_58 : decode cX11_stand 58 = .ok (.istore 4, 2) := by decide +kernel
theorem dX11_stand_60 : decode cX11_stand 60 = .ok (.iload 6, 2) := by decide +kernel
theorem dX11_stand_62 : decode cX11_stand 62 = .ok (.istore 5, 2) := by decide +kernel
theorem dX11_stand_64 : decode cX11_stand 64 = .ok (.iinc 6 1, 3) := by decide +kernel
