theorem dX12_narrow_54 : decode cX12_narrow 54 = .ok (.lreturn, 1) := by decide +kernel
theorem dX12_item_0 : decode cX12_item 0 = .ok (.aload_n 0, 1) := by decide +kernel
theorem dX12_item_1 : decode cX12_item 1 = .ok (.iload_n 1, 1) := by decide +kernel
theorem dX12_item_2 : decode cX12_item 2 = .ok (.invokevirtual 339, 3) := by decide +kernel
theorem dX12_item_5 : decode cX12_item 5 = .ok (.ifCond .ne 5, 3) := by decide +kernel
theorem dX12_item_8 : decode cX12_item 8 = .ok (.iconst (-1), 1) := by decide +kernel
theorem dX12_item_9 : decode cX12_item 9 = .ok (.ireturn, 1) := by decide +kernel
theorem dX12_item_10 : decode cX12_item 10 = .ok (.aload_n 0, 1) := by decide +kernel
theorem dX12_item_11 : decode cX12_item 11 = .ok (.getfield 190, 3) := by decide +kernel
theorem dX12_item_14 : decode cX12_item 14 = .ok (.iload_n 1, 1) := by decide +kernel
theorem dX12_item_15 : decode cX12_item 15 = .ok (.iaload, 1) := by decide +kernel
theorem dX12_item_16 : decode cX12_item 16 = .ok (.ifCond .ge 6, 3) := by decide +kernel
theorem dX12_item_19 : decode cX12_item 19 = .ok (.bipush (-11), 2) := by decide +kernel
theorem dX12_item_21 : decode cX12_item 21 = .ok (.ireturn, 1) := by decide +kernel
theorem dX12_item_22 : decode cX12_item 22 = .ok (.aload_n 0, 1) := by decide +kernel
theorem dX12_item_23 : decode cX12_item 23 = .ok (.iload_n 2, 1) := by decide +kernel
theorem dX12_item_24 : decode cX12_item 24 = .ok (.iconst 0, 1) := by decide +kernel
theorem dX12_item_25 : decode cX12_item 25 = .ok (.aload_n 0, 1) := by decide +kernel
theorem dX12_item_26 : decode cX12_item 26 = .ok (.getfield 193, 3) := by decide +kernel
theorem dX12_item_29 : decode cX12_item 29 = .ok (.iload_n 1, 1) := by decide +kernel
theorem dX12_item_30 : decode cX12_item 30 = .ok (.iaload, 1) := by decide +kernel
theorem dX12_item_31 : decode cX12_item 31 = .ok (.iconst 1, 1) := by decide +kernel
theorem dX12_item_32 : decode cX12_item 32 = .ok (.isub, 1) := by decide +kernel
theorem dX12_item_33 : decode cX12_item 33 = .ok (.invokevirtual 203, 3) := by decide +kernel
theorem dX12_item_36 : decode cX12_item 36 = .ok (.ifCond .ne 6, 3) := by decide +kernel
theorem dX12_item_39 : decode cX12_item 39 = .ok (.bipush (-13), 2) := by decide +kernel
theorem dX12_item_41 : decode cX12_item 41 = .ok (.ireturn, 1) := by decide +kernel
theorem dX12_item_42 : decode cX12_item 42 = .ok (.aload_n 0, 1) := by decide +kernel
theorem dX12_item_43 : decode cX12_item 43 = .ok (.getfield 196, 3) := by decide +kernel
theorem dX12_item_46 : decode cX12_item 46 = .ok (.bipush 60, 2) := by decide +kernel
theorem dX12_item_48 : decode cX12_item 48 = .ok (.iload_n 1, 1) := by decide +kernel
theorem dX12_item_49 : decode cX12_item 49 = .ok (.imul, 1) := by decide +kernel
theorem dX12_item_50 : decode cX12_item 50 = .ok (.iload_n 2, 1) := by decide +kernel
theorem dX12_item_51 : decode cX12_item 51 = .ok (.iadd, 1) := by decide +kernel
theorem dX12_item_52 : decode cX12_item 52 = .ok (.aload_n 0, 1) := by decide +kernel
theorem dX12_item_53 : decode cX12_item 53 = .ok (.aload_n 0, 1) := by decide +kernel
theorem dX12_item_54 : decode cX12_item 54 = .ok (.getfield 190, 3) := by decide +kernel
theorem dX12_item_57 : decode cX12_item 57 = .ok (.iload_n 1, 1) := by decide +kernel
theorem dX12_item_58 : decode cX12_item 58 = .ok (.iaload, 1) := by decide +kernel
theorem dX12_item_59 : decode cX12_item 59 = .ok (.lload_n 3, 1) := by decide +kernel
theorem dX12_item_60 : decode cX12_item 60 = .ok (.invokevirtual 366, 3) := by decide +kernel
theorem dX12_item_63 : decode cX12_item 63 = .ok (.lastore, 1) := by decide +kernel
theorem dX12_item_64 : decode cX12_item 64 = .ok (.iconst 1, 1) := by decide +kernel
theorem dX12_item_65 : decode cX12_item 65 = .ok (.ireturn, 1) := by decide +kernel
theorem dX12_read_0 : decode cX12_read 0 = .ok (.aload_n 0, 1) := by decide +kernel
theorem dX12_read_1 : decode cX12_read 1 = .ok (.iload_n 1, 1) := by decide +kernel
theorem dX12_read_2 : decode cX12_read 2 = .ok (.invokevirtual 339, 3) := by decide +kernel
theorem dX12_read_5 : decode cX12_read 5 = .ok (.ifCond .eq 29, 3) := by decide +kernel
theorem dX12_read_8 : decode cX12_read 8 = .ok (.aload_n 0, 1) := by decide +kernel
theorem dX12_read_9 : decode cX12_read 9 = .ok (.getfield 190, 3) := by decide +kernel
theorem dX12_read_12 : decode cX12_read 12 = .ok (.iload_n 1, 1) := by decide +kernel
theorem dX12_read_13 : decode cX12_read 13 = .ok (.iaload, 1) := by decide +kernel
theorem dX12_read_14 : decode cX12_read 14 = .ok (.ifCond .lt 20, 3) := by decide +kernel
theorem dX12_read_17 : decode cX12_read 17 = .ok (.aload_n 0, 1) := by decide +kernel
theorem dX12_read_18 : decode cX12_read 18 = .ok (.iload_n 2, 1) := by decide +kernel
theorem dX12_read_19 : decode cX12_read 19 = .ok (.iconst 0, 1) := by decide +kernel
theorem dX12_read_20 : decode cX12_read 20 = .ok (.aload_n 0, 1) := by decide +kernel
theorem dX12_read_21 : decode cX12_read 21 = .ok (.getfield 193, 3) := by decide +kernel
theorem dX12_read_24 : decode cX12_read 24 = .ok (.iload_n 1, 1) := by decide +kernel
theorem dX12_read_25 : decode cX12_read 25 = .ok (.iaload, 1) := by decide +kernel
theorem dX12_read_26 : decode cX12_read 26 = .ok (.iconst 1, 1) := by decide +kernel
theorem dX12_read_27 : decode cX12_read 27 = .ok (.isub, 1) := by decide +kernel
theorem dX12_read_28 : decode cX12_read 28 = .ok (.invokevirtual 203, 3) := by decide +kernel
theorem dX12_read_31 : decode cX12_read 31 = .ok (.ifCond .ne 9, 3) := by decide +kernel
theorem dX12_read_34 : decode cX12_read 34 = .ok (.ldc2_w 332, 3) := by decide +kernel
theorem dX12_read_37 : decode cX12_read 37 = .ok (.goto 14, 3) := by decide +kernel
theorem dX12_read_40 : decode cX12_read 40 = .ok (.aload_n 0, 1) := by decide +kernel
theorem dX12_read_41 : decode cX12_read 41 = .ok (.getfield 196, 3) := by decide +kernel
theorem dX12_read_44 : decode cX12_read 44 = .ok (.bipush 60, 2) := by decide +kernel
theorem dX12_read_46 : decode cX12_read 46 = .ok (.iload_n 1, 1) := by decide +kernel
theorem dX12_read_47 : decode cX12_read 47 = .ok (.imul, 1) := by decide +kernel
theorem dX12_read_48 : decode cX12_read 48 = .ok (.iload_n 2, 1) := by decide +kernel
theorem dX12_read_49 : decode cX12_read 49 = .ok (.iadd, 1) := by decide +kernel
theorem dX12_read_50 : decode cX12_read 50 = .ok (.laload, 1) := by decide +kernel
theorem dX12_read_51 : decode cX12_read 51 = .ok (.lreturn, 1) := by decide +kernel
theorem dX12_shift_0 : decode cX12_shift 0 = .ok (.aload_n 0, 1) := by decide +kernel
theorem dX12_shift_1 : decode cX12_shift 1 = .ok (.iload_n 1, 1) := by decide +kernel
theorem dX12_shift_2 : decode cX12_shift 2 = .ok (.invokevirtual 339, 3) := by decide +kernel
theorem dX12_shift_5 : decode cX12_shift 5 = .ok (.ifCond .eq 11, 3) := by decide +kernel
theorem dX12_shift_8 : decode cX12_shift 8 = .ok (.aload_n 0, 1) := by decide +kernel
theorem dX12_shift_9 : decode cX12_shift 9 = .ok (.iload_n 3, 1) := by decide +kernel
theorem dX12_shift_10 : decode cX12_shift 10 = .ok (.invokevirtual 339, 3) := by decide +kernel
theorem dX12_shift_13 : decode cX12_shift 13 = .ok (.ifCond .ne 5, 3) := by decide +kernel
theorem dX12_shift_16 : decode cX12_shift 16 = .ok (.iconst (-1), 1) := by decide +kernel
theorem dX12_shift_17 : decode cX12_shift 17 = .ok (.ireturn, 1) := by decide +kernel
theorem dX12_shift_18 : decode cX12_shift 18 = .ok (.aload_n 0, 1) := by decide +kernel
theorem dX12_shift_19 : decode cX12_shift 19 = .ok (.getfield 190, 3) := by decide +kernel
theorem dX12_shift_22 : decode cX12_shift 22 = .ok (.iload_n 1, 1) := by decide +kernel
theorem dX12_shift_23 : decode cX12_shift 23 = .ok (.iaload, 1) := by decide +kernel
theorem dX12_shift_24 : decode cX12_shift 24 = .ok (.ifCond .lt 12, 3) := by decide +kernel
theorem dX12_shift_27 : decode cX12_shift 27 = .ok (.aload_n 0, 1) := by decide +kernel
theorem dX12_shift_28 : decode cX12_shift 28 = .ok (.getfield 190, 3) := by decide +kernel
theorem dX12_shift_31 : decode cX12_shift 31 = .ok (.iload_n 3, 1) := by decide +kernel
theorem dX12_shift_32 : decode cX12_shift 32 = .ok (.iaload, 1) := by decide +kernel
theorem dX12_shift_33 : decode cX12_shift 33 = .ok (.ifCond .ge 6, 3) := by decide +kernel
theorem dX12_shift_36 : decode cX12_shift 36 = .ok (.bipush (-11), 2) := by decide +kernel
theorem dX12_shift_38 : decode cX12_shift 38 = .ok (.ireturn, 1) := by decide +kernel
theorem dX12_shift_39 : decode cX12_shift 39 = .ok (.aload_n 0, 1) := by decide +kernel
theorem dX12_shift_40 : decode cX12_shift 40 = .ok (.getfield 190, 3) := by decide +kernel
theorem dX12_shift_43 : decode cX12_shift 43 = .ok (.iload_n 1, 1) := by decide +kernel
theorem dX12_shift_44 : decode cX12_shift 44 = .ok (.iaload, 1) := by decide +kernel
theorem dX12_shift_45 : decode cX12_shift 45 = .ok (.aload_n 0, 1) := by decide +kernel
theorem dX12_shift_46 : decode cX12_shift 46 = .ok (.getfield 190, 3) := by decide +kernel
theorem dX12_shift_49 : decode cX12_shift 49 = .ok (.iload_n 3, 1) := by decide +kernel
theorem dX12_shift_50 : decode cX12_shift 50 = .ok (.iaload, 1) := by decide +kernel
theorem dX12_shift_51 : decode cX12_shift 51 = .ok (.if_icmp .eq 6, 3) := by decide +kernel
theorem dX12_shift_54 : decode cX12_shift 54 = .ok (.bipush (-12), 2) := by decide +kernel
theorem dX12_shift_56 : decode cX12_shift 56 = .ok (.ireturn, 1) := by decide +kernel
theorem dX12_shift_57 : decode cX12_shift 57 = .ok (.iload 5, 2) := by decide +kernel
theorem dX12_shift_59 : decode cX12_shift 59 = .ok (.ifCond .lt 39, 3) := by decide +kernel
theorem dX12_shift_62 : decode cX12_shift 62 = .ok (.iload_n 2, 1) := by decide +kernel
theorem dX12_shift_63 : decode cX12_shift 63 = .ok (.ifCond .lt 35, 3) := by decide +kernel
theorem dX12_shift_66 : decode cX12_shift 66 = .ok (.iload 4, 2) := by decide +kernel
theorem dX12_shift_68 : decode cX12_shift 68 = .ok (.ifCond .lt 30, 3) := by decide +kernel
theorem dX12_shift_71 : decode cX12_shift 71 = .ok (.iload_n 2, 1) := by decide +kernel
theorem dX12_shift_72 : decode cX12_shift 72 = .ok (.aload_n 0, 1) := by decide +kernel
theorem dX12_shift_73 : decode cX12_shift 73 = .ok (.getfield 193, 3) := by decide +kernel
theorem dX12_shift_76 : decode cX12_shift 76 = .ok (.iload_n 1, 1) := by decide +kernel
theorem dX12_shift_77 : decode cX12_shift 77 = .ok (.iaload, 1) := by decide +kernel
theorem dX12_shift_78 : decode cX12_shift 78 = .ok (.iload 5, 2) := by decide +kernel
theorem dX12_shift_80 : decode cX12_shift 80 = .ok (.isub, 1) := by decide +kernel
theorem dX12_shift_81 : decode cX12_shift 81 = .ok (.if_icmp .gt 17, 3) := by decide +kernel
theorem dX12_shift_84 : decode cX12_shift 84 = .ok (.iload 4, 2) := by decide +kernel
theorem dX12_shift_86 : decode cX12_shift 86 = .ok (.aload_n 0, 1) := by decide +kernel
theorem dX12_shift_87 : decode cX12_shift 87 = .ok (.getfield 193, 3) := by decide +kernel
theorem dX12_shift_90 : decode cX12_shift 90 = .ok (.iload_n 3, 1) := by decide +kernel
theorem dX12_shift_91 : decode cX12_shift 91 = .ok (.iaload, 1) := by decide +kernel
theorem dX12_shift_92 : decode cX12_shift 92 = .ok (.iload 5, 2) := by decide +kernel
theorem dX12_shift_94 : decode cX12_shift 94 = .ok (.isub, 1) := by decide +kernel
theorem dX12_shift_95 : decode cX12_shift 95 = .ok (.if_icmp .le 6, 3) := by decide +kernel
theorem dX12_shift_98 : decode cX12_shift 98 = .ok (.bipush (-13), 2) := by decide +kernel
theorem dX12_shift_100 : decode cX12_shift 100 = .ok (.ireturn, 1) := by decide +kernel
theorem dX12_shift_101 : decode cX12_shift 101 = .ok (.iconst 0, 1) := by decide +kernel
theorem dX12_shift_102 : decode cX12_shift 102 = .ok (.istore 6, 2) := by decide +kernel
theorem dX12_shift_104 : decode cX12_shift 104 = .ok (.iload 6, 2) := by decide +kernel
theorem dX12_shift_106 : decode cX12_shift 106 = .ok (.iload 5, 2) := by decide +kernel
theorem dX12_shift_108 : decode cX12_shift 108 = .ok (.if_icmp .ge 30, 3) := by decide +kernel
theorem dX12_shift_111 : decode cX12_shift 111 = .ok (.aload_n 0, 1) := by decide +kernel
theorem dX12_shift_112 : decode cX12_shift 112 = .ok (.getfield 200, 3) := by decide +kernel
theorem dX12_shift_115 : decode cX12_shift 115 = .ok (.iload 6, 2) := by decide +kernel
theorem dX12_shift_117 : decode cX12_shift 117 = .ok (.aload_n 0, 1) := by decide +kernel
theorem dX12_shift_118 : decode cX12_shift 118 = .ok (.getfield 196, 3) := by decide +kernel
theorem dX12_shift_121 : decode cX12_shift 121 = .ok (.bipush 60, 2) := by decide +kernel
theorem dX12_shift_123 : decode cX12_shift 123 = .ok (.iload_n 1, 1) := by decide +kernel
theorem dX12_shift_124 : decode cX12_shift 124 = .ok (.imul, 1) := by decide +kernel
theorem dX12_shift_125 : decode cX12_shift 125 = .ok (.iload_n 2, 1) := by decide +kernel
theorem dX12_shift_126 : decode cX12_shift 126 = .ok (.iadd, 1) := by decide +kernel
theorem dX12_shift_127 : decode cX12_shift 127 = .ok (.iload 6, 2) := by decide +kernel
theorem dX12_shift_129 : decode cX12_shift 129 = .ok (.iadd, 1) := by decide +kernel
theorem dX12_shift_130 : decode cX12_shift 130 = .ok (.laload, 1) := by decide +kernel
theorem dX12_shift_131 : decode cX12_shift 131 = .ok (.lastore, 1) := by decide +kernel
theorem dX12_shift_132 : decode cX12_shift 132 = .ok (.iinc 6 1, 3) := by decide +kernel
theorem dX12_shift_135 : decode cX12_shift 135 = .ok (.goto (-31), 3) := by decide +kernel
theorem dX12_shift_138 : decode cX12_shift 138 = .ok (.iconst 0, 1) := by decide +kernel
theorem dX12_shift_139 : decode cX12_shift 139 = .ok (.istore 6, 2) := by decide +kernel
theorem dX12_shift_141 : decode cX12_shift 141 = .ok (.iload 6, 2) := by decide +kernel
theorem dX12_shift_143 : decode cX12_shift 143 = .ok (.iload 5, 2) := by decide +kernel
theorem dX12_shift_145 : decode cX12_shift 145 = .ok (.if_icmp .ge 31, 3) := by decide +kernel
theorem dX12_shift_148 : decode cX12_shift 148 = .ok (.aload_n 0, 1) := by decide +kernel
theorem dX12_shift_149 : decode cX12_shift 149 = .ok (.getfield 196, 3) := by decide +kernel
theorem dX12_shift_152 : decode cX12_shift 152 = .ok (.bipush 60, 2) := by decide +kernel
theorem dX12_shift_154 : decode cX12_shift 154 = .ok (.iload_n 3, 1) := by decide +kernel
theorem dX12_shift_155 : decode cX12_shift 155 = .ok (.imul, 1) := by decide +kernel
theorem dX12_shift_156 : decode cX12_shift 156 = .ok (.iload 4, 2) := by decide +kernel
theorem dX12_shift_158 : decode cX12_shift 158 = .ok (.iadd, 1) := by decide +kernel
theorem dX12_shift_159 : decode cX12_shift 159 = .ok (.iload 6, 2) := by decide +kernel
theorem dX12_shift_161 : decode cX12_shift 161 = .ok (.iadd, 1) := by decide +kernel
theorem dX12_shift_162 : decode cX12_shift 162 = .ok (.aload_n 0, 1) := by decide +kernel
theorem dX12_shift_163 : decode cX12_shift 163 = .ok (.getfield 200, 3) := by decide +kernel
theorem dX12_shift_166 : decode cX12_shift 166 = .ok (.iload 6, 2) := by decide +kernel
theorem dX12_shift_168 : decode cX12_shift 168 = .ok (.laload, 1) := by decide +kernel
theorem dX12_shift_169 : decode cX12_shift 169 = .ok (.lastore, 1) := by decide +kernel
theorem dX12_shift_170 : decode cX12_shift 170 = .ok (.iinc 6 1, 3) := by decide +kernel
theorem dX12_shift_173 : decode cX12_shift 173 = .ok (.goto (-32), 3) := by decide +kernel
theorem dX12_shift_176 : decode cX12_shift 176 = .ok (.iload 5, 2) := by decide +kernel
theorem dX12_shift_178 : decode cX12_shift 178 = .ok (.ireturn, 1) := by decide +kernel
