theorem dX0_init_0 : decode cX0_init 0 = .ok (.aload_n 0, 1) := by decide +kernel
theorem dX0_init_1 : decode cX0_init 1 = .ok (.invokespecial 3, 3) := by decide +kernel
theorem dX0_init_4 : decode cX0_init 4 = .ok (.aload_n 0, 1) := by decide +kernel
theorem dX0_init_5 : decode cX0_init 5 = .ok (.bipush 100, 2) := by decide +kernel
theorem dX0_init_7 : decode cX0_init 7 = .ok (.newarray .int, 2) := by decide +kernel
theorem dX0_init_9 : decode cX0_init 9 = .ok (.putfield 9, 3) := by decide +kernel
theorem dX0_init_12 : decode cX0_init 12 = .ok (.aload_n 0, 1) := by decide +kernel
theorem dX0_init_13 : decode cX0_init 13 = .ok (.bipush 10, 2) := by decide +kernel
theorem dX0_init_15 : decode cX0_init 15 = .ok (.newarray .int, 2) := by decide +kernel
theorem dX0_init_17 : decode cX0_init 17 = .ok (.putfield 15, 3) := by decide +kernel
theorem dX0_init_20 : decode cX0_init 20 = .ok (.aload_n 0, 1) := by decide +kernel
theorem dX0_init_21 : decode cX0_init 21 = .ok (.bipush 10, 2) := by decide +kernel
theorem dX0_init_23 : decode cX0_init 23 = .ok (.newarray .int, 2) := by decide +kernel
theorem dX0_init_25 : decode cX0_init 25 = .ok (.putfield 18, 3) := by decide +kernel
theorem dX0_init_28 : decode cX0_init 28 = .ok (.aload_n 0, 1) := by decide +kernel
theorem dX0_init_29 : decode cX0_init 29 = .ok (.bipush 10, 2) := by decide +kernel
theorem dX0_init_31 : decode cX0_init 31 = .ok (.newarray .int, 2) := by decide +kernel
theorem dX0_init_33 : decode cX0_init 33 = .ok (.putfield 21, 3) := by decide +kernel
theorem dX0_init_36 : decode cX0_init 36 = .ok (.return_, 1) := by decide +kernel
theorem dX0_testOf_0 : decode cX0_testOf 0 = .ok (.iload_n 0, 1) := by decide +kernel
theorem dX0_testOf_1 : decode cX0_testOf 1 = .ok (.iconst 3, 1) := by decide +kernel
theorem dX0_testOf_2 : decode cX0_testOf 2 = .ok (.imul, 1) := by decide +kernel
theorem dX0_testOf_3 : decode cX0_testOf 3 = .ok (.iload_n 1, 1) := by decide +kernel
theorem dX0_testOf_4 : decode cX0_testOf 4 = .ok (.iadd, 1) := by decide +kernel
theorem dX0_testOf_5 : decode cX0_testOf 5 = .ok (.bipush 100, 2) := by decide +kernel
theorem dX0_testOf_7 : decode cX0_testOf 7 = .ok (.imul, 1) := by decide +kernel
theorem dX0_testOf_8 : decode cX0_testOf 8 = .ok (.iload_n 2, 1) := by decide +kernel
theorem dX0_testOf_9 : decode cX0_testOf 9 = .ok (.iadd, 1) := by decide +kernel
theorem dX0_testOf_10 : decode cX0_testOf 10 = .ok (.ireturn, 1) := by decide +kernel
theorem dX0_clear_0 : decode cX0_clear 0 = .ok (.aload_n 0, 1) := by decide +kernel
theorem dX0_clear_1 : decode cX0_clear 1 = .ok (.iconst 0, 1) := by decide +kernel
theorem dX0_clear_2 : decode cX0_clear 2 = .ok (.putfield 24, 3) := by decide +kernel
theorem dX0_clear_5 : decode cX0_clear 5 = .ok (.aload_n 0, 1) := by decide +kernel
theorem dX0_clear_6 : decode cX0_clear 6 = .ok (.iconst 0, 1) := by decide +kernel
theorem dX0_clear_7 : decode cX0_clear 7 = .ok (.putfield 28, 3) := by decide +kernel
theorem dX0_clear_10 : decode cX0_clear 10 = .ok (.return_, 1) := by decide +kernel
theorem dX0_add_0 : decode cX0_add 0 = .ok (.aload_n 0, 1) := by decide +kernel
theorem dX0_add_1 : decode cX0_add 1 = .ok (.getfield 24, 3) := by decide +kernel
theorem dX0_add_4 : decode cX0_add 4 = .ok (.bipush 100, 2) := by decide +kernel
theorem dX0_add_6 : decode cX0_add 6 = .ok (.if_icmp .ge 23, 3) := by decide +kernel
theorem dX0_add_9 : decode cX0_add 9 = .ok (.aload_n 0, 1) := by decide +kernel
theorem dX0_add_10 : decode cX0_add 10 = .ok (.getfield 9, 3) := by decide +kernel
theorem dX0_add_13 : decode cX0_add 13 = .ok (.aload_n 0, 1) := by decide +kernel
theorem dX0_add_14 : decode cX0_add 14 = .ok (.getfield 24, 3) := by decide +kernel
theorem dX0_add_17 : decode cX0_add 17 = .ok (.iload_n 1, 1) := by decide +kernel
theorem dX0_add_18 : decode cX0_add 18 = .ok (.iastore, 1) := by decide +kernel
theorem dX0_add_19 : decode cX0_add 19 = .ok (.aload_n 0, 1) := by decide +kernel
theorem dX0_add_20 : decode cX0_add 20 = .ok (.dup, 1) := by decide +kernel
theorem dX0_add_21 : decode cX0_add 21 = .ok (.getfield 24, 3) := by decide +kernel
theorem dX0_add_24 : decode cX0_add 24 = .ok (.iconst 1, 1) := by decide +kernel
theorem dX0_add_25 : decode cX0_add 25 = .ok (.iadd, 1) := by decide +kernel
theorem dX0_add_26 : decode cX0_add 26 = .ok (.putfield 24, 3) := by decide +kernel
theorem dX0_add_29 : decode cX0_add 29 = .ok (.return_, 1) := by decide +kernel
theorem dX0_closeClause_0 : decode cX0_closeClause 0 = .ok (.aload_n 0, 1) := by decide +kernel
theorem dX0_closeClause_1 : decode cX0_closeClause 1 = .ok (.getfield 28, 3) := by decide +kernel
theorem dX0_closeClause_4 : decode cX0_closeClause 4 = .ok (.bipush 10, 2) := by decide +kernel
theorem dX0_closeClause_6 : decode cX0_closeClause 6 = .ok (.if_icmp .ge 46, 3) := by decide +kernel
theorem dX0_closeClause_9 : decode cX0_closeClause 9 = .ok (.aload_n 0, 1) := by decide +kernel
theorem dX0_closeClause_10 : decode cX0_closeClause 10 = .ok (.getfield 15, 3) := by decide +kernel
theorem dX0_closeClause_13 : decode cX0_closeClause 13 = .ok (.aload_n 0, 1) := by decide +kernel
theorem dX0_closeClause_14 : decode cX0_closeClause 14 = .ok (.getfield 28, 3) := by decide +kernel
theorem dX0_closeClause_17 : decode cX0_closeClause 17 = .ok (.iload_n 1, 1) := by decide +kernel
theorem dX0_closeClause_18 : decode cX0_closeClause 18 = .ok (.iastore, 1) := by decide +kernel
theorem dX0_closeClause_19 : decode cX0_closeClause 19 = .ok (.aload_n 0, 1) := by decide +kernel
theorem dX0_closeClause_20 : decode cX0_closeClause 20 = .ok (.getfield 18, 3) := by decide +kernel
theorem dX0_closeClause_23 : decode cX0_closeClause 23 = .ok (.aload_n 0, 1) := by decide +kernel
theorem dX0_closeClause_24 : decode cX0_closeClause 24 = .ok (.getfield 28, 3) := by decide +kernel
theorem dX0_closeClause_27 : decode cX0_closeClause 27 = .ok (.iload_n 2, 1) := by decide +kernel
theorem dX0_closeClause_28 : decode cX0_closeClause 28 = .ok (.iastore, 1) := by decide +kernel
theorem dX0_closeClause_29 : decode cX0_closeClause 29 = .ok (.aload_n 0, 1) := by decide +kernel
theorem dX0_closeClause_30 : decode cX0_closeClause 30 = .ok (.getfield 21, 3) := by decide +kernel
theorem dX0_closeClause_33 : decode cX0_closeClause 33 = .ok (.aload_n 0, 1) := by decide +kernel
theorem dX0_closeClause_34 : decode cX0_closeClause 34 = .ok (.getfield 28, 3) := by decide +kernel
theorem dX0_closeClause_37 : decode cX0_closeClause 37 = .ok (.aload_n 0, 1) := by decide +kernel
theorem dX0_closeClause_38 : decode cX0_closeClause 38 = .ok (.getfield 24, 3) := by decide +kernel
theorem dX0_closeClause_41 : decode cX0_closeClause 41 = .ok (.iastore, 1) := by decide +kernel
theorem dX0_closeClause_42 : decode cX0_closeClause 42 = .ok (.aload_n 0, 1) := by decide +kernel
theorem dX0_closeClause_43 : decode cX0_closeClause 43 = .ok (.dup, 1) := by decide +kernel
theorem dX0_closeClause_44 : decode cX0_closeClause 44 = .ok (.getfield 28, 3) := by decide +kernel
theorem dX0_closeClause_47 : decode cX0_closeClause 47 = .ok (.iconst 1, 1) := by decide +kernel
theorem dX0_closeClause_48 : decode cX0_closeClause 48 = .ok (.iadd, 1) := by decide +kernel
theorem dX0_closeClause_49 : decode cX0_closeClause 49 = .ok (.putfield 28, 3) := by decide +kernel
theorem dX0_closeClause_52 : decode cX0_closeClause 52 = .ok (.return_, 1) := by decide +kernel
theorem dX0_together_0 : decode cX0_together 0 = .ok (.iconst 0, 1) := by decide +kernel
theorem dX0_together_1 : decode cX0_together 1 = .ok (.istore_n 3, 1) := by decide +kernel
theorem dX0_together_2 : decode cX0_together 2 = .ok (.iconst 0, 1) := by decide +kernel
theorem dX0_together_3 : decode cX0_together 3 = .ok (.istore 4, 2) := by decide +kernel
theorem dX0_together_5 : decode cX0_together 5 = .ok (.iconst 0, 1) := by decide +kernel
theorem dX0_together_6 : decode cX0_together 6 = .ok (.istore 5, 2) := by decide +kernel
theorem dX0_together_8 : decode cX0_together 8 = .ok (.iload 5, 2) := by decide +kernel
theorem dX0_together_10 : decode cX0_together 10 = .ok (.aload_n 0, 1) := by decide +kernel
theorem dX0_together_11 : decode cX0_together 11 = .ok (.getfield 28, 3) := by decide +kernel
theorem dX0_together_14 : decode cX0_together 14 = .ok (.if_icmp .ge 56, 3) := by decide +kernel
theorem dX0_together_17 : decode cX0_together 17 = .ok (.aload_n 0, 1) := by decide +kernel
theorem dX0_together_18 : decode cX0_together 18 = .ok (.getfield 15, 3) := by decide +kernel
theorem dX0_together_21 : decode cX0_together 21 = .ok (.iload 5, 2) := by decide +kernel
theorem dX0_together_23 : decode cX0_together 23 = .ok (.iaload, 1) := by decide +kernel
theorem dX0_together_24 : decode cX0_together 24 = .ok (.iload_n 1, 1) := by decide +kernel
theorem dX0_together_25 : decode cX0_together 25 = .ok (.if_icmp .ne 30, 3) := by decide +kernel
theorem dX0_together_28 : decode cX0_together 28 = .ok (.aload_n 0, 1) := by decide +kernel
theorem dX0_together_29 : decode cX0_together 29 = .ok (.iload 4, 2) := by decide +kernel
theorem dX0_together_31 : decode cX0_together 31 = .ok (.aload_n 0, 1) := by decide +kernel
theorem dX0_together_32 : decode cX0_together 32 = .ok (.getfield 21, 3) := by decide +kernel
theorem dX0_together_35 : decode cX0_together 35 = .ok (.iload 5, 2) := by decide +kernel
theorem dX0_together_37 : decode cX0_together 37 = .ok (.iaload, 1) := by decide +kernel
theorem dX0_together_38 : decode cX0_together 38 = .ok (.aload_n 2, 1) := by decide +kernel
theorem dX0_together_39 : decode cX0_together 39 = .ok (.invokevirtual 31, 3) := by decide +kernel
theorem dX0_together_42 : decode cX0_together 42 = .ok (.ifCond .eq 13, 3) := by decide +kernel
theorem dX0_together_45 : decode cX0_together 45 = .ok (.iload_n 3, 1) := by decide +kernel
theorem dX0_together_46 : decode cX0_together 46 = .ok (.aload_n 0, 1) := by decide +kernel
theorem dX0_together_47 : decode cX0_together 47 = .ok (.getfield 18, 3) := by decide +kernel
theorem dX0_together_50 : decode cX0_together 50 = .ok (.iload 5, 2) := by decide +kernel
theorem dX0_together_52 : decode cX0_together 52 = .ok (.iaload, 1) := by decide +kernel
theorem dX0_together_53 : decode cX0_together 53 = .ok (.iadd, 1) := by decide +kernel
theorem dX0_together_54 : decode cX0_together 54 = .ok (.istore_n 3, 1) := by decide +kernel
theorem dX0_together_55 : decode cX0_together 55 = .ok (.aload_n 0, 1) := by decide +kernel
theorem dX0_together_56 : decode cX0_together 56 = .ok (.getfield 21, 3) := by decide +kernel
theorem dX0_together_59 : decode cX0_together 59 = .ok (.iload 5, 2) := by decide +kernel
theorem dX0_together_61 : decode cX0_together 61 = .ok (.iaload, 1) := by decide +kernel
theorem dX0_together_62 : decode cX0_together 62 = .ok (.istore 4, 2) := by decide +kernel
theorem dX0_together_64 : decode cX0_together 64 = .ok (.iinc 5 1, 3) := by decide +kernel
theorem dX0_together_67 : decode cX0_together 67 = .ok (.goto (-59), 3) := by decide +kernel
theorem dX0_together_70 : decode cX0_together 70 = .ok (.iload_n 3, 1) := by decide +kernel
theorem dX0_together_71 : decode cX0_together 71 = .ok (.ireturn, 1) := by decide +kernel
theorem dX0_holds_0 : decode cX0_holds 0 = .ok (.iconst 0, 1) := by decide +kernel
theorem dX0_holds_1 : decode cX0_holds 1 = .ok (.istore 4, 2) := by decide +kernel
theorem dX0_holds_3 : decode cX0_holds 3 = .ok (.iload_n 1, 1) := by decide +kernel
theorem dX0_holds_4 : decode cX0_holds 4 = .ok (.istore 5, 2) := by decide +kernel
theorem dX0_holds_6 : decode cX0_holds 6 = .ok (.iload 5, 2) := by decide +kernel
theorem dX0_holds_8 : decode cX0_holds 8 = .ok (.iload_n 2, 1) := by decide +kernel
theorem dX0_holds_9 : decode cX0_holds 9 = .ok (.if_icmp .ge 112, 3) := by decide +kernel
theorem dX0_holds_12 : decode cX0_holds 12 = .ok (.iload 4, 2) := by decide +kernel
theorem dX0_holds_14 : decode cX0_holds 14 = .ok (.iconst 1, 1) := by decide +kernel
theorem dX0_holds_15 : decode cX0_holds 15 = .ok (.iand, 1) := by decide +kernel
theorem dX0_holds_16 : decode cX0_holds 16 = .ok (.istore 6, 2) := by decide +kernel
theorem dX0_holds_18 : decode cX0_holds 18 = .ok (.aload_n 0, 1) := by decide +kernel
theorem dX0_holds_19 : decode cX0_holds 19 = .ok (.getfield 9, 3) := by decide +kernel
theorem dX0_holds_22 : decode cX0_holds 22 = .ok (.iload 5, 2) := by decide +kernel
theorem dX0_holds_24 : decode cX0_holds 24 = .ok (.iaload, 1) := by decide +kernel
theorem dX0_holds_25 : decode cX0_holds 25 = .ok (.iconst (-1), 1) := by decide +kernel
theorem dX0_holds_26 : decode cX0_holds 26 = .ok (.if_icmp .ne 12, 3) := by decide +kernel
theorem dX0_holds_29 : decode cX0_holds 29 = .ok (.iload 4, 2) := by decide +kernel
theorem dX0_holds_31 : decode cX0_holds 31 = .ok (.iconst 1, 1) := by decide +kernel
theorem dX0_holds_32 : decode cX0_holds 32 = .ok (.ixor, 1) := by decide +kernel
theorem dX0_holds_33 : decode cX0_holds 33 = .ok (.istore 4, 2) := by decide +kernel
theorem dX0_holds_35 : decode cX0_holds 35 = .ok (.goto 80, 3) := by decide +kernel
theorem dX0_holds_38 : decode cX0_holds 38 = .ok (.aload_n 0, 1) := by decide +kernel
theorem dX0_holds_39 : decode cX0_holds 39 = .ok (.getfield 9, 3) := by decide +kernel
theorem dX0_holds_42 : decode cX0_holds 42 = .ok (.iload 5, 2) := by decide +kernel
theorem dX0_holds_44 : decode cX0_holds 44 = .ok (.iaload, 1) := by decide +kernel
theorem dX0_holds_45 : decode cX0_holds 45 = .ok (.bipush (-2), 2) := by decide +kernel
theorem dX0_holds_47 : decode cX0_holds 47 = .ok (.if_icmp .ne 18, 3) := by decide +kernel
theorem dX0_holds_50 : decode cX0_holds 50 = .ok (.iload 4, 2) := by decide +kernel
theorem dX0_holds_52 : decode cX0_holds 52 = .ok (.iconst 1, 1) := by decide +kernel
theorem dX0_holds_53 : decode cX0_holds 53 = .ok (.ishr, 1) := by decide +kernel
theorem dX0_holds_54 : decode cX0_holds 54 = .ok (.iload 6, 2) := by decide +kernel
theorem dX0_holds_56 : decode cX0_holds 56 = .ok (.bipush (-2), 2) := by decide +kernel
theorem dX0_holds_58 : decode cX0_holds 58 = .ok (.ior, 1) := by decide +kernel
theorem dX0_holds_59 : decode cX0_holds 59 = .ok (.iand, 1) := by decide +kernel
theorem dX0_holds_60 : decode cX0_holds 60 = .ok (.istore 4, 2) := by decide +kernel
theorem dX0_holds_62 : decode cX0_holds 62 = .ok (.goto 53, 3) := by decide +kernel
theorem dX0_holds_65 : decode cX0_holds 65 = .ok (.aload_n 0, 1) := by decide +kernel
theorem dX0_holds_66 : decode cX0_holds 66 = .ok (.getfield 9, 3) := by decide +kernel
theorem dX0_holds_69 : decode cX0_holds 69 = .ok (.iload 5, 2) := by decide +kernel
theorem dX0_holds_71 : decode cX0_holds 71 = .ok (.iaload, 1) := by decide +kernel
theorem dX0_holds_72 : decode cX0_holds 72 = .ok (.bipush (-3), 2) := by decide +kernel
theorem dX0_holds_74 : decode cX0_holds 74 = .ok (.if_icmp .ne 15, 3) := by decide +kernel
theorem dX0_holds_77 : decode cX0_holds 77 = .ok (.iload 4, 2) := by decide +kernel
theorem dX0_holds_79 : decode cX0_holds 79 = .ok (.iconst 1, 1) := by decide +kernel
theorem dX0_holds_80 : decode cX0_holds 80 = .ok (.ishr, 1) := by decide +kernel
theorem dX0_holds_81 : decode cX0_holds 81 = .ok (.iload 6, 2) := by decide +kernel
theorem dX0_holds_83 : decode cX0_holds 83 = .ok (.ior, 1) := by decide +kernel
theorem dX0_holds_84 : decode cX0_holds 84 = .ok (.istore 4, 2) := by decide +kernel
theorem dX0_holds_86 : decode cX0_holds 86 = .ok (.goto 29, 3) := by decide +kernel
theorem dX0_holds_89 : decode cX0_holds 89 = .ok (.iload 4, 2) := by decide +kernel
theorem dX0_holds_91 : decode cX0_holds 91 = .ok (.iconst 1, 1) := by decide +kernel
theorem dX0_holds_92 : decode cX0_holds 92 = .ok (.ishl, 1) := by decide +kernel
theorem dX0_holds_93 : decode cX0_holds 93 = .ok (.aload_n 0, 1) := by decide +kernel
theorem dX0_holds_94 : decode cX0_holds 94 = .ok (.getfield 9, 3) := by decide +kernel
theorem dX0_holds_97 : decode cX0_holds 97 = .ok (.iload 5, 2) := by decide +kernel
theorem dX0_holds_99 : decode cX0_holds 99 = .ok (.iaload, 1) := by decide +kernel
theorem dX0_holds_100 : decode cX0_holds 100 = .ok (.aload_n 3, 1) := by decide +kernel
theorem dX0_holds_101 : decode cX0_holds 101 = .ok (.invokestatic 35, 3) := by decide +kernel
theorem dX0_holds_104 : decode cX0_holds 104 = .ok (.ifCond .eq 7, 3) := by decide +kernel
theorem dX0_holds_107 : decode cX0_holds 107 = .ok (.iconst 1, 1) := by decide +kernel
theorem dX0_holds_108 : decode cX0_holds 108 = .ok (.goto 4, 3) := by decide +kernel
theorem dX0_holds_111 : decode cX0_holds 111 = .ok (.iconst 0, 1) := by decide +kernel
theorem dX0_holds_112 : decode cX0_holds 112 = .ok (.ior, 1) := by decide +kernel
theorem dX0_holds_113 : decode cX0_holds 113 = .ok (.istore 4, 2) := by decide +kernel
theorem dX0_holds_115 : decode cX0_holds 115 = .ok (.iinc 5 1, 3) := by decide +kernel
theorem dX0_holds_118 : decode cX0_holds 118 = .ok (.goto (-112), 3) := by decide +kernel
theorem dX0_holds_121 : decode cX0_holds 121 = .ok (.iload 4, 2) := by decide +kernel
theorem dX0_holds_123 : decode cX0_holds 123 = .ok (.iconst 1, 1) := by decide +kernel
theorem dX0_holds_124 : decode cX0_holds 124 = .ok (.iand, 1) := by decide +kernel
theorem dX0_holds_125 : decode cX0_holds 125 = .ok (.iconst 1, 1) := by decide +kernel
theorem dX0_holds_126 : decode cX0_holds 126 = .ok (.if_icmp .ne 7, 3) := by decide +kernel
theorem dX0_holds_129 : decode cX0_holds 129 = .ok (.iconst 1, 1) := by decide +kernel
theorem dX0_holds_130 : decode cX0_holds 130 = .ok (.goto 4, 3) := by decide +kernel
theorem dX0_holds_133 : decode cX0_holds 133 = .ok (.iconst 0, 1) := by decide +kernel
theorem dX0_holds_134 : decode cX0_holds 134 = .ok (.ireturn, 1) := by decide +kernel
theorem dX0_passes_0 : decode cX0_passes 0 = .ok (.iload_n 0, 1) := by decide +kernel
theorem dX0_passes_1 : decode cX0_passes 1 = .ok (.sipush 300, 3) := by decide +kernel
theorem dX0_passes_4 : decode cX0_passes 4 = .ok (.idiv, 1) := by decide +kernel
theorem dX0_passes_5 : decode cX0_passes 5 = .ok (.istore_n 2, 1) := by decide +kernel
theorem dX0_passes_6 : decode cX0_passes 6 = .ok (.iload_n 2, 1) := by decide +kernel
theorem dX0_passes_7 : decode cX0_passes 7 = .ok (.ifCond .lt 9, 3) := by decide +kernel
theorem dX0_passes_10 : decode cX0_passes 10 = .ok (.iload_n 2, 1) := by decide +kernel
theorem dX0_passes_11 : decode cX0_passes 11 = .ok (.aload_n 1, 1) := by decide +kernel
theorem dX0_passes_12 : decode cX0_passes 12 = .ok (.arraylength, 1) := by decide +kernel
theorem dX0_passes_13 : decode cX0_passes 13 = .ok (.if_icmp .lt 5, 3) := by decide +kernel
theorem dX0_passes_16 : decode cX0_passes 16 = .ok (.iconst 0, 1) := by decide +kernel
theorem dX0_passes_17 : decode cX0_passes 17 = .ok (.ireturn, 1) := by decide +kernel
theorem dX0_passes_18 : decode cX0_passes 18 = .ok (.aload_n 1, 1) := by decide +kernel
theorem dX0_passes_19 : decode cX0_passes 19 = .ok (.iload_n 2, 1) := by decide +kernel
theorem dX0_passes_20 : decode cX0_passes 20 = .ok (.iaload, 1) := by decide +kernel
theorem dX0_passes_21 : decode cX0_passes 21 = .ok (.istore_n 3, 1) := by decide +kernel
theorem dX0_passes_22 : decode cX0_passes 22 = .ok (.iload_n 0, 1) := by decide +kernel
theorem dX0_passes_23 : decode cX0_passes 23 = .ok (.bipush 100, 2) := by decide +kernel
theorem dX0_passes_25 : decode cX0_passes 25 = .ok (.irem, 1) := by decide +kernel
theorem dX0_passes_26 : decode cX0_passes 26 = .ok (.istore 4, 2) := by decide +kernel
theorem dX0_passes_28 : decode cX0_passes 28 = .ok (.iload_n 0, 1) := by decide +kernel
theorem dX0_passes_29 : decode cX0_passes 29 = .ok (.bipush 100, 2) := by decide +kernel
theorem dX0_passes_31 : decode cX0_passes 31 = .ok (.idiv, 1) := by decide +kernel
theorem dX0_passes_32 : decode cX0_passes 32 = .ok (.iconst 3, 1) := by decide +kernel
theorem dX0_passes_33 : decode cX0_passes 33 = .ok (.irem, 1) := by decide +kernel
theorem dX0_passes_34 : decode cX0_passes 34 = .ok (.lookupswitch 50 #[(0, 26), (1, 38)], 26) := by decide +kernel
theorem dX0_passes_60 : decode cX0_passes 60 = .ok (.iload_n 3, 1) := by decide +kernel
theorem dX0_passes_61 : decode cX0_passes 61 = .ok (.iload 4, 2) := by decide +kernel
theorem dX0_passes_63 : decode cX0_passes 63 = .ok (.if_icmp .ge 7, 3) := by decide +kernel
theorem dX0_passes_66 : decode cX0_passes 66 = .ok (.iconst 1, 1) := by decide +kernel
theorem dX0_passes_67 : decode cX0_passes 67 = .ok (.goto 4, 3) := by decide +kernel
theorem dX0_passes_70 : decode cX0_passes 70 = .ok (.iconst 0, 1) := by decide +kernel
theorem dX0_passes_71 : decode cX0_passes 71 = .ok (.ireturn, 1) := by decide +kernel
theorem dX0_passes_72 : decode cX0_passes 72 = .ok (.iload_n 3, 1) := by decide +kernel
theorem dX0_passes_73 : decode cX0_passes 73 = .ok (.iload 4, 2) := by decide +kernel
theorem dX0_passes_75 : decode cX0_passes 75 = .ok (.if_icmp .ne 7, 3) := by decide +kernel
theorem dX0_passes_78 : decode cX0_passes 78 = .ok (.iconst 1, 1) := by decide +kernel
theorem dX0_passes_79 : decode cX0_passes 79 = .ok (.goto 4, 3) := by decide +kernel
theorem dX0_passes_82 : decode cX0_passes 82 = .ok (.iconst 0, 1) := by decide +kernel
theorem dX0_passes_83 : decode cX0_passes 83 = .ok (.ireturn, 1) := by decide +kernel
theorem dX0_passes_84 : decode cX0_passes 84 = .ok (.iload_n 3, 1) := by decide +kernel
theorem dX0_passes_85 : decode cX0_passes 85 = .ok (.iload 4, 2) := by decide +kernel
theorem dX0_passes_87 : decode cX0_passes 87 = .ok (.if_icmp .le 7, 3) := by decide +kernel
theorem dX0_passes_90 : decode cX0_passes 90 = .ok (.iconst 1, 1) := by decide +kernel
theorem dX0_passes_91 : decode cX0_passes 91 = .ok (.goto 4, 3) := by decide +kernel
theorem dX0_passes_94 : decode cX0_passes 94 = .ok (.iconst 0, 1) := by decide +kernel
theorem dX0_passes_95 : decode cX0_passes 95 = .ok (.ireturn, 1) := by decide +kernel
theorem dX1_init_0 : decode cX1_init 0 = .ok (.aload_n 0, 1) := by decide +kernel
theorem dX1_init_1 : decode cX1_init 1 = .ok (.iload_n 1, 1) := by decide +kernel
theorem dX1_init_2 : decode cX1_init 2 = .ok (.iload_n 2, 1) := by decide +kernel
theorem dX1_init_3 : decode cX1_init 3 = .ok (.iload_n 3, 1) := by decide +kernel
theorem dX1_init_4 : decode cX1_init 4 = .ok (.invokespecial 1, 3) := by decide +kernel
theorem dX1_init_7 : decode cX1_init 7 = .ok (.return_, 1) := by decide +kernel
theorem dX1_second_0 : decode cX1_second 0 = .ok (.aload_n 1, 1) := by decide +kernel
theorem dX1_second_1 : decode cX1_second 1 = .ok (.getfield 7, 3) := by decide +kernel
theorem dX1_second_4 : decode cX1_second 4 = .ok (.aload_n 0, 1) := by decide +kernel
theorem dX1_second_5 : decode cX1_second 5 = .ok (.getfield 13, 3) := by decide +kernel
theorem dX1_second_8 : decode cX1_second 8 = .ok (.iaload, 1) := by decide +kernel
theorem dX1_second_9 : decode cX1_second 9 = .ok (.ireturn, 1) := by decide +kernel
theorem dX1_strikes_0 : decode cX1_strikes 0 = .ok (.aload_n 2, 1) := by decide +kernel
theorem dX1_strikes_1 : decode cX1_strikes 1 = .ok (.bipush 20, 2) := by decide +kernel
theorem dX1_strikes_3 : decode cX1_strikes 3 = .ok (.invokestatic 19, 3) := by decide +kernel
theorem dX1_strikes_6 : decode cX1_strikes 6 = .ok (.invokevirtual 25, 3) := by decide +kernel
theorem dX1_strikes_9 : decode cX1_strikes 9 = .ok (.pop, 1) := by decide +kernel
theorem dX1_strikes_10 : decode cX1_strikes 10 = .ok (.aload_n 0, 1) := by decide +kernel
theorem dX1_strikes_11 : decode cX1_strikes 11 = .ok (.iload_n 1, 1) := by decide +kernel
theorem dX1_strikes_12 : decode cX1_strikes 12 = .ok (.aload_n 2, 1) := by decide +kernel
theorem dX1_strikes_13 : decode cX1_strikes 13 = .ok (.invokespecial 31, 3) := by decide +kernel
theorem dX1_strikes_16 : decode cX1_strikes 16 = .ok (.bipush 6, 2) := by decide +kernel
theorem dX1_strikes_18 : decode cX1_strikes 18 = .ok (.ixor, 1) := by decide +kernel
theorem dX1_strikes_19 : decode cX1_strikes 19 = .ok (.ireturn, 1) := by decide +kernel
theorem dX2_init_0 : decode cX2_init 0 = .ok (.aload_n 0, 1) := by decide +kernel
theorem dX2_init_1 : decode cX2_init 1 = .ok (.iload_n 1, 1) := by decide +kernel
theorem dX2_init_2 : decode cX2_init 2 = .ok (.iload_n 2, 1) := by decide +kernel
theorem dX2_init_3 : decode cX2_init 3 = .ok (.iload_n 3, 1) := by decide +kernel
theorem dX2_init_4 : decode cX2_init 4 = .ok (.invokespecial 1, 3) := by decide +kernel
theorem dX2_init_7 : decode cX2_init 7 = .ok (.return_, 1) := by decide +kernel
theorem dX2_winsAgainst_0 : decode cX2_winsAgainst 0 = .ok (.iconst 0, 1) := by decide +kernel
theorem dX2_winsAgainst_1 : decode cX2_winsAgainst 1 = .ok (.iload_n 1, 1) := by decide +kernel
theorem dX2_winsAgainst_2 : decode cX2_winsAgainst 2 = .ok (.aload_n 0, 1) := by decide +kernel
theorem dX2_winsAgainst_3 : decode cX2_winsAgainst 3 = .ok (.getfield 7, 3) := by decide +kernel
theorem dX2_winsAgainst_6 : decode cX2_winsAgainst 6 = .ok (.isub, 1) := by decide +kernel
theorem dX2_winsAgainst_7 : decode cX2_winsAgainst 7 = .ok (.invokestatic 13, 3) := by decide +kernel
theorem dX2_winsAgainst_10 : decode cX2_winsAgainst 10 = .ok (.ireturn, 1) := by decide +kernel
theorem dX2_tosses_0 : decode cX2_tosses 0 = .ok (.aload_n 2, 1) := by decide +kernel
theorem dX2_tosses_1 : decode cX2_tosses 1 = .ok (.bipush 50, 2) := by decide +kernel
theorem dX2_tosses_3 : decode cX2_tosses 3 = .ok (.invokestatic 19, 3) := by decide +kernel
theorem dX2_tosses_6 : decode cX2_tosses 6 = .ok (.invokevirtual 25, 3) := by decide +kernel
theorem dX2_tosses_9 : decode cX2_tosses 9 = .ok (.pop, 1) := by decide +kernel
theorem dX2_tosses_10 : decode cX2_tosses 10 = .ok (.aload_n 0, 1) := by decide +kernel
theorem dX2_tosses_11 : decode cX2_tosses 11 = .ok (.iload_n 1, 1) := by decide +kernel
theorem dX2_tosses_12 : decode cX2_tosses 12 = .ok (.aload_n 2, 1) := by decide +kernel
theorem dX2_tosses_13 : decode cX2_tosses 13 = .ok (.invokespecial 31, 3) := by decide +kernel
theorem dX2_tosses_16 : decode cX2_tosses 16 = .ok (.ineg, 1) := by decide +kernel
theorem dX2_tosses_17 : decode cX2_tosses 17 = .ok (.ireturn, 1) := by decide +kernel
theorem dX2_strikes_0 : decode cX2_strikes 0 = .ok (.aload_n 2, 1) := by decide +kernel
theorem dX2_strikes_1 : decode cX2_strikes 1 = .ok (.bipush 51, 2) := by decide +kernel
theorem dX2_strikes_3 : decode cX2_strikes 3 = .ok (.invokestatic 19, 3) := by decide +kernel
theorem dX2_strikes_6 : decode cX2_strikes 6 = .ok (.invokevirtual 25, 3) := by decide +kernel
theorem dX2_strikes_9 : decode cX2_strikes 9 = .ok (.pop, 1) := by decide +kernel
theorem dX2_strikes_10 : decode cX2_strikes 10 = .ok (.aload_n 0, 1) := by decide +kernel
theorem dX2_strikes_11 : decode cX2_strikes 11 = .ok (.iload_n 1, 1) := by decide +kernel
theorem dX2_strikes_12 : decode cX2_strikes 12 = .ok (.iconst 1, 1) := by decide +kernel
theorem dX2_strikes_13 : decode cX2_strikes 13 = .ok (.iadd, 1) := by decide +kernel
theorem dX2_strikes_14 : decode cX2_strikes 14 = .ok (.aload_n 2, 1) := by decide +kernel
theorem dX2_strikes_15 : decode cX2_strikes 15 = .ok (.invokespecial 35, 3) := by decide +kernel
theorem dX2_strikes_18 : decode cX2_strikes 18 = .ok (.ireturn, 1) := by decide +kernel
theorem dX3_init_0 : decode cX3_init 0 = .ok (.aload_n 0, 1) := by decide +kernel
theorem dX3_init_1 : decode cX3_init 1 = .ok (.invokespecial 1, 3) := by decide +kernel
theorem dX3_init_4 : decode cX3_init 4 = .ok (.aload_n 0, 1) := by decide +kernel
theorem dX3_init_5 : decode cX3_init 5 = .ok (.iload_n 1, 1) := by decide +kernel
theorem dX3_init_6 : decode cX3_init 6 = .ok (.putfield 7, 3) := by decide +kernel
theorem dX3_init_9 : decode cX3_init 9 = .ok (.aload_n 0, 1) := by decide +kernel
theorem dX3_init_10 : decode cX3_init 10 = .ok (.iload_n 2, 1) := by decide +kernel
theorem dX3_init_11 : decode cX3_init 11 = .ok (.putfield 13, 3) := by decide +kernel
theorem dX3_init_14 : decode cX3_init 14 = .ok (.aload_n 0, 1) := by decide +kernel
theorem dX3_init_15 : decode cX3_init 15 = .ok (.iload_n 3, 1) := by decide +kernel
theorem dX3_init_16 : decode cX3_init 16 = .ok (.putfield 16, 3) := by decide +kernel
theorem dX3_init_19 : decode cX3_init 19 = .ok (.return_, 1) := by decide +kernel
theorem dX3_first_0 : decode cX3_first 0 = .ok (.aload_n 1, 1) := by decide +kernel
theorem dX3_first_1 : decode cX3_first 1 = .ok (.getfield 19, 3) := by decide +kernel
theorem dX3_first_4 : decode cX3_first 4 = .ok (.aload_n 0, 1) := by decide +kernel
theorem dX3_first_5 : decode cX3_first 5 = .ok (.getfield 13, 3) := by decide +kernel
theorem dX3_first_8 : decode cX3_first 8 = .ok (.iaload, 1) := by decide +kernel
theorem dX3_first_9 : decode cX3_first 9 = .ok (.ireturn, 1) := by decide +kernel
theorem dX3_second_0 : decode cX3_second 0 = .ok (.aload_n 1, 1) := by decide +kernel
theorem dX3_second_1 : decode cX3_second 1 = .ok (.getfield 25, 3) := by decide +kernel
theorem dX3_second_4 : decode cX3_second 4 = .ok (.aload_n 0, 1) := by decide +kernel
theorem dX3_second_5 : decode cX3_second 5 = .ok (.getfield 13, 3) := by decide +kernel
theorem dX3_second_8 : decode cX3_second 8 = .ok (.iaload, 1) := by decide +kernel
theorem dX3_second_9 : decode cX3_second 9 = .ok (.ireturn, 1) := by decide +kernel
theorem dX3_winsAgainst_0 : decode cX3_winsAgainst 0 = .ok (.iload_n 1, 1) := by decide +kernel
theorem dX3_winsAgainst_1 : decode cX3_winsAgainst 1 = .ok (.ireturn, 1) := by decide +kernel
theorem dX3_tosses_0 : decode cX3_tosses 0 = .ok (.aload_n 2, 1) := by decide +kernel
theorem dX3_tosses_1 : decode cX3_tosses 1 = .ok (.bipush 10, 2) := by decide +kernel
theorem dX3_tosses_3 : decode cX3_tosses 3 = .ok (.invokestatic 28, 3) := by decide +kernel
theorem dX3_tosses_6 : decode cX3_tosses 6 = .ok (.invokevirtual 34, 3) := by decide +kernel
theorem dX3_tosses_9 : decode cX3_tosses 9 = .ok (.pop, 1) := by decide +kernel
theorem dX3_tosses_10 : decode cX3_tosses 10 = .ok (.iload_n 1, 1) := by decide +kernel
theorem dX3_tosses_11 : decode cX3_tosses 11 = .ok (.aload_n 0, 1) := by decide +kernel
theorem dX3_tosses_12 : decode cX3_tosses 12 = .ok (.getfield 13, 3) := by decide +kernel
theorem dX3_tosses_15 : decode cX3_tosses 15 = .ok (.iadd, 1) := by decide +kernel
theorem dX3_tosses_16 : decode cX3_tosses 16 = .ok (.ireturn, 1) := by decide +kernel
theorem dX3_strikes_0 : decode cX3_strikes 0 = .ok (.aload_n 2, 1) := by decide +kernel
theorem dX3_strikes_1 : decode cX3_strikes 1 = .ok (.bipush 11, 2) := by decide +kernel
theorem dX3_strikes_3 : decode cX3_strikes 3 = .ok (.invokestatic 28, 3) := by decide +kernel
theorem dX3_strikes_6 : decode cX3_strikes 6 = .ok (.invokevirtual 34, 3) := by decide +kernel
theorem dX3_strikes_9 : decode cX3_strikes 9 = .ok (.pop, 1) := by decide +kernel
theorem dX3_strikes_10 : decode cX3_strikes 10 = .ok (.aload_n 0, 1) := by decide +kernel
theorem dX3_strikes_11 : decode cX3_strikes 11 = .ok (.iload_n 1, 1) := by decide +kernel
theorem dX3_strikes_12 : decode cX3_strikes 12 = .ok (.aload_n 2, 1) := by decide +kernel
theorem dX3_strikes_13 : decode cX3_strikes 13 = .ok (.invokevirtual 40, 3) := by decide +kernel
theorem dX3_strikes_16 : decode cX3_strikes 16 = .ok (.aload_n 0, 1) := by decide +kernel
theorem dX3_strikes_17 : decode cX3_strikes 17 = .ok (.getfield 16, 3) := by decide +kernel
theorem dX3_strikes_20 : decode cX3_strikes 20 = .ok (.isub, 1) := by decide +kernel
theorem dX3_strikes_21 : decode cX3_strikes 21 = .ok (.ireturn, 1) := by decide +kernel
theorem dX3_tells_0 : decode cX3_tells 0 = .ok (.aload_n 2, 1) := by decide +kernel
theorem dX3_tells_1 : decode cX3_tells 1 = .ok (.bipush 12, 2) := by decide +kernel
theorem dX3_tells_3 : decode cX3_tells 3 = .ok (.invokestatic 28, 3) := by decide +kernel
theorem dX3_tells_6 : decode cX3_tells 6 = .ok (.invokevirtual 34, 3) := by decide +kernel
theorem dX3_tells_9 : decode cX3_tells 9 = .ok (.pop, 1) := by decide +kernel
theorem dX3_tells_10 : decode cX3_tells 10 = .ok (.aload_n 0, 1) := by decide +kernel
theorem dX3_tells_11 : decode cX3_tells 11 = .ok (.iload_n 1, 1) := by decide +kernel
theorem dX3_tells_12 : decode cX3_tells 12 = .ok (.aload_n 2, 1) := by decide +kernel
theorem dX3_tells_13 : decode cX3_tells 13 = .ok (.invokevirtual 44, 3) := by decide +kernel
theorem dX3_tells_16 : decode cX3_tells 16 = .ok (.iconst 2, 1) := by decide +kernel
theorem dX3_tells_17 : decode cX3_tells 17 = .ok (.imul, 1) := by decide +kernel
theorem dX3_tells_18 : decode cX3_tells 18 = .ok (.ireturn, 1) := by decide +kernel
theorem dX4_init_0 : decode cX4_init 0 = .ok (.aload_n 0, 1) := by decide +kernel
theorem dX4_init_1 : decode cX4_init 1 = .ok (.invokespecial 3, 3) := by decide +kernel
theorem dX4_init_4 : decode cX4_init 4 = .ok (.aload_n 0, 1) := by decide +kernel
theorem dX4_init_5 : decode cX4_init 5 = .ok (.iconst 4, 1) := by decide +kernel
theorem dX4_init_6 : decode cX4_init 6 = .ok (.anewarray 9, 3) := by decide +kernel
theorem dX4_init_9 : decode cX4_init 9 = .ok (.putfield 11, 3) := by decide +kernel
theorem dX4_init_12 : decode cX4_init 12 = .ok (.aload_n 0, 1) := by decide +kernel
theorem dX4_init_13 : decode cX4_init 13 = .ok (.iconst 4, 1) := by decide +kernel
theorem dX4_init_14 : decode cX4_init 14 = .ok (.newarray .int, 2) := by decide +kernel
theorem dX4_init_16 : decode cX4_init 16 = .ok (.putfield 17, 3) := by decide +kernel
theorem dX4_init_19 : decode cX4_init 19 = .ok (.aload_n 0, 1) := by decide +kernel
theorem dX4_init_20 : decode cX4_init 20 = .ok (.iconst 4, 1) := by decide +kernel
theorem dX4_init_21 : decode cX4_init 21 = .ok (.newarray .int, 2) := by decide +kernel
theorem dX4_init_23 : decode cX4_init 23 = .ok (.putfield 21, 3) := by decide +kernel
theorem dX4_init_26 : decode cX4_init 26 = .ok (.aload_n 0, 1) := by decide +kernel
theorem dX4_init_27 : decode cX4_init 27 = .ok (.iconst 4, 1) := by decide +kernel
theorem dX4_init_28 : decode cX4_init 28 = .ok (.newarray .int, 2) := by decide +kernel
theorem dX4_init_30 : decode cX4_init 30 = .ok (.putfield 24, 3) := by decide +kernel
theorem dX4_init_33 : decode cX4_init 33 = .ok (.aload_n 0, 1) := by decide +kernel
theorem dX4_init_34 : decode cX4_init 34 = .ok (.bipush 16, 2) := by decide +kernel
theorem dX4_init_36 : decode cX4_init 36 = .ok (.newarray .int, 2) := by decide +kernel
theorem dX4_init_38 : decode cX4_init 38 = .ok (.putfield 27, 3) := by decide +kernel
theorem dX4_init_41 : decode cX4_init 41 = .ok (.aload_n 0, 1) := by decide +kernel
theorem dX4_init_42 : decode cX4_init 42 = .ok (.iconst 1, 1) := by decide +kernel
theorem dX4_init_43 : decode cX4_init 43 = .ok (.putfield 30, 3) := by decide +kernel
theorem dX4_init_46 : decode cX4_init 46 = .ok (.aload_n 0, 1) := by decide +kernel
theorem dX4_init_47 : decode cX4_init 47 = .ok (.bipush 6, 2) := by decide +kernel
theorem dX4_init_49 : decode cX4_init 49 = .ok (.newarray .int, 2) := by decide +kernel
theorem dX4_init_51 : decode cX4_init 51 = .ok (.putfield 34, 3) := by decide +kernel
theorem dX4_init_54 : decode cX4_init 54 = .ok (.aload_n 0, 1) := by decide +kernel
theorem dX4_init_55 : decode cX4_init 55 = .ok (.bipush 10, 2) := by decide +kernel
theorem dX4_init_57 : decode cX4_init 57 = .ok (.newarray .int, 2) := by decide +kernel
theorem dX4_init_59 : decode cX4_init 59 = .ok (.putfield 37, 3) := by decide +kernel
theorem dX4_init_62 : decode cX4_init 62 = .ok (.aload_n 0, 1) := by decide +kernel
theorem dX4_init_63 : decode cX4_init 63 = .ok (.bipush 10, 2) := by decide +kernel
theorem dX4_init_65 : decode cX4_init 65 = .ok (.newarray .int, 2) := by decide +kernel
theorem dX4_init_67 : decode cX4_init 67 = .ok (.putfield 40, 3) := by decide +kernel
theorem dX4_init_70 : decode cX4_init 70 = .ok (.aload_n 0, 1) := by decide +kernel
theorem dX4_init_71 : decode cX4_init 71 = .ok (.bipush 10, 2) := by decide +kernel
theorem dX4_init_73 : decode cX4_init 73 = .ok (.newarray .int, 2) := by decide +kernel
theorem dX4_init_75 : decode cX4_init 75 = .ok (.putfield 43, 3) := by decide +kernel
theorem dX4_init_78 : decode cX4_init 78 = .ok (.aload_n 0, 1) := by decide +kernel
theorem dX4_init_79 : decode cX4_init 79 = .ok (.ldc 48, 2) := by decide +kernel
theorem dX4_init_81 : decode cX4_init 81 = .ok (.invokevirtual 50, 3) := by decide +kernel
theorem dX4_init_84 : decode cX4_init 84 = .ok (.newarray .int, 2) := by decide +kernel
theorem dX4_init_86 : decode cX4_init 86 = .ok (.putfield 56, 3) := by decide +kernel
theorem dX4_init_89 : decode cX4_init 89 = .ok (.return_, 1) := by decide +kernel
theorem dX4_takeFrom_0 : decode cX4_takeFrom 0 = .ok (.iconst 0, 1) := by decide +kernel
theorem dX4_takeFrom_1 : decode cX4_takeFrom 1 = .ok (.istore_n 2, 1) := by decide +kernel
theorem dX4_takeFrom_2 : decode cX4_takeFrom 2 = .ok (.iload_n 2, 1) := by decide +kernel
theorem dX4_takeFrom_3 : decode cX4_takeFrom 3 = .ok (.iconst 4, 1) := by decide +kernel
theorem dX4_takeFrom_4 : decode cX4_takeFrom 4 = .ok (.if_icmp .ge 57, 3) := by decide +kernel
theorem dX4_takeFrom_7 : decode cX4_takeFrom 7 = .ok (.aload_n 0, 1) := by decide +kernel
theorem dX4_takeFrom_8 : decode cX4_takeFrom 8 = .ok (.getfield 11, 3) := by decide +kernel
theorem dX4_takeFrom_11 : decode cX4_takeFrom 11 = .ok (.iload_n 2, 1) := by decide +kernel
theorem dX4_takeFrom_12 : decode cX4_takeFrom 12 = .ok (.aload_n 1, 1) := by decide +kernel
theorem dX4_takeFrom_13 : decode cX4_takeFrom 13 = .ok (.getfield 11, 3) := by decide +kernel
theorem dX4_takeFrom_16 : decode cX4_takeFrom 16 = .ok (.iload_n 2, 1) := by decide +kernel
theorem dX4_takeFrom_17 : decode cX4_takeFrom 17 = .ok (.aaload, 1) := by decide +kernel
theorem dX4_takeFrom_18 : decode cX4_takeFrom 18 = .ok (.aastore, 1) := by decide +kernel
theorem dX4_takeFrom_19 : decode cX4_takeFrom 19 = .ok (.aload_n 0, 1) := by decide +kernel
theorem dX4_takeFrom_20 : decode cX4_takeFrom 20 = .ok (.getfield 17, 3) := by decide +kernel
theorem dX4_takeFrom_23 : decode cX4_takeFrom 23 = .ok (.iload_n 2, 1) := by decide +kernel
theorem dX4_takeFrom_24 : decode cX4_takeFrom 24 = .ok (.aload_n 1, 1) := by decide +kernel
theorem dX4_takeFrom_25 : decode cX4_takeFrom 25 = .ok (.getfield 17, 3) := by decide +kernel
theorem dX4_takeFrom_28 : decode cX4_takeFrom 28 = .ok (.iload_n 2, 1) := by decide +kernel
theorem dX4_takeFrom_29 : decode cX4_takeFrom 29 = .ok (.iaload, 1) := by decide +kernel
theorem dX4_takeFrom_30 : decode cX4_takeFrom 30 = .ok (.iastore, 1) := by decide +kernel
theorem dX4_takeFrom_31 : decode cX4_takeFrom 31 = .ok (.aload_n 0, 1) := by decide +kernel
theorem dX4_takeFrom_32 : decode cX4_takeFrom 32 = .ok (.getfield 21, 3) := by decide +kernel
theorem dX4_takeFrom_35 : decode cX4_takeFrom 35 = .ok (.iload_n 2, 1) := by decide +kernel
theorem dX4_takeFrom_36 : decode cX4_takeFrom 36 = .ok (.aload_n 1, 1) := by decide +kernel
theorem dX4_takeFrom_37 : decode cX4_takeFrom 37 = .ok (.getfield 21, 3) := by decide +kernel
theorem dX4_takeFrom_40 : decode cX4_takeFrom 40 = .ok (.iload_n 2, 1) := by decide +kernel
theorem dX4_takeFrom_41 : decode cX4_takeFrom 41 = .ok (.iaload, 1) := by decide +kernel
theorem dX4_takeFrom_42 : decode cX4_takeFrom 42 = .ok (.iastore, 1) := by decide +kernel
theorem dX4_takeFrom_43 : decode cX4_takeFrom 43 = .ok (.aload_n 0, 1) := by decide +kernel
theorem dX4_takeFrom_44 : decode cX4_takeFrom 44 = .ok (.getfield 24, 3) := by decide +kernel
theorem dX4_takeFrom_47 : decode cX4_takeFrom 47 = .ok (.iload_n 2, 1) := by decide +kernel
theorem dX4_takeFrom_48 : decode cX4_takeFrom 48 = .ok (.aload_n 1, 1) := by decide +kernel
theorem dX4_takeFrom_49 : decode cX4_takeFrom 49 = .ok (.getfield 24, 3) := by decide +kernel
theorem dX4_takeFrom_52 : decode cX4_takeFrom 52 = .ok (.iload_n 2, 1) := by decide +kernel
theorem dX4_takeFrom_53 : decode cX4_takeFrom 53 = .ok (.iaload, 1) := by decide +kernel
theorem dX4_takeFrom_54 : decode cX4_takeFrom 54 = .ok (.iastore, 1) := by decide +kernel
theorem dX4_takeFrom_55 : decode cX4_takeFrom 55 = .ok (.iinc 2 1, 3) := by decide +kernel
theorem dX4_takeFrom_58 : decode cX4_takeFrom 58 = .ok (.goto (-56), 3) := by decide +kernel
theorem dX4_takeFrom_61 : decode cX4_takeFrom 61 = .ok (.aload_n 1, 1) := by decide +kernel
theorem dX4_takeFrom_62 : decode cX4_takeFrom 62 = .ok (.getfield 27, 3) := by decide +kernel
theorem dX4_takeFrom_65 : decode cX4_takeFrom 65 = .ok (.iconst 0, 1) := by decide +kernel
theorem dX4_takeFrom_66 : decode cX4_takeFrom 66 = .ok (.aload_n 0, 1) := by decide +kernel
theorem dX4_takeFrom_67 : decode cX4_takeFrom 67 = .ok (.getfield 27, 3) := by decide +kernel
theorem dX4_takeFrom_70 : decode cX4_takeFrom 70 = .ok (.iconst 0, 1) := by decide +kernel
theorem dX4_takeFrom_71 : decode cX4_takeFrom 71 = .ok (.bipush 16, 2) := by decide +kernel
theorem dX4_takeFrom_73 : decode cX4_takeFrom 73 = .ok (.invokestatic 59, 3) := by decide +kernel
theorem dX4_takeFrom_76 : decode cX4_takeFrom 76 = .ok (.aload_n 0, 1) := by decide +kernel
theorem dX4_takeFrom_77 : decode cX4_takeFrom 77 = .ok (.aload_n 1, 1) := by decide +kernel
theorem dX4_takeFrom_78 : decode cX4_takeFrom 78 = .ok (.getfield 65, 3) := by decide +kernel
theorem dX4_takeFrom_81 : decode cX4_takeFrom 81 = .ok (.putfield 65, 3) := by decide +kernel
theorem dX4_takeFrom_84 : decode cX4_takeFrom 84 = .ok (.aload_n 0, 1) := by decide +kernel
theorem dX4_takeFrom_85 : decode cX4_takeFrom 85 = .ok (.aload_n 1, 1) := by decide +kernel
theorem dX4_takeFrom_86 : decode cX4_takeFrom 86 = .ok (.getfield 68, 3) := by decide +kernel
theorem dX4_takeFrom_89 : decode cX4_takeFrom 89 = .ok (.putfield 68, 3) := by decide +kernel
theorem dX4_takeFrom_92 : decode cX4_takeFrom 92 = .ok (.aload_n 0, 1) := by decide +kernel
theorem dX4_takeFrom_93 : decode cX4_takeFrom 93 = .ok (.aload_n 1, 1) := by decide +kernel
theorem dX4_takeFrom_94 : decode cX4_takeFrom 94 = .ok (.getfield 71, 3) := by decide +kernel
theorem dX4_takeFrom_97 : decode cX4_takeFrom 97 = .ok (.putfield 71, 3) := by decide +kernel
theorem dX4_takeFrom_100 : decode cX4_takeFrom 100 = .ok (.aload_n 0, 1) := by decide +kernel
theorem dX4_takeFrom_101 : decode cX4_takeFrom 101 = .ok (.aload_n 1, 1) := by decide +kernel
theorem dX4_takeFrom_102 : decode cX4_takeFrom 102 = .ok (.getfield 30, 3) := by decide +kernel
theorem dX4_takeFrom_105 : decode cX4_takeFrom 105 = .ok (.putfield 30, 3) := by decide +kernel
theorem dX4_takeFrom_108 : decode cX4_takeFrom 108 = .ok (.aload_n 1, 1) := by decide +kernel
theorem dX4_takeFrom_109 : decode cX4_takeFrom 109 = .ok (.getfield 34, 3) := by decide +kernel
theorem dX4_takeFrom_112 : decode cX4_takeFrom 112 = .ok (.iconst 0, 1) := by decide +kernel
theorem dX4_takeFrom_113 : decode cX4_takeFrom 113 = .ok (.aload_n 0, 1) := by decide +kernel
theorem dX4_takeFrom_114 : decode cX4_takeFrom 114 = .ok (.getfield 34, 3) := by decide +kernel
theorem dX4_takeFrom_117 : decode cX4_takeFrom 117 = .ok (.iconst 0, 1) := by decide +kernel
theorem dX4_takeFrom_118 : decode cX4_takeFrom 118 = .ok (.bipush 6, 2) := by decide +kernel
theorem dX4_takeFrom_120 : decode cX4_takeFrom 120 = .ok (.invokestatic 59, 3) := by decide +kernel
theorem dX4_takeFrom_123 : decode cX4_takeFrom 123 = .ok (.aload_n 0, 1) := by decide +kernel
theorem dX4_takeFrom_124 : decode cX4_takeFrom 124 = .ok (.aload_n 1, 1) := by decide +kernel
theorem dX4_takeFrom_125 : decode cX4_takeFrom 125 = .ok (.getfield 74, 3) := by decide +kernel
theorem dX4_takeFrom_128 : decode cX4_takeFrom 128 = .ok (.putfield 74, 3) := by decide +kernel
theorem dX4_takeFrom_131 : decode cX4_takeFrom 131 = .ok (.aload_n 1, 1) := by decide +kernel
theorem dX4_takeFrom_132 : decode cX4_takeFrom 132 = .ok (.getfield 37, 3) := by decide +kernel
theorem dX4_takeFrom_135 : decode cX4_takeFrom 135 = .ok (.iconst 0, 1) := by decide +kernel
theorem dX4_takeFrom_136 : decode cX4_takeFrom 136 = .ok (.aload_n 0, 1) := by decide +kernel
theorem dX4_takeFrom_137 : decode cX4_takeFrom 137 = .ok (.getfield 37, 3) := by decide +kernel
theorem dX4_takeFrom_140 : decode cX4_takeFrom 140 = .ok (.iconst 0, 1) := by decide +kernel
theorem dX4_takeFrom_141 : decode cX4_takeFrom 141 = .ok (.bipush 10, 2) := by decide +kernel
theorem dX4_takeFrom_143 : decode cX4_takeFrom 143 = .ok (.invokestatic 59, 3) := by decide +kernel
theorem dX4_takeFrom_146 : decode cX4_takeFrom 146 = .ok (.aload_n 1, 1) := by decide +kernel
theorem dX4_takeFrom_147 : decode cX4_takeFrom 147 = .ok (.getfield 40, 3) := by decide +kernel
theorem dX4_takeFrom_150 : decode cX4_takeFrom 150 = .ok (.iconst 0, 1) := by decide +kernel
theorem dX4_takeFrom_151 : decode cX4_takeFrom 151 = .ok (.aload_n 0, 1) := by decide +kernel
theorem dX4_takeFrom_152 : decode cX4_takeFrom 152 = .ok (.getfield 40, 3) := by decide +kernel
theorem dX4_takeFrom_155 : decode cX4_takeFrom 155 = .ok (.iconst 0, 1) := by decide +kernel
theorem dX4_takeFrom_156 : decode cX4_takeFrom 156 = .ok (.bipush 10, 2) := by decide +kernel
theorem dX4_takeFrom_158 : decode cX4_takeFrom 158 = .ok (.invokestatic 59, 3) := by decide +kernel
theorem dX4_takeFrom_161 : decode cX4_takeFrom 161 = .ok (.aload_n 1, 1) := by decide +kernel
theorem dX4_takeFrom_162 : decode cX4_takeFrom 162 = .ok (.getfield 43, 3) := by decide +kernel
theorem dX4_takeFrom_165 : decode cX4_takeFrom 165 = .ok (.iconst 0, 1) := by decide +kernel
theorem dX4_takeFrom_166 : decode cX4_takeFrom 166 = .ok (.aload_n 0, 1) := by decide +kernel
theorem dX4_takeFrom_167 : decode cX4_takeFrom 167 = .ok (.getfield 43, 3) := by decide +kernel
theorem dX4_takeFrom_170 : decode cX4_takeFrom 170 = .ok (.iconst 0, 1) := by decide +kernel
theorem dX4_takeFrom_171 : decode cX4_takeFrom 171 = .ok (.bipush 10, 2) := by decide +kernel
theorem dX4_takeFrom_173 : decode cX4_takeFrom 173 = .ok (.invokestatic 59, 3) := by decide +kernel
theorem dX4_takeFrom_176 : decode cX4_takeFrom 176 = .ok (.aload_n 0, 1) := by decide +kernel
theorem dX4_takeFrom_177 : decode cX4_takeFrom 177 = .ok (.aload_n 1, 1) := by decide +kernel
theorem dX4_takeFrom_178 : decode cX4_takeFrom 178 = .ok (.getfield 77, 3) := by decide +kernel
theorem dX4_takeFrom_181 : decode cX4_takeFrom 181 = .ok (.putfield 77, 3) := by decide +kernel
theorem dX4_takeFrom_184 : decode cX4_takeFrom 184 = .ok (.aload_n 0, 1) := by decide +kernel
theorem dX4_takeFrom_185 : decode cX4_takeFrom 185 = .ok (.aload_n 1, 1) := by decide +kernel
theorem dX4_takeFrom_186 : decode cX4_takeFrom 186 = .ok (.getfield 80, 3) := by decide +kernel
theorem dX4_takeFrom_189 : decode cX4_takeFrom 189 = .ok (.putfield 80, 3) := by decide +kernel
theorem dX4_takeFrom_192 : decode cX4_takeFrom 192 = .ok (.return_, 1) := by decide +kernel
theorem dX4_welcome_0 : decode cX4_welcome 0 = .ok (.aload_n 1, 1) := by decide +kernel
theorem dX4_welcome_1 : decode cX4_welcome 1 = .ok (.getfield 84, 3) := by decide +kernel
theorem dX4_welcome_4 : decode cX4_welcome 4 = .ok (.iconst 4, 1) := by decide +kernel
theorem dX4_welcome_5 : decode cX4_welcome 5 = .ok (.invokestatic 87, 3) := by decide +kernel
theorem dX4_welcome_8 : decode cX4_welcome 8 = .ok (.ifCond .ne 6, 3) := by decide +kernel
theorem dX4_welcome_11 : decode cX4_welcome 11 = .ok (.bipush (-4), 2) := by decide +kernel
theorem dX4_welcome_13 : decode cX4_welcome 13 = .ok (.ireturn, 1) := by decide +kernel
theorem dX4_welcome_14 : decode cX4_welcome 14 = .ok (.aload_n 0, 1) := by decide +kernel
theorem dX4_welcome_15 : decode cX4_welcome 15 = .ok (.getfield 11, 3) := by decide +kernel
theorem dX4_welcome_18 : decode cX4_welcome 18 = .ok (.aload_n 1, 1) := by decide +kernel
theorem dX4_welcome_19 : decode cX4_welcome 19 = .ok (.getfield 84, 3) := by decide +kernel
theorem dX4_welcome_22 : decode cX4_welcome 22 = .ok (.aload_n 1, 1) := by decide +kernel
theorem dX4_welcome_23 : decode cX4_welcome 23 = .ok (.aastore, 1) := by decide +kernel
theorem dX4_welcome_24 : decode cX4_welcome 24 = .ok (.aload_n 0, 1) := by decide +kernel
theorem dX4_welcome_25 : decode cX4_welcome 25 = .ok (.getfield 17, 3) := by decide +kernel
theorem dX4_welcome_28 : decode cX4_welcome 28 = .ok (.aload_n 1, 1) := by decide +kernel
theorem dX4_welcome_29 : decode cX4_welcome 29 = .ok (.getfield 84, 3) := by decide +kernel
theorem dX4_welcome_32 : decode cX4_welcome 32 = .ok (.iload_n 2, 1) := by decide +kernel
theorem dX4_welcome_33 : decode cX4_welcome 33 = .ok (.iastore, 1) := by decide +kernel
theorem dX4_welcome_34 : decode cX4_welcome 34 = .ok (.aload_n 0, 1) := by decide +kernel
theorem dX4_welcome_35 : decode cX4_welcome 35 = .ok (.getfield 21, 3) := by decide +kernel
theorem dX4_welcome_38 : decode cX4_welcome 38 = .ok (.aload_n 1, 1) := by decide +kernel
theorem dX4_welcome_39 : decode cX4_welcome 39 = .ok (.getfield 84, 3) := by decide +kernel
theorem dX4_welcome_42 : decode cX4_welcome 42 = .ok (.iload_n 3, 1) := by decide +kernel
theorem dX4_welcome_43 : decode cX4_welcome 43 = .ok (.iastore, 1) := by decide +kernel
theorem dX4_welcome_44 : decode cX4_welcome 44 = .ok (.aload_n 0, 1) := by decide +kernel
theorem dX4_welcome_45 : decode cX4_welcome 45 = .ok (.aload_n 1, 1) := by decide +kernel
theorem dX4_welcome_46 : decode cX4_welcome 46 = .ok (.getfield 84, 3) := by decide +kernel
theorem dX4_welcome_49 : decode cX4_welcome 49 = .ok (.iconst 1, 1) := by decide +kernel
theorem dX4_welcome_50 : decode cX4_welcome 50 = .ok (.iadd, 1) := by decide +kernel
theorem dX4_welcome_51 : decode cX4_welcome 51 = .ok (.putfield 65, 3) := by decide +kernel
theorem dX4_welcome_54 : decode cX4_welcome 54 = .ok (.aload_n 1, 1) := by decide +kernel
theorem dX4_welcome_55 : decode cX4_welcome 55 = .ok (.getfield 84, 3) := by decide +kernel
theorem dX4_welcome_58 : decode cX4_welcome 58 = .ok (.ireturn, 1) := by decide +kernel
theorem dX4_books_0 : decode cX4_books 0 = .ok (.aload_n 0, 1) := by decide +kernel
theorem dX4_books_1 : decode cX4_books 1 = .ok (.getfield 77, 3) := by decide +kernel
theorem dX4_books_4 : decode cX4_books 4 = .ok (.bipush 10, 2) := by decide +kernel
theorem dX4_books_6 : decode cX4_books 6 = .ok (.invokestatic 87, 3) := by decide +kernel
theorem dX4_books_9 : decode cX4_books 9 = .ok (.ifCond .ne 5, 3) := by decide +kernel
theorem dX4_books_12 : decode cX4_books 12 = .ok (.iconst 0, 1) := by decide +kernel
theorem dX4_books_13 : decode cX4_books 13 = .ok (.ireturn, 1) := by decide +kernel
theorem dX4_books_14 : decode cX4_books 14 = .ok (.aload_n 0, 1) := by decide +kernel
theorem dX4_books_15 : decode cX4_books 15 = .ok (.getfield 37, 3) := by decide +kernel
theorem dX4_books_18 : decode cX4_books 18 = .ok (.aload_n 0, 1) := by decide +kernel
theorem dX4_books_19 : decode cX4_books 19 = .ok (.getfield 77, 3) := by decide +kernel
theorem dX4_books_22 : decode cX4_books 22 = .ok (.iload_n 1, 1) := by decide +kernel
theorem dX4_books_23 : decode cX4_books 23 = .ok (.iastore, 1) := by decide +kernel
theorem dX4_books_24 : decode cX4_books 24 = .ok (.aload_n 0, 1) := by decide +kernel
theorem dX4_books_25 : decode cX4_books 25 = .ok (.getfield 40, 3) := by decide +kernel
theorem dX4_books_28 : decode cX4_books 28 = .ok (.aload_n 0, 1) := by decide +kernel
theorem dX4_books_29 : decode cX4_books 29 = .ok (.getfield 77, 3) := by decide +kernel
theorem dX4_books_32 : decode cX4_books 32 = .ok (.iload_n 2, 1) := by decide +kernel
theorem dX4_books_33 : decode cX4_books 33 = .ok (.iastore, 1) := by decide +kernel
theorem dX4_books_34 : decode cX4_books 34 = .ok (.aload_n 0, 1) := by decide +kernel
theorem dX4_books_35 : decode cX4_books 35 = .ok (.getfield 43, 3) := by decide +kernel
theorem dX4_books_38 : decode cX4_books 38 = .ok (.aload_n 0, 1) := by decide +kernel
theorem dX4_books_39 : decode cX4_books 39 = .ok (.getfield 77, 3) := by decide +kernel
theorem dX4_books_42 : decode cX4_books 42 = .ok (.iload_n 3, 1) := by decide +kernel
theorem dX4_books_43 : decode cX4_books 43 = .ok (.iastore, 1) := by decide +kernel
theorem dX4_books_44 : decode cX4_books 44 = .ok (.aload_n 0, 1) := by decide +kernel
theorem dX4_books_45 : decode cX4_books 45 = .ok (.dup, 1) := by decide +kernel
theorem dX4_books_46 : decode cX4_books 46 = .ok (.getfield 77, 3) := by decide +kernel
theorem dX4_books_49 : decode cX4_books 49 = .ok (.iconst 1, 1) := by decide +kernel
theorem dX4_books_50 : decode cX4_books 50 = .ok (.iadd, 1) := by decide +kernel
theorem dX4_books_51 : decode cX4_books 51 = .ok (.putfield 77, 3) := by decide +kernel
theorem dX4_books_54 : decode cX4_books 54 = .ok (.iconst 1, 1) := by decide +kernel
theorem dX4_books_55 : decode cX4_books 55 = .ok (.ireturn, 1) := by decide +kernel
theorem dX4_hasSeen_0 : decode cX4_hasSeen 0 = .ok (.iconst 0, 1) := by decide +kernel
theorem dX4_hasSeen_1 : decode cX4_hasSeen 1 = .ok (.istore_n 2, 1) := by decide +kernel
theorem dX4_hasSeen_2 : decode cX4_hasSeen 2 = .ok (.iload_n 2, 1) := by decide +kernel
theorem dX4_hasSeen_3 : decode cX4_hasSeen 3 = .ok (.aload_n 0, 1) := by decide +kernel
theorem dX4_hasSeen_4 : decode cX4_hasSeen 4 = .ok (.getfield 74, 3) := by decide +kernel
theorem dX4_hasSeen_7 : decode cX4_hasSeen 7 = .ok (.if_icmp .ge 27, 3) := by decide +kernel
theorem dX4_hasSeen_10 : decode cX4_hasSeen 10 = .ok (.iload_n 2, 1) := by decide +kernel
theorem dX4_hasSeen_11 : decode cX4_hasSeen 11 = .ok (.bipush 6, 2) := by decide +kernel
theorem dX4_hasSeen_13 : decode cX4_hasSeen 13 = .ok (.if_icmp .ge 21, 3) := by decide +kernel
theorem dX4_hasSeen_16 : decode cX4_hasSeen 16 = .ok (.aload_n 0, 1) := by decide +kernel
theorem dX4_hasSeen_17 : decode cX4_hasSeen 17 = .ok (.getfield 34, 3) := by decide +kernel
theorem dX4_hasSeen_20 : decode cX4_hasSeen 20 = .ok (.iload_n 2, 1) := by decide +kernel
theorem dX4_hasSeen_21 : decode cX4_hasSeen 21 = .ok (.iaload, 1) := by decide +kernel
theorem dX4_hasSeen_22 : decode cX4_hasSeen 22 = .ok (.iload_n 1, 1) := by decide +kernel
theorem dX4_hasSeen_23 : decode cX4_hasSeen 23 = .ok (.if_icmp .ne 5, 3) := by decide +kernel
theorem dX4_hasSeen_26 : decode cX4_hasSeen 26 = .ok (.iconst 1, 1) := by decide +kernel
theorem dX4_hasSeen_27 : decode cX4_hasSeen 27 = .ok (.ireturn, 1) := by decide +kernel
theorem dX4_hasSeen_28 : decode cX4_hasSeen 28 = .ok (.iinc 2 1, 3) := by decide +kernel
theorem dX4_hasSeen_31 : decode cX4_hasSeen 31 = .ok (.goto (-29), 3) := by decide +kernel
theorem dX4_hasSeen_34 : decode cX4_hasSeen 34 = .ok (.iconst 0, 1) := by decide +kernel
theorem dX4_hasSeen_35 : decode cX4_hasSeen 35 = .ok (.ireturn, 1) := by decide +kernel
theorem dX4_isOver_0 : decode cX4_isOver 0 = .ok (.aload_n 0, 1) := by decide +kernel
theorem dX4_isOver_1 : decode cX4_isOver 1 = .ok (.getfield 68, 3) := by decide +kernel
theorem dX4_isOver_4 : decode cX4_isOver 4 = .ok (.iconst 4, 1) := by decide +kernel
theorem dX4_isOver_5 : decode cX4_isOver 5 = .ok (.if_icmp .ge 11, 3) := by decide +kernel
theorem dX4_isOver_8 : decode cX4_isOver 8 = .ok (.aload_n 0, 1) := by decide +kernel
theorem dX4_isOver_9 : decode cX4_isOver 9 = .ok (.getfield 71, 3) := by decide +kernel
theorem dX4_isOver_12 : decode cX4_isOver 12 = .ok (.iconst 4, 1) := by decide +kernel
theorem dX4_isOver_13 : decode cX4_isOver 13 = .ok (.if_icmp .lt 7, 3) := by decide +kernel
theorem dX4_isOver_16 : decode cX4_isOver 16 = .ok (.iconst 1, 1) := by decide +kernel
theorem dX4_isOver_17 : decode cX4_isOver 17 = .ok (.goto 4, 3) := by decide +kernel
theorem dX4_isOver_20 : decode cX4_isOver 20 = .ok (.iconst 0, 1) := by decide +kernel
theorem dX4_isOver_21 : decode cX4_isOver 21 = .ok (.ireturn, 1) := by decide +kernel
theorem dX4_inOf_0 : decode cX4_inOf 0 = .ok (.aload_n 0, 1) := by decide +kernel
theorem dX4_inOf_1 : decode cX4_inOf 1 = .ok (.getfield 80, 3) := by decide +kernel
theorem dX4_inOf_4 : decode cX4_inOf 4 = .ok (.ifnonnull 7, 3) := by decide +kernel
theorem dX4_inOf_7 : decode cX4_inOf 7 = .ok (.iconst 0, 1) := by decide +kernel
theorem dX4_inOf_8 : decode cX4_inOf 8 = .ok (.goto 17, 3) := by decide +kernel
theorem dX4_inOf_11 : decode cX4_inOf 11 = .ok (.aload_n 0, 1) := by decide +kernel
theorem dX4_inOf_12 : decode cX4_inOf 12 = .ok (.getfield 80, 3) := by decide +kernel
theorem dX4_inOf_15 : decode cX4_inOf 15 = .ok (.iconst 0, 1) := by decide +kernel
theorem dX4_inOf_16 : decode cX4_inOf 16 = .ok (.aload_n 0, 1) := by decide +kernel
theorem dX4_inOf_17 : decode cX4_inOf 17 = .ok (.aload_n 1, 1) := by decide +kernel
theorem dX4_inOf_18 : decode cX4_inOf 18 = .ok (.iload_n 2, 1) := by decide +kernel
theorem dX4_inOf_19 : decode cX4_inOf 19 = .ok (.invokevirtual 93, 3) := by decide +kernel
theorem dX4_inOf_22 : decode cX4_inOf 22 = .ok (.invokevirtual 97, 3) := by decide +kernel
theorem dX4_inOf_25 : decode cX4_inOf 25 = .ok (.istore_n 3, 1) := by decide +kernel
theorem dX4_inOf_26 : decode cX4_inOf 26 = .ok (.bipush 95, 2) := by decide +kernel
theorem dX4_inOf_28 : decode cX4_inOf 28 = .ok (.bipush 6, 2) := by decide +kernel
theorem dX4_inOf_30 : decode cX4_inOf 30 = .ok (.iload_n 2, 1) := by decide +kernel
theorem dX4_inOf_31 : decode cX4_inOf 31 = .ok (.imul, 1) := by decide +kernel
theorem dX4_inOf_32 : decode cX4_inOf 32 = .ok (.isub, 1) := by decide +kernel
theorem dX4_inOf_33 : decode cX4_inOf 33 = .ok (.iload_n 3, 1) := by decide +kernel
theorem dX4_inOf_34 : decode cX4_inOf 34 = .ok (.iadd, 1) := by decide +kernel
theorem dX4_inOf_35 : decode cX4_inOf 35 = .ok (.invokestatic 101, 3) := by decide +kernel
theorem dX4_inOf_38 : decode cX4_inOf 38 = .ok (.ireturn, 1) := by decide +kernel
theorem dX4_winsOf_0 : decode cX4_winsOf 0 = .ok (.aload_n 0, 1) := by decide +kernel
theorem dX4_winsOf_1 : decode cX4_winsOf 1 = .ok (.getfield 80, 3) := by decide +kernel
theorem dX4_winsOf_4 : decode cX4_winsOf 4 = .ok (.ifnonnull 7, 3) := by decide +kernel
theorem dX4_winsOf_7 : decode cX4_winsOf 7 = .ok (.iconst 0, 1) := by decide +kernel
theorem dX4_winsOf_8 : decode cX4_winsOf 8 = .ok (.goto 17, 3) := by decide +kernel
theorem dX4_winsOf_11 : decode cX4_winsOf 11 = .ok (.aload_n 0, 1) := by decide +kernel
theorem dX4_winsOf_12 : decode cX4_winsOf 12 = .ok (.getfield 80, 3) := by decide +kernel
theorem dX4_winsOf_15 : decode cX4_winsOf 15 = .ok (.iconst 1, 1) := by decide +kernel
theorem dX4_winsOf_16 : decode cX4_winsOf 16 = .ok (.aload_n 0, 1) := by decide +kernel
theorem dX4_winsOf_17 : decode cX4_winsOf 17 = .ok (.aload_n 1, 1) := by decide +kernel
theorem dX4_winsOf_18 : decode cX4_winsOf 18 = .ok (.iload_n 2, 1) := by decide +kernel
theorem dX4_winsOf_19 : decode cX4_winsOf 19 = .ok (.invokevirtual 93, 3) := by decide +kernel
theorem dX4_winsOf_22 : decode cX4_winsOf 22 = .ok (.invokevirtual 97, 3) := by decide +kernel
theorem dX4_winsOf_25 : decode cX4_winsOf 25 = .ok (.istore_n 3, 1) := by decide +kernel
theorem dX4_winsOf_26 : decode cX4_winsOf 26 = .ok (.aload_n 1, 1) := by decide +kernel
theorem dX4_winsOf_27 : decode cX4_winsOf 27 = .ok (.bipush 40, 2) := by decide +kernel
theorem dX4_winsOf_29 : decode cX4_winsOf 29 = .ok (.iconst 5, 1) := by decide +kernel
theorem dX4_winsOf_30 : decode cX4_winsOf 30 = .ok (.iload_n 2, 1) := by decide +kernel
theorem dX4_winsOf_31 : decode cX4_winsOf 31 = .ok (.imul, 1) := by decide +kernel
theorem dX4_winsOf_32 : decode cX4_winsOf 32 = .ok (.iadd, 1) := by decide +kernel
theorem dX4_winsOf_33 : decode cX4_winsOf 33 = .ok (.iload_n 3, 1) := by decide +kernel
theorem dX4_winsOf_34 : decode cX4_winsOf 34 = .ok (.iadd, 1) := by decide +kernel
theorem dX4_winsOf_35 : decode cX4_winsOf 35 = .ok (.invokestatic 101, 3) := by decide +kernel
theorem dX4_winsOf_38 : decode cX4_winsOf 38 = .ok (.invokevirtual 105, 3) := by decide +kernel
theorem dX4_winsOf_41 : decode cX4_winsOf 41 = .ok (.ireturn, 1) := by decide +kernel
theorem dX4_percent_0 : decode cX4_percent 0 = .ok (.iconst 0, 1) := by decide +kernel
theorem dX4_percent_1 : decode cX4_percent 1 = .ok (.bipush 100, 2) := by decide +kernel
theorem dX4_percent_3 : decode cX4_percent 3 = .ok (.iload_n 0, 1) := by decide +kernel
theorem dX4_percent_4 : decode cX4_percent 4 = .ok (.invokestatic 108, 3) := by decide +kernel
theorem dX4_percent_7 : decode cX4_percent 7 = .ok (.invokestatic 114, 3) := by decide +kernel
theorem dX4_percent_10 : decode cX4_percent 10 = .ok (.ireturn, 1) := by decide +kernel
theorem dX4_lettersOf_0 : decode cX4_lettersOf 0 = .ok (.aload_n 0, 1) := by decide +kernel
theorem dX4_lettersOf_1 : decode cX4_lettersOf 1 = .ok (.getfield 56, 3) := by decide +kernel
theorem dX4_lettersOf_4 : decode cX4_lettersOf 4 = .ok (.iconst 0, 1) := by decide +kernel
theorem dX4_lettersOf_5 : decode cX4_lettersOf 5 = .ok (.aload_n 1, 1) := by decide +kernel
theorem dX4_lettersOf_6 : decode cX4_lettersOf 6 = .ok (.getfield 84, 3) := by decide +kernel
theorem dX4_lettersOf_9 : decode cX4_lettersOf 9 = .ok (.iastore, 1) := by decide +kernel
theorem dX4_lettersOf_10 : decode cX4_lettersOf 10 = .ok (.aload_n 0, 1) := by decide +kernel
theorem dX4_lettersOf_11 : decode cX4_lettersOf 11 = .ok (.getfield 56, 3) := by decide +kernel
theorem dX4_lettersOf_14 : decode cX4_lettersOf 14 = .ok (.iconst 1, 1) := by decide +kernel
theorem dX4_lettersOf_15 : decode cX4_lettersOf 15 = .ok (.aload_n 1, 1) := by decide +kernel
theorem dX4_lettersOf_16 : decode cX4_lettersOf 16 = .ok (.getfield 117, 3) := by decide +kernel
theorem dX4_lettersOf_19 : decode cX4_lettersOf 19 = .ok (.iastore, 1) := by decide +kernel
theorem dX4_lettersOf_20 : decode cX4_lettersOf 20 = .ok (.aload_n 0, 1) := by decide +kernel
theorem dX4_lettersOf_21 : decode cX4_lettersOf 21 = .ok (.getfield 56, 3) := by decide +kernel
theorem dX4_lettersOf_24 : decode cX4_lettersOf 24 = .ok (.iconst 2, 1) := by decide +kernel
theorem dX4_lettersOf_25 : decode cX4_lettersOf 25 = .ok (.iload_n 2, 1) := by decide +kernel
theorem dX4_lettersOf_26 : decode cX4_lettersOf 26 = .ok (.iastore, 1) := by decide +kernel
theorem dX4_lettersOf_27 : decode cX4_lettersOf 27 = .ok (.aload_n 0, 1) := by decide +kernel
theorem dX4_lettersOf_28 : decode cX4_lettersOf 28 = .ok (.getfield 56, 3) := by decide +kernel
theorem dX4_lettersOf_31 : decode cX4_lettersOf 31 = .ok (.iconst 3, 1) := by decide +kernel
theorem dX4_lettersOf_32 : decode cX4_lettersOf 32 = .ok (.aload_n 0, 1) := by decide +kernel
theorem dX4_lettersOf_33 : decode cX4_lettersOf 33 = .ok (.getfield 30, 3) := by decide +kernel
theorem dX4_lettersOf_36 : decode cX4_lettersOf 36 = .ok (.iastore, 1) := by decide +kernel
