theorem dX11_shift_62 : decode cX11_shift 62 = .ok (.ireturn, 1) := by decide +kernel
theorem dX11_shift_63 : decode cX11_shift 63 = .ok (.aload 7, 2) := by decide +kernel
theorem dX11_shift_65 : decode cX11_shift 65 = .ok (.iload 4, 2) := by decide +kernel
theorem dX11_shift_67 : decode cX11_shift 67 = .ok (.aload 6, 2) := by decide +kernel
theorem dX11_shift_69 : decode cX11_shift 69 = .ok (.iload_n 2, 1) := by decide +kernel
theorem dX11_shift_70 : decode cX11_shift 70 = .ok (.iload 5, 2) := by decide +kernel
theorem dX11_shift_72 : decode cX11_shift 72 = .ok (.invokevirtual 294, 3) := by decide +kernel
theorem dX11_shift_75 : decode cX11_shift 75 = .ok (.ifCond .eq 8, 3) := by decide +kernel
theorem dX11_shift_78 : decode cX11_shift 78 = .ok (.iload 5, 2) := by decide +kernel
theorem dX11_shift_80 : decode cX11_shift 80 = .ok (.goto 5, 3) := by decide +kernel
theorem dX11_shift_83 : decode cX11_shift 83 = .ok (.bipush (-13), 2) := by decide +kernel
theorem dX11_shift_85 : decode cX11_shift 85 = .ok (.ireturn, 1) := by decide +kernel
theorem dX11_within_0 : decode cX11_within 0 = .ok (.iload_n 0, 1) := by decide +kernel
theorem dX11_within_1 : decode cX11_within 1 = .ok (.ifCond .lt 12, 3) := by decide +kernel
theorem dX11_within_4 : decode cX11_within 4 = .ok (.iload_n 0, 1) := by decide +kernel
theorem dX11_within_5 : decode cX11_within 5 = .ok (.iload_n 1, 1) := by decide +kernel
theorem dX11_within_6 : decode cX11_within 6 = .ok (.if_icmp .ge 7, 3) := by decide +kernel
theorem dX11_within_9 : decode cX11_within 9 = .ok (.iconst 1, 1) := by decide +kernel
theorem dX11_within_10 : decode cX11_within 10 = .ok (.goto 4, 3) := by decide +kernel
theorem dX11_within_13 : decode cX11_within 13 = .ok (.iconst 0, 1) := by decide +kernel
theorem dX11_within_14 : decode cX11_within 14 = .ok (.ireturn, 1) := by decide +kernel
theorem dX11_pair_0 : decode cX11_pair 0 = .ok (.bipush 10, 2) := by decide +kernel
theorem dX11_pair_2 : decode cX11_pair 2 = .ok (.iload_n 0, 1) := by decide +kernel
theorem dX11_pair_3 : decode cX11_pair 3 = .ok (.imul, 1) := by decide +kernel
theorem dX11_pair_4 : decode cX11_pair 4 = .ok (.iload_n 1, 1) := by decide +kernel
theorem dX11_pair_5 : decode cX11_pair 5 = .ok (.iadd, 1) := by decide +kernel
theorem dX11_pair_6 : decode cX11_pair 6 = .ok (.ireturn, 1) := by decide +kernel
theorem dX11_replaced_0 : decode cX11_replaced 0 = .ok (.iload_n 1, 1) := by decide +kernel
theorem dX11_replaced_1 : decode cX11_replaced 1 = .ok (.aload_n 0, 1) := by decide +kernel
theorem dX11_replaced_2 : decode cX11_replaced 2 = .ok (.arraylength, 1) := by decide +kernel
theorem dX11_replaced_3 : decode cX11_replaced 3 = .ok (.invokestatic 67, 3) := by decide +kernel
theorem dX11_replaced_6 : decode cX11_replaced 6 = .ok (.ifCond .ne 5, 3) := by decide +kernel
theorem dX11_replaced_9 : decode cX11_replaced 9 = .ok (.iconst (-1), 1) := by decide +kernel
theorem dX11_replaced_10 : decode cX11_replaced 10 = .ok (.ireturn, 1) := by decide +kernel
theorem dX11_replaced_11 : decode cX11_replaced 11 = .ok (.aload_n 0, 1) := by decide +kernel
theorem dX11_replaced_12 : decode cX11_replaced 12 = .ok (.iload_n 1, 1) := by decide +kernel
theorem dX11_replaced_13 : decode cX11_replaced 13 = .ok (.iaload, 1) := by decide +kernel
theorem dX11_replaced_14 : decode cX11_replaced 14 = .ok (.istore_n 3, 1) := by decide +kernel
theorem dX11_replaced_15 : decode cX11_replaced 15 = .ok (.aload_n 0, 1) := by decide +kernel
theorem dX11_replaced_16 : decode cX11_replaced 16 = .ok (.iload_n 1, 1) := by decide +kernel
theorem dX11_replaced_17 : decode cX11_replaced 17 = .ok (.iload_n 2, 1) := by decide +kernel
theorem dX11_replaced_18 : decode cX11_replaced 18 = .ok (.iastore, 1) := by decide +kernel
theorem dX11_replaced_19 : decode cX11_replaced 19 = .ok (.iload_n 3, 1) := by decide +kernel
theorem dX11_replaced_20 : decode cX11_replaced 20 = .ok (.ireturn, 1) := by decide +kernel
theorem dX11_serverAt_0 : decode cX11_serverAt 0 = .ok (.iload_n 1, 1) := by decide +kernel
theorem dX11_serverAt_1 : decode cX11_serverAt 1 = .ok (.iconst 4, 1) := by decide +kernel
theorem dX11_serverAt_2 : decode cX11_serverAt 2 = .ok (.aload_n 0, 1) := by decide +kernel
theorem dX11_serverAt_3 : decode cX11_serverAt 3 = .ok (.getfield 12, 3) := by decide +kernel
theorem dX11_serverAt_6 : decode cX11_serverAt 6 = .ok (.getfield 71, 3) := by decide +kernel
theorem dX11_serverAt_9 : decode cX11_serverAt 9 = .ok (.invokestatic 183, 3) := by decide +kernel
theorem dX11_serverAt_12 : decode cX11_serverAt 12 = .ok (.invokestatic 67, 3) := by decide +kernel
theorem dX11_serverAt_15 : decode cX11_serverAt 15 = .ok (.ifCond .eq 15, 3) := by decide +kernel
theorem dX11_serverAt_18 : decode cX11_serverAt 18 = .ok (.aload_n 0, 1) := by decide +kernel
theorem dX11_serverAt_19 : decode cX11_serverAt 19 = .ok (.getfield 12, 3) := by decide +kernel
theorem dX11_serverAt_22 : decode cX11_serverAt 22 = .ok (.getfield 297, 3) := by decide +kernel
theorem dX11_serverAt_25 : decode cX11_serverAt 25 = .ok (.iload_n 1, 1) := by decide +kernel
theorem dX11_serverAt_26 : decode cX11_serverAt 26 = .ok (.aaload, 1) := by decide +kernel
theorem dX11_serverAt_27 : decode cX11_serverAt 27 = .ok (.goto 4, 3) := by decide +kernel
theorem dX11_serverAt_30 : decode cX11_serverAt 30 = .ok (.aconst_null, 1) := by decide +kernel
theorem dX11_serverAt_31 : decode cX11_serverAt 31 = .ok (.areturn, 1) := by decide +kernel
theorem dX11_tapeAt_0 : decode cX11_tapeAt 0 = .ok (.iload_n 1, 1) := by decide +kernel
theorem dX11_tapeAt_1 : decode cX11_tapeAt 1 = .ok (.bipush 6, 2) := by decide +kernel
theorem dX11_tapeAt_3 : decode cX11_tapeAt 3 = .ok (.invokestatic 67, 3) := by decide +kernel
theorem dX11_tapeAt_6 : decode cX11_tapeAt 6 = .ok (.ifCond .eq 12, 3) := by decide +kernel
theorem dX11_tapeAt_9 : decode cX11_tapeAt 9 = .ok (.aload_n 0, 1) := by decide +kernel
theorem dX11_tapeAt_10 : decode cX11_tapeAt 10 = .ok (.getfield 39, 3) := by decide +kernel
theorem dX11_tapeAt_13 : decode cX11_tapeAt 13 = .ok (.iload_n 1, 1) := by decide +kernel
theorem dX11_tapeAt_14 : decode cX11_tapeAt 14 = .ok (.aaload, 1) := by decide +kernel
theorem dX11_tapeAt_15 : decode cX11_tapeAt 15 = .ok (.goto 4, 3) := by decide +kernel
theorem dX11_tapeAt_18 : decode cX11_tapeAt 18 = .ok (.aconst_null, 1) := by decide +kernel
theorem dX11_tapeAt_19 : decode cX11_tapeAt 19 = .ok (.areturn, 1) := by decide +kernel
theorem dX11_born_0 : decode cX11_born 0 = .ok (.iload_n 0, 1) := by decide +kernel
theorem dX11_born_1 : decode cX11_born 1 = .ok (.tableswitch 105 1 6 #[39, 50, 61, 72, 83, 94], 39) := by decide +kernel
theorem dX11_born_40 : decode cX11_born 40 = .ok (.new 301, 3) := by decide +kernel
theorem dX11_born_43 : decode cX11_born 43 = .ok (.dup, 1) := by decide +kernel
theorem dX11_born_44 : decode cX11_born 44 = .ok (.iload_n 0, 1) := by decide +kernel
theorem dX11_born_45 : decode cX11_born 45 = .ok (.iload_n 1, 1) := by decide +kernel
theorem dX11_born_46 : decode cX11_born 46 = .ok (.iload_n 2, 1) := by decide +kernel
theorem dX11_born_47 : decode cX11_born 47 = .ok (.invokespecial 303, 3) := by decide +kernel
theorem dX11_born_50 : decode cX11_born 50 = .ok (.areturn, 1) := by decide +kernel
theorem dX11_born_51 : decode cX11_born 51 = .ok (.new 306, 3) := by decide +kernel
theorem dX11_born_54 : decode cX11_born 54 = .ok (.dup, 1) := by decide +kernel
theorem dX11_born_55 : decode cX11_born 55 = .ok (.iload_n 0, 1) := by decide +kernel
theorem dX11_born_56 : decode cX11_born 56 = .ok (.iload_n 1, 1) := by decide +kernel
theorem dX11_born_57 : decode cX11_born 57 = .ok (.iload_n 2, 1) := by decide +kernel
theorem dX11_born_58 : decode cX11_born 58 = .ok (.invokespecial 308, 3) := by decide +kernel
theorem dX11_born_61 : decode cX11_born 61 = .ok (.areturn, 1) := by decide +kernel
theorem dX11_born_62 : decode cX11_born 62 = .ok (.new 309, 3) := by decide +kernel
theorem dX11_born_65 : decode cX11_born 65 = .ok (.dup, 1) := by decide +kernel
theorem dX11_born_66 : decode cX11_born 66 = .ok (.iload_n 0, 1) := by decide +kernel
theorem dX11_born_67 : decode cX11_born 67 = .ok (.iload_n 1, 1) := by decide +kernel
theorem dX11_born_68 : decode cX11_born 68 = .ok (.iload_n 2, 1) := by decide +kernel
theorem dX11_born_69 : decode cX11_born 69 = .ok (.invokespecial 311, 3) := by decide +kernel
theorem dX11_born_72 : decode cX11_born 72 = .ok (.areturn, 1) := by decide +kernel
theorem dX11_born_73 : decode cX11_born 73 = .ok (.new 312, 3) := by decide +kernel
theorem dX11_born_76 : decode cX11_born 76 = .ok (.dup, 1) := by decide +kernel
theorem dX11_born_77 : decode cX11_born 77 = .ok (.iload_n 0, 1) := by decide +kernel
theorem dX11_born_78 : decode cX11_born 78 = .ok (.iload_n 1, 1) := by decide +kernel
theorem dX11_born_79 : decode cX11_born 79 = .ok (.iload_n 2, 1) := by decide +kernel
theorem dX11_born_80 : decode cX11_born 80 = .ok (.invokespecial 314, 3) := by decide +kernel
theorem dX11_born_83 : decode cX11_born 83 = .ok (.areturn, 1) := by decide +kernel
theorem dX11_born_84 : decode cX11_born 84 = .ok (.new 315, 3) := by decide +kernel
theorem dX11_born_87 : decode cX11_born 87 = .ok (.dup, 1) := by decide +kernel
theorem dX11_born_88 : decode cX11_born 88 = .ok (.iload_n 0, 1) := by decide +kernel
theorem dX11_born_89 : decode cX11_born 89 = .ok (.iload_n 1, 1) := by decide +kernel
theorem dX11_born_90 : decode cX11_born 90 = .ok (.iload_n 2, 1) := by decide +kernel
theorem dX11_born_91 : decode cX11_born 91 = .ok (.invokespecial 317, 3) := by decide +kernel
theorem dX11_born_94 : decode cX11_born 94 = .ok (.areturn, 1) := by decide +kernel
theorem dX11_born_95 : decode cX11_born 95 = .ok (.new 125, 3) := by decide +kernel
theorem dX11_born_98 : decode cX11_born 98 = .ok (.dup, 1) := by decide +kernel
theorem dX11_born_99 : decode cX11_born 99 = .ok (.iload_n 0, 1) := by decide +kernel
theorem dX11_born_100 : decode cX11_born 100 = .ok (.iload_n 1, 1) := by decide +kernel
theorem dX11_born_101 : decode cX11_born 101 = .ok (.iload_n 2, 1) := by decide +kernel
theorem dX11_born_102 : decode cX11_born 102 = .ok (.invokespecial 318, 3) := by decide +kernel
theorem dX11_born_105 : decode cX11_born 105 = .ok (.areturn, 1) := by decide +kernel
theorem dX11_born_106 : decode cX11_born 106 = .ok (.new 95, 3) := by decide +kernel
theorem dX11_born_109 : decode cX11_born 109 = .ok (.dup, 1) := by decide +kernel
theorem dX11_born_110 : decode cX11_born 110 = .ok (.iload_n 0, 1) := by decide +kernel
theorem dX11_born_111 : decode cX11_born 111 = .ok (.iload_n 1, 1) := by decide +kernel
theorem dX11_born_112 : decode cX11_born 112 = .ok (.iload_n 2, 1) := by decide +kernel
theorem dX11_born_113 : decode cX11_born 113 = .ok (.invokespecial 319, 3) := by decide +kernel
theorem dX11_born_116 : decode cX11_born 116 = .ok (.areturn, 1) := by decide +kernel
theorem dX11_isOneOf_0 : decode cX11_isOneOf 0 = .ok (.iload_n 1, 1) := by decide +kernel
theorem dX11_isOneOf_1 : decode cX11_isOneOf 1 = .ok (.tableswitch 75 0 6 #[43, 45, 50, 55, 60, 65, 70], 43) := by decide +kernel
theorem dX11_isOneOf_44 : decode cX11_isOneOf 44 = .ok (.iconst 1, 1) := by decide +kernel
theorem dX11_isOneOf_45 : decode cX11_isOneOf 45 = .ok (.ireturn, 1) := by decide +kernel
theorem dX11_isOneOf_46 : decode cX11_isOneOf 46 = .ok (.aload_n 0, 1) := by decide +kernel
theorem dX11_isOneOf_47 : decode cX11_isOneOf 47 = .ok (.instanceof 301, 3) := by decide +kernel
theorem dX11_isOneOf_50 : decode cX11_isOneOf 50 = .ok (.ireturn, 1) := by decide +kernel
theorem dX11_isOneOf_51 : decode cX11_isOneOf 51 = .ok (.aload_n 0, 1) := by decide +kernel
theorem dX11_isOneOf_52 : decode cX11_isOneOf 52 = .ok (.instanceof 306, 3) := by decide +kernel
theorem dX11_isOneOf_55 : decode cX11_isOneOf 55 = .ok (.ireturn, 1) := by decide +kernel
theorem dX11_isOneOf_56 : decode cX11_isOneOf 56 = .ok (.aload_n 0, 1) := by decide +kernel
theorem dX11_isOneOf_57 : decode cX11_isOneOf 57 = .ok (.instanceof 309, 3) := by decide +kernel
theorem dX11_isOneOf_60 : decode cX11_isOneOf 60 = .ok (.ireturn, 1) := by decide +kernel
theorem dX11_isOneOf_61 : decode cX11_isOneOf 61 = .ok (.aload_n 0, 1) := by decide +kernel
theorem dX11_isOneOf_62 : decode cX11_isOneOf 62 = .ok (.instanceof 312, 3) := by decide +kernel
theorem dX11_isOneOf_65 : decode cX11_isOneOf 65 = .ok (.ireturn, 1) := by decide +kernel
theorem dX11_isOneOf_66 : decode cX11_isOneOf 66 = .ok (.aload_n 0, 1) := by decide +kernel
theorem dX11_isOneOf_67 : decode cX11_isOneOf 67 = .ok (.instanceof 315, 3) := by decide +kernel
theorem dX11_isOneOf_70 : decode cX11_isOneOf 70 = .ok (.ireturn, 1) := by decide +kernel
theorem dX11_isOneOf_71 : decode cX11_isOneOf 71 = .ok (.aload_n 0, 1) := by decide +kernel
theorem dX11_isOneOf_72 : decode cX11_isOneOf 72 = .ok (.instanceof 125, 3) := by decide +kernel
theorem dX11_isOneOf_75 : decode cX11_isOneOf 75 = .ok (.ireturn, 1) := by decide +kernel
theorem dX11_isOneOf_76 : decode cX11_isOneOf 76 = .ok (.iconst 0, 1) := by decide +kernel
theorem dX11_isOneOf_77 : decode cX11_isOneOf 77 = .ok (.ireturn, 1) := by decide +kernel
theorem dX11_bestOf_0 : decode cX11_bestOf 0 = .ok (.iconst 0, 1) := by decide +kernel
theorem dX11_bestOf_1 : decode cX11_bestOf 1 = .ok (.istore_n 3, 1) := by decide +kernel
theorem dX11_bestOf_2 : decode cX11_bestOf 2 = .ok (.iload_n 3, 1) := by decide +kernel
theorem dX11_bestOf_3 : decode cX11_bestOf 3 = .ok (.bipush 10, 2) := by decide +kernel
theorem dX11_bestOf_5 : decode cX11_bestOf 5 = .ok (.if_icmp .ge 39, 3) := by decide +kernel
theorem dX11_bestOf_8 : decode cX11_bestOf 8 = .ok (.aload_n 0, 1) := by decide +kernel
theorem dX11_bestOf_9 : decode cX11_bestOf 9 = .ok (.getfield 50, 3) := by decide +kernel
theorem dX11_bestOf_12 : decode cX11_bestOf 12 = .ok (.iload_n 3, 1) := by decide +kernel
theorem dX11_bestOf_13 : decode cX11_bestOf 13 = .ok (.aload_n 0, 1) := by decide +kernel
theorem dX11_bestOf_14 : decode cX11_bestOf 14 = .ok (.getfield 12, 3) := by decide +kernel
theorem dX11_bestOf_17 : decode cX11_bestOf 17 = .ok (.aload_n 1, 1) := by decide +kernel
theorem dX11_bestOf_18 : decode cX11_bestOf 18 = .ok (.iload_n 3, 1) := by decide +kernel
theorem dX11_bestOf_19 : decode cX11_bestOf 19 = .ok (.invokevirtual 87, 3) := by decide +kernel
theorem dX11_bestOf_22 : decode cX11_bestOf 22 = .ok (.iastore, 1) := by decide +kernel
theorem dX11_bestOf_23 : decode cX11_bestOf 23 = .ok (.aload_n 0, 1) := by decide +kernel
theorem dX11_bestOf_24 : decode cX11_bestOf 24 = .ok (.getfield 54, 3) := by decide +kernel
theorem dX11_bestOf_27 : decode cX11_bestOf 27 = .ok (.iload_n 3, 1) := by decide +kernel
theorem dX11_bestOf_28 : decode cX11_bestOf 28 = .ok (.aload_n 0, 1) := by decide +kernel
theorem dX11_bestOf_29 : decode cX11_bestOf 29 = .ok (.getfield 12, 3) := by decide +kernel
theorem dX11_bestOf_32 : decode cX11_bestOf 32 = .ok (.aload_n 1, 1) := by decide +kernel
theorem dX11_bestOf_33 : decode cX11_bestOf 33 = .ok (.iload_n 3, 1) := by decide +kernel
theorem dX11_bestOf_34 : decode cX11_bestOf 34 = .ok (.invokevirtual 91, 3) := by decide +kernel
theorem dX11_bestOf_37 : decode cX11_bestOf 37 = .ok (.iastore, 1) := by decide +kernel
theorem dX11_bestOf_38 : decode cX11_bestOf 38 = .ok (.iinc 3 1, 3) := by decide +kernel
theorem dX11_bestOf_41 : decode cX11_bestOf 41 = .ok (.goto (-39), 3) := by decide +kernel
theorem dX11_bestOf_44 : decode cX11_bestOf 44 = .ok (.iconst (-1), 1) := by decide +kernel
theorem dX11_bestOf_45 : decode cX11_bestOf 45 = .ok (.istore_n 3, 1) := by decide +kernel
theorem dX11_bestOf_46 : decode cX11_bestOf 46 = .ok (.iconst 0, 1) := by decide +kernel
theorem dX11_bestOf_47 : decode cX11_bestOf 47 = .ok (.istore 4, 2) := by decide +kernel
theorem dX11_bestOf_49 : decode cX11_bestOf 49 = .ok (.iconst 0, 1) := by decide +kernel
theorem dX11_bestOf_50 : decode cX11_bestOf 50 = .ok (.istore 5, 2) := by decide +kernel
theorem dX11_bestOf_52 : decode cX11_bestOf 52 = .ok (.iload 5, 2) := by decide +kernel
theorem dX11_bestOf_54 : decode cX11_bestOf 54 = .ok (.bipush 10, 2) := by decide +kernel
theorem dX11_bestOf_56 : decode cX11_bestOf 56 = .ok (.if_icmp .ge 76, 3) := by decide +kernel
theorem dX11_bestOf_59 : decode cX11_bestOf 59 = .ok (.iconst 0, 1) := by decide +kernel
theorem dX11_bestOf_60 : decode cX11_bestOf 60 = .ok (.istore 6, 2) := by decide +kernel
theorem dX11_bestOf_62 : decode cX11_bestOf 62 = .ok (.iload 6, 2) := by decide +kernel
theorem dX11_bestOf_64 : decode cX11_bestOf 64 = .ok (.bipush 10, 2) := by decide +kernel
theorem dX11_bestOf_66 : decode cX11_bestOf 66 = .ok (.if_icmp .ge 60, 3) := by decide +kernel
theorem dX11_bestOf_69 : decode cX11_bestOf 69 = .ok (.aload_n 0, 1) := by decide +kernel
theorem dX11_bestOf_70 : decode cX11_bestOf 70 = .ok (.getfield 50, 3) := by decide +kernel
theorem dX11_bestOf_73 : decode cX11_bestOf 73 = .ok (.iload 5, 2) := by decide +kernel
theorem dX11_bestOf_75 : decode cX11_bestOf 75 = .ok (.iaload, 1) := by decide +kernel
theorem dX11_bestOf_76 : decode cX11_bestOf 76 = .ok (.aload_n 0, 1) := by decide +kernel
theorem dX11_bestOf_77 : decode cX11_bestOf 77 = .ok (.getfield 54, 3) := by decide +kernel
theorem dX11_bestOf_80 : decode cX11_bestOf 80 = .ok (.iload 5, 2) := by decide +kernel
theorem dX11_bestOf_82 : decode cX11_bestOf 82 = .ok (.iaload, 1) := by decide +kernel
theorem dX11_bestOf_83 : decode cX11_bestOf 83 = .ok (.aload_n 0, 1) := by decide +kernel
theorem dX11_bestOf_84 : decode cX11_bestOf 84 = .ok (.getfield 50, 3) := by decide +kernel
theorem dX11_bestOf_87 : decode cX11_bestOf 87 = .ok (.iload 6, 2) := by decide +kernel
theorem dX11_bestOf_89 : decode cX11_bestOf 89 = .ok (.iaload, 1) := by decide +kernel
theorem dX11_bestOf_90 : decode cX11_bestOf 90 = .ok (.aload_n 0, 1) := by decide +kernel
theorem dX11_bestOf_91 : decode cX11_bestOf 91 = .ok (.getfield 54, 3) := by decide +kernel
theorem dX11_bestOf_94 : decode cX11_bestOf 94 = .ok (.iload 6, 2) := by decide +kernel
theorem dX11_bestOf_96 : decode cX11_bestOf 96 = .ok (.iaload, 1) := by decide +kernel
theorem dX11_bestOf_97 : decode cX11_bestOf 97 = .ok (.invokestatic 320, 3) := by decide +kernel
theorem dX11_bestOf_100 : decode cX11_bestOf 100 = .ok (.istore 7, 2) := by decide +kernel
theorem dX11_bestOf_102 : decode cX11_bestOf 102 = .ok (.iload 7, 2) := by decide +kernel
theorem dX11_bestOf_104 : decode cX11_bestOf 104 = .ok (.iload_n 3, 1) := by decide +kernel
theorem dX11_bestOf_105 : decode cX11_bestOf 105 = .ok (.if_icmp .le 15, 3) := by decide +kernel
theorem dX11_bestOf_108 : decode cX11_bestOf 108 = .ok (.iload 7, 2) := by decide +kernel
theorem dX11_bestOf_110 : decode cX11_bestOf 110 = .ok (.istore_n 3, 1) := by decide +kernel
theorem dX11_bestOf_111 : decode cX11_bestOf 111 = .ok (.iload 5, 2) := by decide +kernel
theorem dX11_bestOf_113 : decode cX11_bestOf 113 = .ok (.iload 6, 2) := by decide +kernel
theorem dX11_bestOf_115 : decode cX11_bestOf 115 = .ok (.invokestatic 207, 3) := by decide +kernel
theorem dX11_bestOf_118 : decode cX11_bestOf 118 = .ok (.istore 4, 2) := by decide +kernel
theorem dX11_bestOf_120 : decode cX11_bestOf 120 = .ok (.iinc 6 1, 3) := by decide +kernel
theorem dX11_bestOf_123 : decode cX11_bestOf 123 = .ok (.goto (-61), 3) := by decide +kernel
theorem dX11_bestOf_126 : decode cX11_bestOf 126 = .ok (.iinc 5 1, 3) := by decide +kernel
theorem dX11_bestOf_129 : decode cX11_bestOf 129 = .ok (.goto (-77), 3) := by decide +kernel
theorem dX11_bestOf_132 : decode cX11_bestOf 132 = .ok (.iload_n 2, 1) := by decide +kernel
theorem dX11_bestOf_133 : decode cX11_bestOf 133 = .ok (.ifCond .ne 8, 3) := by decide +kernel
theorem dX11_bestOf_136 : decode cX11_bestOf 136 = .ok (.iload 4, 2) := by decide +kernel
theorem dX11_bestOf_138 : decode cX11_bestOf 138 = .ok (.goto 4, 3) := by decide +kernel
theorem dX11_bestOf_141 : decode cX11_bestOf 141 = .ok (.iload_n 3, 1) := by decide +kernel
theorem dX11_bestOf_142 : decode cX11_bestOf 142 = .ok (.ireturn, 1) := by decide +kernel
theorem dX11_twoServes_0 : decode cX11_twoServes 0 = .ok (.iload_n 0, 1) := by decide +kernel
theorem dX11_twoServes_1 : decode cX11_twoServes 1 = .ok (.iload_n 1, 1) := by decide +kernel
theorem dX11_twoServes_2 : decode cX11_twoServes 2 = .ok (.imul, 1) := by decide +kernel
theorem dX11_twoServes_3 : decode cX11_twoServes 3 = .ok (.bipush 100, 2) := by decide +kernel
theorem dX11_twoServes_5 : decode cX11_twoServes 5 = .ok (.imul, 1) := by decide +kernel
theorem dX11_twoServes_6 : decode cX11_twoServes 6 = .ok (.bipush 100, 2) := by decide +kernel
theorem dX11_twoServes_8 : decode cX11_twoServes 8 = .ok (.iload_n 0, 1) := by decide +kernel
theorem dX11_twoServes_9 : decode cX11_twoServes 9 = .ok (.isub, 1) := by decide +kernel
theorem dX11_twoServes_10 : decode cX11_twoServes 10 = .ok (.iload_n 2, 1) := by decide +kernel
theorem dX11_twoServes_11 : decode cX11_twoServes 11 = .ok (.imul, 1) := by decide +kernel
theorem dX11_twoServes_12 : decode cX11_twoServes 12 = .ok (.iload_n 3, 1) := by decide +kernel
theorem dX11_twoServes_13 : decode cX11_twoServes 13 = .ok (.imul, 1) := by decide +kernel
theorem dX11_twoServes_14 : decode cX11_twoServes 14 = .ok (.iadd, 1) := by decide +kernel
theorem dX11_twoServes_15 : decode cX11_twoServes 15 = .ok (.ireturn, 1) := by decide +kernel
theorem dX11_chanceAgainst_0 : decode cX11_chanceAgainst 0 = .ok (.aload_n 0, 1) := by decide +kernel
theorem dX11_chanceAgainst_1 : decode cX11_chanceAgainst 1 = .ok (.getfield 21, 3) := by decide +kernel
theorem dX11_chanceAgainst_4 : decode cX11_chanceAgainst 4 = .ok (.aload_n 0, 1) := by decide +kernel
theorem dX11_chanceAgainst_5 : decode cX11_chanceAgainst 5 = .ok (.getfield 12, 3) := by decide +kernel
theorem dX11_chanceAgainst_8 : decode cX11_chanceAgainst 8 = .ok (.invokevirtual 179, 3) := by decide +kernel
theorem dX11_chanceAgainst_11 : decode cX11_chanceAgainst 11 = .ok (.aload_n 0, 1) := by decide +kernel
theorem dX11_chanceAgainst_12 : decode cX11_chanceAgainst 12 = .ok (.getfield 21, 3) := by decide +kernel
theorem dX11_chanceAgainst_15 : decode cX11_chanceAgainst 15 = .ok (.iload_n 2, 1) := by decide +kernel
theorem dX11_chanceAgainst_16 : decode cX11_chanceAgainst 16 = .ok (.putfield 154, 3) := by decide +kernel
theorem dX11_chanceAgainst_19 : decode cX11_chanceAgainst 19 = .ok (.aload_n 0, 1) := by decide +kernel
theorem dX11_chanceAgainst_20 : decode cX11_chanceAgainst 20 = .ok (.getfield 21, 3) := by decide +kernel
theorem dX11_chanceAgainst_23 : decode cX11_chanceAgainst 23 = .ok (.aload_n 1, 1) := by decide +kernel
theorem dX11_chanceAgainst_24 : decode cX11_chanceAgainst 24 = .ok (.invokevirtual 175, 3) := by decide +kernel
theorem dX11_chanceAgainst_27 : decode cX11_chanceAgainst 27 = .ok (.ireturn, 1) := by decide +kernel
theorem dX11_gameOf_0 : decode cX11_gameOf 0 = .ok (.aload_n 0, 1) := by decide +kernel
theorem dX11_gameOf_1 : decode cX11_gameOf 1 = .ok (.getfield 21, 3) := by decide +kernel
theorem dX11_gameOf_4 : decode cX11_gameOf 4 = .ok (.aload_n 0, 1) := by decide +kernel
theorem dX11_gameOf_5 : decode cX11_gameOf 5 = .ok (.getfield 12, 3) := by decide +kernel
theorem dX11_gameOf_8 : decode cX11_gameOf 8 = .ok (.invokevirtual 179, 3) := by decide +kernel
theorem dX11_gameOf_11 : decode cX11_gameOf 11 = .ok (.iconst 4, 1) := by decide +kernel
theorem dX11_gameOf_12 : decode cX11_gameOf 12 = .ok (.istore 4, 2) := by decide +kernel
theorem dX11_gameOf_14 : decode cX11_gameOf 14 = .ok (.iload 4, 2) := by decide +kernel
theorem dX11_gameOf_16 : decode cX11_gameOf 16 = .ok (.iload_n 2, 1) := by decide +kernel
theorem dX11_gameOf_17 : decode cX11_gameOf 17 = .ok (.if_icmp .lt 125, 3) := by decide +kernel
theorem dX11_gameOf_20 : decode cX11_gameOf 20 = .ok (.iconst 4, 1) := by decide +kernel
theorem dX11_gameOf_21 : decode cX11_gameOf 21 = .ok (.istore 5, 2) := by decide +kernel
theorem dX11_gameOf_23 : decode cX11_gameOf 23 = .ok (.iload 5, 2) := by decide +kernel
theorem dX11_gameOf_25 : decode cX11_gameOf 25 = .ok (.iload_n 3, 1) := by decide +kernel
theorem dX11_gameOf_26 : decode cX11_gameOf 26 = .ok (.if_icmp .lt 110, 3) := by decide +kernel
theorem dX11_gameOf_29 : decode cX11_gameOf 29 = .ok (.iload 4, 2) := by decide +kernel
theorem dX11_gameOf_31 : decode cX11_gameOf 31 = .ok (.iconst 4, 1) := by decide +kernel
theorem dX11_gameOf_32 : decode cX11_gameOf 32 = .ok (.if_icmp .eq 9, 3) := by decide +kernel
theorem dX11_gameOf_35 : decode cX11_gameOf 35 = .ok (.iload 5, 2) := by decide +kernel
theorem dX11_gameOf_37 : decode cX11_gameOf 37 = .ok (.iconst 4, 1) := by decide +kernel
theorem dX11_gameOf_38 : decode cX11_gameOf 38 = .ok (.if_icmp .ne 28, 3) := by decide +kernel
theorem dX11_gameOf_41 : decode cX11_gameOf 41 = .ok (.aload_n 0, 1) := by decide +kernel
theorem dX11_gameOf_42 : decode cX11_gameOf 42 = .ok (.getfield 59, 3) := by decide +kernel
theorem dX11_gameOf_45 : decode cX11_gameOf 45 = .ok (.iload 4, 2) := by decide +kernel
theorem dX11_gameOf_47 : decode cX11_gameOf 47 = .ok (.aaload, 1) := by decide +kernel
theorem dX11_gameOf_48 : decode cX11_gameOf 48 = .ok (.iload 5, 2) := by decide +kernel
theorem dX11_gameOf_50 : decode cX11_gameOf 50 = .ok (.iload 4, 2) := by decide +kernel
theorem dX11_gameOf_52 : decode cX11_gameOf 52 = .ok (.iconst 4, 1) := by decide +kernel
theorem dX11_gameOf_53 : decode cX11_gameOf 53 = .ok (.if_icmp .ne 8, 3) := by decide +kernel
theorem dX11_gameOf_56 : decode cX11_gameOf 56 = .ok (.ldc 200, 2) := by decide +kernel
theorem dX11_gameOf_58 : decode cX11_gameOf 58 = .ok (.goto 4, 3) := by decide +kernel
theorem dX11_gameOf_61 : decode cX11_gameOf 61 = .ok (.iconst 0, 1) := by decide +kernel
theorem dX11_gameOf_62 : decode cX11_gameOf 62 = .ok (.iastore, 1) := by decide +kernel
theorem dX11_gameOf_63 : decode cX11_gameOf 63 = .ok (.goto 67, 3) := by decide +kernel
theorem dX11_gameOf_66 : decode cX11_gameOf 66 = .ok (.aload_n 0, 1) := by decide +kernel
theorem dX11_gameOf_67 : decode cX11_gameOf 67 = .ok (.getfield 21, 3) := by decide +kernel
theorem dX11_gameOf_70 : decode cX11_gameOf 70 = .ok (.iload 4, 2) := by decide +kernel
theorem dX11_gameOf_72 : decode cX11_gameOf 72 = .ok (.putfield 148, 3) := by decide +kernel
theorem dX11_gameOf_75 : decode cX11_gameOf 75 = .ok (.aload_n 0, 1) := by decide +kernel
theorem dX11_gameOf_76 : decode cX11_gameOf 76 = .ok (.getfield 21, 3) := by decide +kernel
theorem dX11_gameOf_79 : decode cX11_gameOf 79 = .ok (.iload 5, 2) := by decide +kernel
theorem dX11_gameOf_81 : decode cX11_gameOf 81 = .ok (.putfield 151, 3) := by decide +kernel
theorem dX11_gameOf_84 : decode cX11_gameOf 84 = .ok (.aload_n 0, 1) := by decide +kernel
theorem dX11_gameOf_85 : decode cX11_gameOf 85 = .ok (.getfield 59, 3) := by decide +kernel
theorem dX11_gameOf_88 : decode cX11_gameOf 88 = .ok (.iload 4, 2) := by decide +kernel
theorem dX11_gameOf_90 : decode cX11_gameOf 90 = .ok (.aaload, 1) := by decide +kernel
theorem dX11_gameOf_91 : decode cX11_gameOf 91 = .ok (.iload 5, 2) := by decide +kernel
theorem dX11_gameOf_93 : decode cX11_gameOf 93 = .ok (.aload_n 0, 1) := by decide +kernel
theorem dX11_gameOf_94 : decode cX11_gameOf 94 = .ok (.getfield 21, 3) := by decide +kernel
theorem dX11_gameOf_97 : decode cX11_gameOf 97 = .ok (.aload_n 1, 1) := by decide +kernel
theorem dX11_gameOf_98 : decode cX11_gameOf 98 = .ok (.invokevirtual 175, 3) := by decide +kernel
theorem dX11_gameOf_101 : decode cX11_gameOf 101 = .ok (.i2l, 1) := by decide +kernel
theorem dX11_gameOf_102 : decode cX11_gameOf 102 = .ok (.aload_n 0, 1) := by decide +kernel
theorem dX11_gameOf_103 : decode cX11_gameOf 103 = .ok (.getfield 59, 3) := by decide +kernel
theorem dX11_gameOf_106 : decode cX11_gameOf 106 = .ok (.iload 4, 2) := by decide +kernel
theorem dX11_gameOf_108 : decode cX11_gameOf 108 = .ok (.iconst 1, 1) := by decide +kernel
theorem dX11_gameOf_109 : decode cX11_gameOf 109 = .ok (.iadd, 1) := by decide +kernel
theorem dX11_gameOf_110 : decode cX11_gameOf 110 = .ok (.aaload, 1) := by decide +kernel
theorem dX11_gameOf_111 : decode cX11_gameOf 111 = .ok (.iload 5, 2) := by decide +kernel
theorem dX11_gameOf_113 : decode cX11_gameOf 113 = .ok (.iaload, 1) := by decide +kernel
theorem dX11_gameOf_114 : decode cX11_gameOf 114 = .ok (.aload_n 0, 1) := by decide +kernel
theorem dX11_gameOf_115 : decode cX11_gameOf 115 = .ok (.getfield 59, 3) := by decide +kernel
theorem dX11_gameOf_118 : decode cX11_gameOf 118 = .ok (.iload 4, 2) := by decide +kernel
theorem dX11_gameOf_120 : decode cX11_gameOf 120 = .ok (.aaload, 1) := by decide +kernel
theorem dX11_gameOf_121 : decode cX11_gameOf 121 = .ok (.iload 5, 2) := by decide +kernel
theorem dX11_gameOf_123 : decode cX11_gameOf 123 = .ok (.iconst 1, 1) := by decide +kernel
theorem dX11_gameOf_124 : decode cX11_gameOf 124 = .ok (.iadd, 1) := by decide +kernel
theorem dX11_gameOf_125 : decode cX11_gameOf 125 = .ok (.iaload, 1) := by decide +kernel
theorem dX11_gameOf_126 : decode cX11_gameOf 126 = .ok (.invokestatic 324, 3) := by decide +kernel
theorem dX11_gameOf_129 : decode cX11_gameOf 129 = .ok (.iastore, 1) := by decide +kernel
theorem dX11_gameOf_130 : decode cX11_gameOf 130 = .ok (.iinc 5 (-1), 3) := by decide +kernel
theorem dX11_gameOf_133 : decode cX11_gameOf 133 = .ok (.goto (-110), 3) := by decide +kernel
theorem dX11_gameOf_136 : decode cX11_gameOf 136 = .ok (.iinc 4 (-1), 3) := by decide +kernel
theorem dX11_gameOf_139 : decode cX11_gameOf 139 = .ok (.goto (-125), 3) := by decide +kernel
theorem dX11_gameOf_142 : decode cX11_gameOf 142 = .ok (.aload_n 0, 1) := by decide +kernel
theorem dX11_gameOf_143 : decode cX11_gameOf 143 = .ok (.getfield 59, 3) := by decide +kernel
theorem dX11_gameOf_146 : decode cX11_gameOf 146 = .ok (.iload_n 2, 1) := by decide +kernel
theorem dX11_gameOf_147 : decode cX11_gameOf 147 = .ok (.aaload, 1) := by decide +kernel
theorem dX11_gameOf_148 : decode cX11_gameOf 148 = .ok (.iload_n 3, 1) := by decide +kernel
theorem dX11_gameOf_149 : decode cX11_gameOf 149 = .ok (.iaload, 1) := by decide +kernel
theorem dX11_gameOf_150 : decode cX11_gameOf 150 = .ok (.ireturn, 1) := by decide +kernel
theorem dX11_matchOf_0 : decode cX11_matchOf 0 = .ok (.iload_n 3, 1) := by decide +kernel
theorem dX11_matchOf_1 : decode cX11_matchOf 1 = .ok (.istore 4, 2) := by decide +kernel
theorem dX11_matchOf_3 : decode cX11_matchOf 3 = .ok (.iload 4, 2) := by decide +kernel
theorem dX11_matchOf_5 : decode cX11_matchOf 5 = .ok (.ifCond .lt 120, 3) := by decide +kernel
theorem dX11_matchOf_8 : decode cX11_matchOf 8 = .ok (.iload_n 3, 1) := by decide +kernel
theorem dX11_matchOf_9 : decode cX11_matchOf 9 = .ok (.istore 5, 2) := by decide +kernel
theorem dX11_matchOf_11 : decode cX11_matchOf 11 = .ok (.iload 5, 2) := by decide +kernel
theorem dX11_matchOf_13 : decode cX11_matchOf 13 = .ok (.ifCond .lt 106, 3) := by decide +kernel
theorem dX11_matchOf_16 : decode cX11_matchOf 16 = .ok (.iload 4, 2) := by decide +kernel
theorem dX11_matchOf_18 : decode cX11_matchOf 18 = .ok (.iload_n 3, 1) := by decide +kernel
theorem dX11_matchOf_19 : decode cX11_matchOf 19 = .ok (.if_icmp .eq 9, 3) := by decide +kernel
theorem dX11_matchOf_22 : decode cX11_matchOf 22 = .ok (.iload 5, 2) := by decide +kernel
theorem dX11_matchOf_24 : decode cX11_matchOf 24 = .ok (.iload_n 3, 1) := by decide +kernel
theorem dX11_matchOf_25 : decode cX11_matchOf 25 = .ok (.if_icmp .ne 28, 3) := by decide +kernel
theorem dX11_matchOf_28 : decode cX11_matchOf 28 = .ok (.aload_n 0, 1) := by decide +kernel
theorem dX11_matchOf_29 : decode cX11_matchOf 29 = .ok (.getfield 62, 3) := by decide +kernel
theorem dX11_matchOf_32 : decode cX11_matchOf 32 = .ok (.iload 4, 2) := by decide +kernel
theorem dX11_matchOf_34 : decode cX11_matchOf 34 = .ok (.aaload, 1) := by decide +kernel
theorem dX11_matchOf_35 : decode cX11_matchOf 35 = .ok (.iload 5, 2) := by decide +kernel
theorem dX11_matchOf_37 : decode cX11_matchOf 37 = .ok (.iload 4, 2) := by decide +kernel
theorem dX11_matchOf_39 : decode cX11_matchOf 39 = .ok (.iload_n 3, 1) := by decide +kernel
theorem dX11_matchOf_40 : decode cX11_matchOf 40 = .ok (.if_icmp .ne 8, 3) := by decide +kernel
theorem dX11_matchOf_43 : decode cX11_matchOf 43 = .ok (.ldc 200, 2) := by decide +kernel
theorem dX11_matchOf_45 : decode cX11_matchOf 45 = .ok (.goto 4, 3) := by decide +kernel
theorem dX11_matchOf_48 : decode cX11_matchOf 48 = .ok (.iconst 0, 1) := by decide +kernel
theorem dX11_matchOf_49 : decode cX11_matchOf 49 = .ok (.iastore, 1) := by decide +kernel
theorem dX11_matchOf_50 : decode cX11_matchOf 50 = .ok (.goto 63, 3) := by decide +kernel
theorem dX11_matchOf_53 : decode cX11_matchOf 53 = .ok (.iload 4, 2) := by decide +kernel
theorem dX11_matchOf_55 : decode cX11_matchOf 55 = .ok (.iload 5, 2) := by decide +kernel
theorem dX11_matchOf_57 : decode cX11_matchOf 57 = .ok (.iadd, 1) := by decide +kernel
theorem dX11_matchOf_58 : decode cX11_matchOf 58 = .ok (.iconst 2, 1) := by decide +kernel
theorem dX11_matchOf_59 : decode cX11_matchOf 59 = .ok (.irem, 1) := by decide +kernel
theorem dX11_matchOf_60 : decode cX11_matchOf 60 = .ok (.ifCond .ne 7, 3) := by decide +kernel
theorem dX11_matchOf_63 : decode cX11_matchOf 63 = .ok (.iload_n 1, 1) := by decide +kernel
theorem dX11_matchOf_64 : decode cX11_matchOf 64 = .ok (.goto 7, 3) := by decide +kernel
theorem dX11_matchOf_67 : decode cX11_matchOf 67 = .ok (.ldc 200, 2) := by decide +kernel
theorem dX11_matchOf_69 : decode cX11_matchOf 69 = .ok (.iload_n 2, 1) := by decide +kernel
theorem dX11_matchOf_70 : decode cX11_matchOf 70 = .ok (.isub, 1) := by decide +kernel
theorem dX11_matchOf_71 : decode cX11_matchOf 71 = .ok (.istore 6, 2) := by decide +kernel
theorem dX11_matchOf_73 : decode cX11_matchOf 73 = .ok (.aload_n 0, 1) := by decide +kernel
theorem dX11_matchOf_74 : decode cX11_matchOf 74 = .ok (.getfield 62, 3) := by decide +kernel
theorem dX11_matchOf_77 : decode cX11_matchOf 77 = .ok (.iload 4, 2) := by decide +kernel
theorem dX11_matchOf_79 : decode cX11_matchOf 79 = .ok (.aaload, 1) := by decide +kernel
theorem dX11_matchOf_80 : decode cX11_matchOf 80 = .ok (.iload 5, 2) := by decide +kernel
theorem dX11_matchOf_82 : decode cX11_matchOf 82 = .ok (.iload 6, 2) := by decide +kernel
theorem dX11_matchOf_84 : decode cX11_matchOf 84 = .ok (.i2l, 1) := by decide +kernel
theorem dX11_matchOf_85 : decode cX11_matchOf 85 = .ok (.aload_n 0, 1) := by decide +kernel
theorem dX11_matchOf_86 : decode cX11_matchOf 86 = .ok (.getfield 62, 3) := by decide +kernel
theorem dX11_matchOf_89 : decode cX11_matchOf 89 = .ok (.iload 4, 2) := by decide +kernel
theorem dX11_matchOf_91 : decode cX11_matchOf 91 = .ok (.iconst 1, 1) := by decide +kernel
theorem dX11_matchOf_92 : decode cX11_matchOf 92 = .ok (.iadd, 1) := by decide +kernel
theorem dX11_matchOf_93 : decode cX11_matchOf 93 = .ok (.aaload, 1) := by decide +kernel
theorem dX11_matchOf_94 : decode cX11_matchOf 94 = .ok (.iload 5, 2) := by decide +kernel
theorem dX11_matchOf_96 : decode cX11_matchOf 96 = .ok (.iaload, 1) := by decide +kernel
theorem dX11_matchOf_97 : decode cX11_matchOf 97 = .ok (.aload_n 0, 1) := by decide +kernel
theorem dX11_matchOf_98 : decode cX11_matchOf 98 = .ok (.getfield 62, 3) := by decide +kernel
theorem dX11_matchOf_101 : decode cX11_matchOf 101 = .ok (.iload 4, 2) := by decide +kernel
theorem dX11_matchOf_103 : decode cX11_matchOf 103 = .ok (.aaload, 1) := by decide +kernel
theorem dX11_matchOf_104 : decode cX11_matchOf 104 = .ok (.iload 5, 2) := by decide +kernel
theorem dX11_matchOf_106 : decode cX11_matchOf 106 = .ok (.iconst 1, 1) := by decide +kernel
theorem dX11_matchOf_107 : decode cX11_matchOf 107 = .ok (.iadd, 1) := by decide +kernel
theorem dX11_matchOf_108 : decode cX11_matchOf 108 = .ok (.iaload, 1) := by decide +kernel
theorem dX11_matchOf_109 : decode cX11_matchOf 109 = .ok (.invokestatic 324, 3) := by decide +kernel
theorem dX11_matchOf_112 : decode cX11_matchOf 112 = .ok (.iastore, 1) := by decide +kernel
theorem dX11_matchOf_113 : decode cX11_matchOf 113 = .ok (.iinc 5 (-1), 3) := by decide +kernel
theorem dX11_matchOf_116 : decode cX11_matchOf 116 = .ok (.goto (-105), 3) := by decide +kernel
theorem dX11_matchOf_119 : decode cX11_matchOf 119 = .ok (.iinc 4 (-1), 3) := by decide +kernel
theorem dX11_matchOf_122 : decode cX11_matchOf 122 = .ok (.goto (-119), 3) := by decide +kernel
theorem dX11_matchOf_125 : decode cX11_matchOf 125 = .ok (.aload_n 0, 1) := by decide +kernel
theorem dX11_matchOf_126 : decode cX11_matchOf 126 = .ok (.getfield 62, 3) := by decide +kernel
theorem dX11_matchOf_129 : decode cX11_matchOf 129 = .ok (.iconst 0, 1) := by decide +kernel
theorem dX11_matchOf_130 : decode cX11_matchOf 130 = .ok (.aaload, 1) := by decide +kernel
theorem dX11_matchOf_131 : decode cX11_matchOf 131 = .ok (.iconst 0, 1) := by decide +kernel
theorem dX11_matchOf_132 : decode cX11_matchOf 132 = .ok (.iaload, 1) := by decide +kernel
theorem dX11_matchOf_133 : decode cX11_matchOf 133 = .ok (.ireturn, 1) := by decide +kernel
theorem dX11_mixed_0 : decode cX11_mixed 0 = .ok (.lload_n 0, 1) := by decide +kernel
theorem dX11_mixed_1 : decode cX11_mixed 1 = .ok (.iload_n 2, 1) := by decide +kernel
theorem dX11_mixed_2 : decode cX11_mixed 2 = .ok (.i2l, 1) := by decide +kernel
theorem dX11_mixed_3 : decode cX11_mixed 3 = .ok (.lmul, 1) := by decide +kernel
theorem dX11_mixed_4 : decode cX11_mixed 4 = .ok (.ldc2_w 328, 3) := by decide +kernel
theorem dX11_mixed_7 : decode cX11_mixed 7 = .ok (.lload_n 0, 1) := by decide +kernel
theorem dX11_mixed_8 : decode cX11_mixed 8 = .ok (.lsub, 1) := by decide +kernel
theorem dX11_mixed_9 : decode cX11_mixed 9 = .ok (.iload_n 3, 1) := by decide +kernel
theorem dX11_mixed_10 : decode cX11_mixed 10 = .ok (.i2l, 1) := by decide +kernel
theorem dX11_mixed_11 : decode cX11_mixed 11 = .ok (.lmul, 1) := by decide +kernel
theorem dX11_mixed_12 : decode cX11_mixed 12 = .ok (.ladd, 1) := by decide +kernel
theorem dX11_mixed_13 : decode cX11_mixed 13 = .ok (.ldc2_w 328, 3) := by decide +kernel
theorem dX11_mixed_16 : decode cX11_mixed 16 = .ok (.ldiv, 1) := by decide +kernel
theorem dX11_mixed_17 : decode cX11_mixed 17 = .ok (.l2i, 1) := by decide +kernel
theorem dX11_mixed_18 : decode cX11_mixed 18 = .ok (.ireturn, 1) := by decide +kernel
theorem dX11_lowest_0 : decode cX11_lowest 0 = .ok (.lload_n 2, 1) := by decide +kernel
theorem dX11_lowest_1 : decode cX11_lowest 1 = .ok (.lconst 0, 1) := by decide +kernel
theorem dX11_lowest_2 : decode cX11_lowest 2 = .ok (.lcmp, 1) := by decide +kernel
theorem dX11_lowest_3 : decode cX11_lowest 3 = .ok (.ifCond .le 12, 3) := by decide +kernel
theorem dX11_lowest_6 : decode cX11_lowest 6 = .ok (.iload 4, 2) := by decide +kernel
theorem dX11_lowest_8 : decode cX11_lowest 8 = .ok (.iconst 2, 1) := by decide +kernel
theorem dX11_lowest_9 : decode cX11_lowest 9 = .ok (.invokestatic 67, 3) := by decide +kernel
theorem dX11_lowest_12 : decode cX11_lowest 12 = .ok (.ifCond .ne 7, 3) := by decide +kernel
theorem dX11_lowest_15 : decode cX11_lowest 15 = .ok (.ldc2_w 213, 3) := by decide +kernel
theorem dX11_lowest_18 : decode cX11_lowest 18 = .ok (.lreturn, 1) := by decide +kernel
theorem dX11_lowest_19 : decode cX11_lowest 19 = .ok (.lload_n 2, 1) := by decide +kernel
theorem dX11_lowest_20 : decode cX11_lowest 20 = .ok (.lstore 5, 2) := by decide +kernel
theorem dX11_lowest_22 : decode cX11_lowest 22 = .ok (.lload_n 0, 1) := by decide +kernel
theorem dX11_lowest_23 : decode cX11_lowest 23 = .ok (.lstore 7, 2) := by decide +kernel
theorem dX11_lowest_25 : decode cX11_lowest 25 = .ok (.iconst 0, 1) := by decide +kernel
theorem dX11_lowest_26 : decode cX11_lowest 26 = .ok (.istore 9, 2) := by decide +kernel
theorem dX11_lowest_28 : decode cX11_lowest 28 = .ok (.iload 9, 2) := by decide +kernel
theorem dX11_lowest_30 : decode cX11_lowest 30 = .ok (.sipush 200, 3) := by decide +kernel
theorem dX11_lowest_33 : decode cX11_lowest 33 = .ok (.if_icmp .ge 31, 3) := by decide +kernel
theorem dX11_lowest_36 : decode cX11_lowest 36 = .ok (.lload 7, 2) := by decide +kernel
theorem dX11_lowest_38 : decode cX11_lowest 38 = .ok (.lconst 0, 1) := by decide +kernel
theorem dX11_lowest_39 : decode cX11_lowest 39 = .ok (.lcmp, 1) := by decide +kernel
theorem dX11_lowest_40 : decode cX11_lowest 40 = .ok (.ifCond .eq 24, 3) := by decide +kernel
theorem dX11_lowest_43 : decode cX11_lowest 43 = .ok (.lload 5, 2) := by decide +kernel
theorem dX11_lowest_45 : decode cX11_lowest 45 = .ok (.lload 7, 2) := by decide +kernel
theorem dX11_lowest_47 : decode cX11_lowest 47 = .ok (.lrem, 1) := by decide +kernel
theorem dX11_lowest_48 : decode cX11_lowest 48 = .ok (.lstore 10, 2) := by decide +kernel
theorem dX11_lowest_50 : decode cX11_lowest 50 = .ok (.lload 7, 2) := by decide +kernel
theorem dX11_lowest_52 : decode cX11_lowest 52 = .ok (.lstore 5, 2) := by decide +kernel
theorem dX11_lowest_54 : decode cX11_lowest 54 = .ok (.lload 10, 2) := by decide +kernel
theorem dX11_lowest_56 : decode cX11_lowest 56 = .ok (.lstore 7, 2) := by decide +kernel
theorem dX11_lowest_58 : decode cX11_lowest 58 = .ok (.iinc 9 1, 3) := by decide +kernel
theorem dX11_lowest_61 : decode cX11_lowest 61 = .ok (.goto (-33), 3) := by decide +kernel
theorem dX11_lowest_64 : decode cX11_lowest 64 = .ok (.lload 5, 2) := by decide +kernel
theorem dX11_lowest_66 : decode cX11_lowest 66 = .ok (.lconst 0, 1) := by decide +kernel
theorem dX11_lowest_67 : decode cX11_lowest 67 = .ok (.lcmp, 1) := by decide +kernel
theorem dX11_lowest_68 : decode cX11_lowest 68 = .ok (.ifCond .gt 7, 3) := by decide +kernel
theorem dX11_lowest_71 : decode cX11_lowest 71 = .ok (.ldc2_w 213, 3) := by decide +kernel
theorem dX11_lowest_74 : decode cX11_lowest 74 = .ok (.lreturn, 1) := by decide +kernel
theorem dX11_lowest_75 : decode cX11_lowest 75 = .ok (.iload 4, 2) := by decide +kernel
theorem dX11_lowest_77 : decode cX11_lowest 77 = .ok (.ifCond .ne 7, 3) := by decide +kernel
theorem dX11_lowest_80 : decode cX11_lowest 80 = .ok (.lload_n 0, 1) := by decide +kernel
theorem dX11_lowest_81 : decode cX11_lowest 81 = .ok (.goto 4, 3) := by decide +kernel
theorem dX11_lowest_84 : decode cX11_lowest 84 = .ok (.lload_n 2, 1) := by decide +kernel
theorem dX11_lowest_85 : decode cX11_lowest 85 = .ok (.lload 5, 2) := by decide +kernel
theorem dX11_lowest_87 : decode cX11_lowest 87 = .ok (.ldiv, 1) := by decide +kernel
theorem dX11_lowest_88 : decode cX11_lowest 88 = .ok (.lreturn, 1) := by decide +kernel
