theorem dX11_stand_67 : decode cX11_stand 67 = .ok (.goto (-33), 3) := by decide +kernel
theorem dX11_stand_70 : decode cX11_stand 70 = .ok (.iload_n 2, 1) := by decide +kernel
theorem dX11_stand_71 : decode cX11_stand 71 = .ok (.ifCond .ne 8, 3) := by decide +kernel
theorem dX11_stand_74 : decode cX11_stand 74 = .ok (.iload 5, 2) := by decide +kernel
theorem dX11_stand_76 : decode cX11_stand 76 = .ok (.goto 5, 3) := by decide +kernel
theorem dX11_stand_79 : decode cX11_stand 79 = .ok (.iload 4, 2) := by decide +kernel
theorem dX11_stand_81 : decode cX11_stand 81 = .ok (.ireturn, 1) := by decide +kernel
theorem dX11_game_0 : decode cX11_game 0 = .ok (.aload_n 0, 1) := by decide +kernel
theorem dX11_game_1 : decode cX11_game 1 = .ok (.iload_n 1, 1) := by decide +kernel
theorem dX11_game_2 : decode cX11_game 2 = .ok (.invokevirtual 83, 3) := by decide +kernel
theorem dX11_game_5 : decode cX11_game 5 = .ok (.astore_n 3, 1) := by decide +kernel
theorem dX11_game_6 : decode cX11_game 6 = .ok (.aload_n 3, 1) := by decide +kernel
theorem dX11_game_7 : decode cX11_game 7 = .ok (.ifnull 11, 3) := by decide +kernel
theorem dX11_game_10 : decode cX11_game 10 = .ok (.iload_n 2, 1) := by decide +kernel
theorem dX11_game_11 : decode cX11_game 11 = .ok (.iconst 2, 1) := by decide +kernel
theorem dX11_game_12 : decode cX11_game 12 = .ok (.invokestatic 67, 3) := by decide +kernel
theorem dX11_game_15 : decode cX11_game 15 = .ok (.ifCond .ne 5, 3) := by decide +kernel
theorem dX11_game_18 : decode cX11_game 18 = .ok (.iconst (-1), 1) := by decide +kernel
theorem dX11_game_19 : decode cX11_game 19 = .ok (.ireturn, 1) := by decide +kernel
theorem dX11_game_20 : decode cX11_game 20 = .ok (.iload_n 2, 1) := by decide +kernel
theorem dX11_game_21 : decode cX11_game 21 = .ok (.ifCond .ne 25, 3) := by decide +kernel
theorem dX11_game_24 : decode cX11_game 24 = .ok (.aload_n 0, 1) := by decide +kernel
theorem dX11_game_25 : decode cX11_game 25 = .ok (.aload_n 3, 1) := by decide +kernel
theorem dX11_game_26 : decode cX11_game 26 = .ok (.aload_n 0, 1) := by decide +kernel
theorem dX11_game_27 : decode cX11_game 27 = .ok (.getfield 12, 3) := by decide +kernel
theorem dX11_game_30 : decode cX11_game 30 = .ok (.getfield 148, 3) := by decide +kernel
theorem dX11_game_33 : decode cX11_game 33 = .ok (.aload_n 0, 1) := by decide +kernel
theorem dX11_game_34 : decode cX11_game 34 = .ok (.getfield 12, 3) := by decide +kernel
theorem dX11_game_37 : decode cX11_game 37 = .ok (.getfield 151, 3) := by decide +kernel
theorem dX11_game_40 : decode cX11_game 40 = .ok (.invokevirtual 192, 3) := by decide +kernel
theorem dX11_game_43 : decode cX11_game 43 = .ok (.goto 10, 3) := by decide +kernel
theorem dX11_game_46 : decode cX11_game 46 = .ok (.aload_n 0, 1) := by decide +kernel
theorem dX11_game_47 : decode cX11_game 47 = .ok (.aload_n 3, 1) := by decide +kernel
theorem dX11_game_48 : decode cX11_game 48 = .ok (.iconst 0, 1) := by decide +kernel
theorem dX11_game_49 : decode cX11_game 49 = .ok (.iconst 0, 1) := by decide +kernel
theorem dX11_game_50 : decode cX11_game 50 = .ok (.invokevirtual 192, 3) := by decide +kernel
theorem dX11_game_53 : decode cX11_game 53 = .ok (.ireturn, 1) := by decide +kernel
theorem dX11_swing_0 : decode cX11_swing 0 = .ok (.aload_n 0, 1) := by decide +kernel
theorem dX11_swing_1 : decode cX11_swing 1 = .ok (.iload_n 1, 1) := by decide +kernel
theorem dX11_swing_2 : decode cX11_swing 2 = .ok (.invokevirtual 83, 3) := by decide +kernel
theorem dX11_swing_5 : decode cX11_swing 5 = .ok (.astore_n 2, 1) := by decide +kernel
theorem dX11_swing_6 : decode cX11_swing 6 = .ok (.aload_n 2, 1) := by decide +kernel
theorem dX11_swing_7 : decode cX11_swing 7 = .ok (.ifnonnull 6, 3) := by decide +kernel
theorem dX11_swing_10 : decode cX11_swing 10 = .ok (.ldc 174, 2) := by decide +kernel
theorem dX11_swing_12 : decode cX11_swing 12 = .ok (.ireturn, 1) := by decide +kernel
theorem dX11_swing_13 : decode cX11_swing 13 = .ok (.aload_n 0, 1) := by decide +kernel
theorem dX11_swing_14 : decode cX11_swing 14 = .ok (.getfield 12, 3) := by decide +kernel
theorem dX11_swing_17 : decode cX11_swing 17 = .ok (.invokevirtual 163, 3) := by decide +kernel
theorem dX11_swing_20 : decode cX11_swing 20 = .ok (.ifCond .eq 5, 3) := by decide +kernel
theorem dX11_swing_23 : decode cX11_swing 23 = .ok (.iconst 0, 1) := by decide +kernel
theorem dX11_swing_24 : decode cX11_swing 24 = .ok (.ireturn, 1) := by decide +kernel
theorem dX11_swing_25 : decode cX11_swing 25 = .ok (.aload_n 0, 1) := by decide +kernel
theorem dX11_swing_26 : decode cX11_swing 26 = .ok (.aload_n 2, 1) := by decide +kernel
theorem dX11_swing_27 : decode cX11_swing 27 = .ok (.aload_n 0, 1) := by decide +kernel
theorem dX11_swing_28 : decode cX11_swing 28 = .ok (.getfield 12, 3) := by decide +kernel
theorem dX11_swing_31 : decode cX11_swing 31 = .ok (.getfield 148, 3) := by decide +kernel
theorem dX11_swing_34 : decode cX11_swing 34 = .ok (.iconst 1, 1) := by decide +kernel
theorem dX11_swing_35 : decode cX11_swing 35 = .ok (.iadd, 1) := by decide +kernel
theorem dX11_swing_36 : decode cX11_swing 36 = .ok (.aload_n 0, 1) := by decide +kernel
theorem dX11_swing_37 : decode cX11_swing 37 = .ok (.getfield 12, 3) := by decide +kernel
theorem dX11_swing_40 : decode cX11_swing 40 = .ok (.getfield 151, 3) := by decide +kernel
theorem dX11_swing_43 : decode cX11_swing 43 = .ok (.invokevirtual 192, 3) := by decide +kernel
theorem dX11_swing_46 : decode cX11_swing 46 = .ok (.aload_n 0, 1) := by decide +kernel
theorem dX11_swing_47 : decode cX11_swing 47 = .ok (.aload_n 2, 1) := by decide +kernel
theorem dX11_swing_48 : decode cX11_swing 48 = .ok (.aload_n 0, 1) := by decide +kernel
theorem dX11_swing_49 : decode cX11_swing 49 = .ok (.getfield 12, 3) := by decide +kernel
theorem dX11_swing_52 : decode cX11_swing 52 = .ok (.getfield 148, 3) := by decide +kernel
theorem dX11_swing_55 : decode cX11_swing 55 = .ok (.aload_n 0, 1) := by decide +kernel
theorem dX11_swing_56 : decode cX11_swing 56 = .ok (.getfield 12, 3) := by decide +kernel
theorem dX11_swing_59 : decode cX11_swing 59 = .ok (.getfield 151, 3) := by decide +kernel
theorem dX11_swing_62 : decode cX11_swing 62 = .ok (.iconst 1, 1) := by decide +kernel
theorem dX11_swing_63 : decode cX11_swing 63 = .ok (.iadd, 1) := by decide +kernel
theorem dX11_swing_64 : decode cX11_swing 64 = .ok (.invokevirtual 192, 3) := by decide +kernel
theorem dX11_swing_67 : decode cX11_swing 67 = .ok (.isub, 1) := by decide +kernel
theorem dX11_swing_68 : decode cX11_swing 68 = .ok (.ireturn, 1) := by decide +kernel
theorem dX11_match_0 : decode cX11_match 0 = .ok (.aload_n 0, 1) := by decide +kernel
theorem dX11_match_1 : decode cX11_match 1 = .ok (.iload_n 1, 1) := by decide +kernel
theorem dX11_match_2 : decode cX11_match 2 = .ok (.invokevirtual 83, 3) := by decide +kernel
theorem dX11_match_5 : decode cX11_match 5 = .ok (.astore 4, 2) := by decide +kernel
theorem dX11_match_7 : decode cX11_match 7 = .ok (.aload_n 0, 1) := by decide +kernel
theorem dX11_match_8 : decode cX11_match 8 = .ok (.iload_n 2, 1) := by decide +kernel
theorem dX11_match_9 : decode cX11_match 9 = .ok (.invokevirtual 83, 3) := by decide +kernel
theorem dX11_match_12 : decode cX11_match 12 = .ok (.astore 5, 2) := by decide +kernel
theorem dX11_match_14 : decode cX11_match 14 = .ok (.aload 4, 2) := by decide +kernel
theorem dX11_match_16 : decode cX11_match 16 = .ok (.ifnull 8, 3) := by decide +kernel
theorem dX11_match_19 : decode cX11_match 19 = .ok (.aload 5, 2) := by decide +kernel
theorem dX11_match_21 : decode cX11_match 21 = .ok (.ifnonnull 5, 3) := by decide +kernel
theorem dX11_match_24 : decode cX11_match 24 = .ok (.iconst (-1), 1) := by decide +kernel
theorem dX11_match_25 : decode cX11_match 25 = .ok (.ireturn, 1) := by decide +kernel
theorem dX11_match_26 : decode cX11_match 26 = .ok (.iload_n 1, 1) := by decide +kernel
theorem dX11_match_27 : decode cX11_match 27 = .ok (.iload_n 2, 1) := by decide +kernel
theorem dX11_match_28 : decode cX11_match 28 = .ok (.if_icmp .eq 13, 3) := by decide +kernel
theorem dX11_match_31 : decode cX11_match 31 = .ok (.iload_n 3, 1) := by decide +kernel
theorem dX11_match_32 : decode cX11_match 32 = .ok (.iconst 1, 1) := by decide +kernel
theorem dX11_match_33 : decode cX11_match 33 = .ok (.isub, 1) := by decide +kernel
theorem dX11_match_34 : decode cX11_match 34 = .ok (.iconst 4, 1) := by decide +kernel
theorem dX11_match_35 : decode cX11_match 35 = .ok (.invokestatic 67, 3) := by decide +kernel
theorem dX11_match_38 : decode cX11_match 38 = .ok (.ifCond .ne 6, 3) := by decide +kernel
theorem dX11_match_41 : decode cX11_match 41 = .ok (.bipush (-2), 2) := by decide +kernel
theorem dX11_match_43 : decode cX11_match 43 = .ok (.ireturn, 1) := by decide +kernel
theorem dX11_match_44 : decode cX11_match 44 = .ok (.aload_n 0, 1) := by decide +kernel
theorem dX11_match_45 : decode cX11_match 45 = .ok (.aload_n 0, 1) := by decide +kernel
theorem dX11_match_46 : decode cX11_match 46 = .ok (.aload 4, 2) := by decide +kernel
theorem dX11_match_48 : decode cX11_match 48 = .ok (.iconst 0, 1) := by decide +kernel
theorem dX11_match_49 : decode cX11_match 49 = .ok (.iconst 0, 1) := by decide +kernel
theorem dX11_match_50 : decode cX11_match 50 = .ok (.invokevirtual 192, 3) := by decide +kernel
theorem dX11_match_53 : decode cX11_match 53 = .ok (.aload_n 0, 1) := by decide +kernel
theorem dX11_match_54 : decode cX11_match 54 = .ok (.aload 5, 2) := by decide +kernel
theorem dX11_match_56 : decode cX11_match 56 = .ok (.iconst 0, 1) := by decide +kernel
theorem dX11_match_57 : decode cX11_match 57 = .ok (.iconst 0, 1) := by decide +kernel
theorem dX11_match_58 : decode cX11_match 58 = .ok (.invokevirtual 192, 3) := by decide +kernel
theorem dX11_match_61 : decode cX11_match 61 = .ok (.iload_n 3, 1) := by decide +kernel
theorem dX11_match_62 : decode cX11_match 62 = .ok (.invokevirtual 195, 3) := by decide +kernel
theorem dX11_match_65 : decode cX11_match 65 = .ok (.ireturn, 1) := by decide +kernel
theorem dX11_ahead_0 : decode cX11_ahead 0 = .ok (.aload_n 0, 1) := by decide +kernel
theorem dX11_ahead_1 : decode cX11_ahead 1 = .ok (.iload_n 1, 1) := by decide +kernel
theorem dX11_ahead_2 : decode cX11_ahead 2 = .ok (.invokevirtual 83, 3) := by decide +kernel
theorem dX11_ahead_5 : decode cX11_ahead 5 = .ok (.astore 4, 2) := by decide +kernel
theorem dX11_ahead_7 : decode cX11_ahead 7 = .ok (.aload_n 0, 1) := by decide +kernel
theorem dX11_ahead_8 : decode cX11_ahead 8 = .ok (.iload_n 2, 1) := by decide +kernel
theorem dX11_ahead_9 : decode cX11_ahead 9 = .ok (.invokevirtual 83, 3) := by decide +kernel
theorem dX11_ahead_12 : decode cX11_ahead 12 = .ok (.astore 5, 2) := by decide +kernel
theorem dX11_ahead_14 : decode cX11_ahead 14 = .ok (.aload 4, 2) := by decide +kernel
theorem dX11_ahead_16 : decode cX11_ahead 16 = .ok (.ifnull 8, 3) := by decide +kernel
theorem dX11_ahead_19 : decode cX11_ahead 19 = .ok (.aload 5, 2) := by decide +kernel
theorem dX11_ahead_21 : decode cX11_ahead 21 = .ok (.ifnonnull 6, 3) := by decide +kernel
theorem dX11_ahead_24 : decode cX11_ahead 24 = .ok (.ldc 174, 2) := by decide +kernel
theorem dX11_ahead_26 : decode cX11_ahead 26 = .ok (.ireturn, 1) := by decide +kernel
theorem dX11_ahead_27 : decode cX11_ahead 27 = .ok (.iload_n 1, 1) := by decide +kernel
theorem dX11_ahead_28 : decode cX11_ahead 28 = .ok (.iload_n 2, 1) := by decide +kernel
theorem dX11_ahead_29 : decode cX11_ahead 29 = .ok (.if_icmp .eq 13, 3) := by decide +kernel
theorem dX11_ahead_32 : decode cX11_ahead 32 = .ok (.iload_n 3, 1) := by decide +kernel
theorem dX11_ahead_33 : decode cX11_ahead 33 = .ok (.iconst 1, 1) := by decide +kernel
theorem dX11_ahead_34 : decode cX11_ahead 34 = .ok (.isub, 1) := by decide +kernel
theorem dX11_ahead_35 : decode cX11_ahead 35 = .ok (.iconst 4, 1) := by decide +kernel
theorem dX11_ahead_36 : decode cX11_ahead 36 = .ok (.invokestatic 67, 3) := by decide +kernel
theorem dX11_ahead_39 : decode cX11_ahead 39 = .ok (.ifCond .ne 6, 3) := by decide +kernel
theorem dX11_ahead_42 : decode cX11_ahead 42 = .ok (.ldc 199, 2) := by decide +kernel
theorem dX11_ahead_44 : decode cX11_ahead 44 = .ok (.ireturn, 1) := by decide +kernel
theorem dX11_ahead_45 : decode cX11_ahead 45 = .ok (.aload_n 0, 1) := by decide +kernel
theorem dX11_ahead_46 : decode cX11_ahead 46 = .ok (.aload 4, 2) := by decide +kernel
theorem dX11_ahead_48 : decode cX11_ahead 48 = .ok (.iconst 0, 1) := by decide +kernel
theorem dX11_ahead_49 : decode cX11_ahead 49 = .ok (.iconst 0, 1) := by decide +kernel
theorem dX11_ahead_50 : decode cX11_ahead 50 = .ok (.invokevirtual 192, 3) := by decide +kernel
theorem dX11_ahead_53 : decode cX11_ahead 53 = .ok (.istore 6, 2) := by decide +kernel
theorem dX11_ahead_55 : decode cX11_ahead 55 = .ok (.aload_n 0, 1) := by decide +kernel
theorem dX11_ahead_56 : decode cX11_ahead 56 = .ok (.aload 5, 2) := by decide +kernel
theorem dX11_ahead_58 : decode cX11_ahead 58 = .ok (.iconst 0, 1) := by decide +kernel
theorem dX11_ahead_59 : decode cX11_ahead 59 = .ok (.iconst 0, 1) := by decide +kernel
theorem dX11_ahead_60 : decode cX11_ahead 60 = .ok (.invokevirtual 192, 3) := by decide +kernel
theorem dX11_ahead_63 : decode cX11_ahead 63 = .ok (.istore 7, 2) := by decide +kernel
theorem dX11_ahead_65 : decode cX11_ahead 65 = .ok (.aload_n 0, 1) := by decide +kernel
theorem dX11_ahead_66 : decode cX11_ahead 66 = .ok (.iload 6, 2) := by decide +kernel
theorem dX11_ahead_68 : decode cX11_ahead 68 = .ok (.iload 7, 2) := by decide +kernel
theorem dX11_ahead_70 : decode cX11_ahead 70 = .ok (.iload_n 3, 1) := by decide +kernel
theorem dX11_ahead_71 : decode cX11_ahead 71 = .ok (.invokevirtual 195, 3) := by decide +kernel
theorem dX11_ahead_74 : decode cX11_ahead 74 = .ok (.ldc 200, 2) := by decide +kernel
theorem dX11_ahead_76 : decode cX11_ahead 76 = .ok (.aload_n 0, 1) := by decide +kernel
theorem dX11_ahead_77 : decode cX11_ahead 77 = .ok (.iload 7, 2) := by decide +kernel
theorem dX11_ahead_79 : decode cX11_ahead 79 = .ok (.iload 6, 2) := by decide +kernel
theorem dX11_ahead_81 : decode cX11_ahead 81 = .ok (.iload_n 3, 1) := by decide +kernel
theorem dX11_ahead_82 : decode cX11_ahead 82 = .ok (.invokevirtual 195, 3) := by decide +kernel
theorem dX11_ahead_85 : decode cX11_ahead 85 = .ok (.isub, 1) := by decide +kernel
theorem dX11_ahead_86 : decode cX11_ahead 86 = .ok (.isub, 1) := by decide +kernel
theorem dX11_ahead_87 : decode cX11_ahead 87 = .ok (.ireturn, 1) := by decide +kernel
theorem dX11_see_0 : decode cX11_see 0 = .ok (.iload_n 1, 1) := by decide +kernel
theorem dX11_see_1 : decode cX11_see 1 = .ok (.iconst (-1), 1) := by decide +kernel
theorem dX11_see_2 : decode cX11_see 2 = .ok (.if_icmp .ne 13, 3) := by decide +kernel
theorem dX11_see_5 : decode cX11_see 5 = .ok (.aload_n 0, 1) := by decide +kernel
theorem dX11_see_6 : decode cX11_see 6 = .ok (.getfield 12, 3) := by decide +kernel
theorem dX11_see_9 : decode cX11_see 9 = .ok (.iconst 0, 1) := by decide +kernel
theorem dX11_see_10 : decode cX11_see 10 = .ok (.putfield 201, 3) := by decide +kernel
theorem dX11_see_13 : decode cX11_see 13 = .ok (.iconst 0, 1) := by decide +kernel
theorem dX11_see_14 : decode cX11_see 14 = .ok (.ireturn, 1) := by decide +kernel
theorem dX11_see_15 : decode cX11_see 15 = .ok (.iload_n 1, 1) := by decide +kernel
theorem dX11_see_16 : decode cX11_see 16 = .ok (.bipush 10, 2) := by decide +kernel
theorem dX11_see_18 : decode cX11_see 18 = .ok (.invokestatic 67, 3) := by decide +kernel
theorem dX11_see_21 : decode cX11_see 21 = .ok (.ifCond .eq 12, 3) := by decide +kernel
theorem dX11_see_24 : decode cX11_see 24 = .ok (.iload_n 2, 1) := by decide +kernel
theorem dX11_see_25 : decode cX11_see 25 = .ok (.bipush 10, 2) := by decide +kernel
theorem dX11_see_27 : decode cX11_see 27 = .ok (.invokestatic 67, 3) := by decide +kernel
theorem dX11_see_30 : decode cX11_see 30 = .ok (.ifCond .ne 5, 3) := by decide +kernel
theorem dX11_see_33 : decode cX11_see 33 = .ok (.iconst (-1), 1) := by decide +kernel
theorem dX11_see_34 : decode cX11_see 34 = .ok (.ireturn, 1) := by decide +kernel
theorem dX11_see_35 : decode cX11_see 35 = .ok (.aload_n 0, 1) := by decide +kernel
theorem dX11_see_36 : decode cX11_see 36 = .ok (.getfield 12, 3) := by decide +kernel
theorem dX11_see_39 : decode cX11_see 39 = .ok (.getfield 201, 3) := by decide +kernel
theorem dX11_see_42 : decode cX11_see 42 = .ok (.bipush 6, 2) := by decide +kernel
theorem dX11_see_44 : decode cX11_see 44 = .ok (.invokestatic 67, 3) := by decide +kernel
theorem dX11_see_47 : decode cX11_see 47 = .ok (.ifCond .ne 6, 3) := by decide +kernel
theorem dX11_see_50 : decode cX11_see 50 = .ok (.bipush (-4), 2) := by decide +kernel
theorem dX11_see_52 : decode cX11_see 52 = .ok (.ireturn, 1) := by decide +kernel
theorem dX11_see_53 : decode cX11_see 53 = .ok (.aload_n 0, 1) := by decide +kernel
theorem dX11_see_54 : decode cX11_see 54 = .ok (.getfield 12, 3) := by decide +kernel
theorem dX11_see_57 : decode cX11_see 57 = .ok (.getfield 204, 3) := by decide +kernel
theorem dX11_see_60 : decode cX11_see 60 = .ok (.aload_n 0, 1) := by decide +kernel
theorem dX11_see_61 : decode cX11_see 61 = .ok (.getfield 12, 3) := by decide +kernel
theorem dX11_see_64 : decode cX11_see 64 = .ok (.getfield 201, 3) := by decide +kernel
theorem dX11_see_67 : decode cX11_see 67 = .ok (.iload_n 1, 1) := by decide +kernel
theorem dX11_see_68 : decode cX11_see 68 = .ok (.iload_n 2, 1) := by decide +kernel
theorem dX11_see_69 : decode cX11_see 69 = .ok (.invokestatic 207, 3) := by decide +kernel
theorem dX11_see_72 : decode cX11_see 72 = .ok (.iastore, 1) := by decide +kernel
theorem dX11_see_73 : decode cX11_see 73 = .ok (.aload_n 0, 1) := by decide +kernel
theorem dX11_see_74 : decode cX11_see 74 = .ok (.getfield 12, 3) := by decide +kernel
theorem dX11_see_77 : decode cX11_see 77 = .ok (.dup, 1) := by decide +kernel
theorem dX11_see_78 : decode cX11_see 78 = .ok (.getfield 201, 3) := by decide +kernel
theorem dX11_see_81 : decode cX11_see 81 = .ok (.iconst 1, 1) := by decide +kernel
theorem dX11_see_82 : decode cX11_see 82 = .ok (.iadd, 1) := by decide +kernel
theorem dX11_see_83 : decode cX11_see 83 = .ok (.putfield 201, 3) := by decide +kernel
theorem dX11_see_86 : decode cX11_see 86 = .ok (.aload_n 0, 1) := by decide +kernel
theorem dX11_see_87 : decode cX11_see 87 = .ok (.getfield 12, 3) := by decide +kernel
theorem dX11_see_90 : decode cX11_see 90 = .ok (.getfield 201, 3) := by decide +kernel
theorem dX11_see_93 : decode cX11_see 93 = .ok (.ireturn, 1) := by decide +kernel
theorem dX11_who_0 : decode cX11_who 0 = .ok (.iconst 0, 1) := by decide +kernel
theorem dX11_who_1 : decode cX11_who 1 = .ok (.istore_n 1, 1) := by decide +kernel
theorem dX11_who_2 : decode cX11_who 2 = .ok (.iconst 0, 1) := by decide +kernel
theorem dX11_who_3 : decode cX11_who 3 = .ok (.istore_n 2, 1) := by decide +kernel
theorem dX11_who_4 : decode cX11_who 4 = .ok (.iload_n 2, 1) := by decide +kernel
theorem dX11_who_5 : decode cX11_who 5 = .ok (.aload_n 0, 1) := by decide +kernel
theorem dX11_who_6 : decode cX11_who 6 = .ok (.getfield 12, 3) := by decide +kernel
theorem dX11_who_9 : decode cX11_who 9 = .ok (.getfield 71, 3) := by decide +kernel
theorem dX11_who_12 : decode cX11_who 12 = .ok (.if_icmp .ge 54, 3) := by decide +kernel
theorem dX11_who_15 : decode cX11_who 15 = .ok (.aload_n 0, 1) := by decide +kernel
theorem dX11_who_16 : decode cX11_who 16 = .ok (.iload_n 2, 1) := by decide +kernel
theorem dX11_who_17 : decode cX11_who 17 = .ok (.invokevirtual 83, 3) := by decide +kernel
theorem dX11_who_20 : decode cX11_who 20 = .ok (.astore_n 3, 1) := by decide +kernel
theorem dX11_who_21 : decode cX11_who 21 = .ok (.aload_n 3, 1) := by decide +kernel
theorem dX11_who_22 : decode cX11_who 22 = .ok (.ifnull 38, 3) := by decide +kernel
theorem dX11_who_25 : decode cX11_who 25 = .ok (.aload_n 0, 1) := by decide +kernel
theorem dX11_who_26 : decode cX11_who 26 = .ok (.getfield 12, 3) := by decide +kernel
theorem dX11_who_29 : decode cX11_who 29 = .ok (.aload_n 3, 1) := by decide +kernel
theorem dX11_who_30 : decode cX11_who 30 = .ok (.aload_n 0, 1) := by decide +kernel
theorem dX11_who_31 : decode cX11_who 31 = .ok (.getfield 12, 3) := by decide +kernel
theorem dX11_who_34 : decode cX11_who 34 = .ok (.invokevirtual 114, 3) := by decide +kernel
theorem dX11_who_37 : decode cX11_who 37 = .ok (.aload_n 3, 1) := by decide +kernel
theorem dX11_who_38 : decode cX11_who 38 = .ok (.aload_n 0, 1) := by decide +kernel
theorem dX11_who_39 : decode cX11_who 39 = .ok (.getfield 12, 3) := by decide +kernel
theorem dX11_who_42 : decode cX11_who 42 = .ok (.invokevirtual 118, 3) := by decide +kernel
theorem dX11_who_45 : decode cX11_who 45 = .ok (.invokestatic 207, 3) := by decide +kernel
theorem dX11_who_48 : decode cX11_who 48 = .ok (.invokevirtual 210, 3) := by decide +kernel
theorem dX11_who_51 : decode cX11_who 51 = .ok (.ifCond .eq 9, 3) := by decide +kernel
theorem dX11_who_54 : decode cX11_who 54 = .ok (.iload_n 1, 1) := by decide +kernel
theorem dX11_who_55 : decode cX11_who 55 = .ok (.iconst 1, 1) := by decide +kernel
theorem dX11_who_56 : decode cX11_who 56 = .ok (.iload_n 2, 1) := by decide +kernel
theorem dX11_who_57 : decode cX11_who 57 = .ok (.ishl, 1) := by decide +kernel
theorem dX11_who_58 : decode cX11_who 58 = .ok (.ior, 1) := by decide +kernel
theorem dX11_who_59 : decode cX11_who 59 = .ok (.istore_n 1, 1) := by decide +kernel
theorem dX11_who_60 : decode cX11_who 60 = .ok (.iinc 2 1, 3) := by decide +kernel
theorem dX11_who_63 : decode cX11_who 63 = .ok (.goto (-59), 3) := by decide +kernel
theorem dX11_who_66 : decode cX11_who 66 = .ok (.iload_n 1, 1) := by decide +kernel
theorem dX11_who_67 : decode cX11_who 67 = .ok (.ireturn, 1) := by decide +kernel
theorem dX11_odds_0 : decode cX11_odds 0 = .ok (.aload_n 0, 1) := by decide +kernel
theorem dX11_odds_1 : decode cX11_odds 1 = .ok (.iload_n 1, 1) := by decide +kernel
theorem dX11_odds_2 : decode cX11_odds 2 = .ok (.invokevirtual 83, 3) := by decide +kernel
theorem dX11_odds_5 : decode cX11_odds 5 = .ok (.astore_n 3, 1) := by decide +kernel
theorem dX11_odds_6 : decode cX11_odds 6 = .ok (.aload_n 3, 1) := by decide +kernel
theorem dX11_odds_7 : decode cX11_odds 7 = .ok (.ifnonnull 7, 3) := by decide +kernel
theorem dX11_odds_10 : decode cX11_odds 10 = .ok (.ldc2_w 213, 3) := by decide +kernel
theorem dX11_odds_13 : decode cX11_odds 13 = .ok (.lreturn, 1) := by decide +kernel
theorem dX11_odds_14 : decode cX11_odds 14 = .ok (.lconst 0, 1) := by decide +kernel
theorem dX11_odds_15 : decode cX11_odds 15 = .ok (.lstore 4, 2) := by decide +kernel
theorem dX11_odds_17 : decode cX11_odds 17 = .ok (.iconst 0, 1) := by decide +kernel
theorem dX11_odds_18 : decode cX11_odds 18 = .ok (.istore 6, 2) := by decide +kernel
theorem dX11_odds_20 : decode cX11_odds 20 = .ok (.iload 6, 2) := by decide +kernel
theorem dX11_odds_22 : decode cX11_odds 22 = .ok (.iconst 3, 1) := by decide +kernel
theorem dX11_odds_23 : decode cX11_odds 23 = .ok (.if_icmp .ge 22, 3) := by decide +kernel
theorem dX11_odds_26 : decode cX11_odds 26 = .ok (.lload 4, 2) := by decide +kernel
theorem dX11_odds_28 : decode cX11_odds 28 = .ok (.aload_n 0, 1) := by decide +kernel
theorem dX11_odds_29 : decode cX11_odds 29 = .ok (.aload_n 3, 1) := by decide +kernel
theorem dX11_odds_30 : decode cX11_odds 30 = .ok (.iload 6, 2) := by decide +kernel
theorem dX11_odds_32 : decode cX11_odds 32 = .ok (.invokevirtual 189, 3) := by decide +kernel
theorem dX11_odds_35 : decode cX11_odds 35 = .ok (.i2l, 1) := by decide +kernel
theorem dX11_odds_36 : decode cX11_odds 36 = .ok (.ladd, 1) := by decide +kernel
theorem dX11_odds_37 : decode cX11_odds 37 = .ok (.lstore 4, 2) := by decide +kernel
theorem dX11_odds_39 : decode cX11_odds 39 = .ok (.iinc 6 1, 3) := by decide +kernel
theorem dX11_odds_42 : decode cX11_odds 42 = .ok (.goto (-22), 3) := by decide +kernel
theorem dX11_odds_45 : decode cX11_odds 45 = .ok (.lload 4, 2) := by decide +kernel
theorem dX11_odds_47 : decode cX11_odds 47 = .ok (.ldc2_w 215, 3) := by decide +kernel
theorem dX11_odds_50 : decode cX11_odds 50 = .ok (.iload_n 2, 1) := by decide +kernel
theorem dX11_odds_51 : decode cX11_odds 51 = .ok (.invokestatic 217, 3) := by decide +kernel
theorem dX11_odds_54 : decode cX11_odds 54 = .ok (.lreturn, 1) := by decide +kernel
theorem dX11_mean_0 : decode cX11_mean 0 = .ok (.lconst 0, 1) := by decide +kernel
theorem dX11_mean_1 : decode cX11_mean 1 = .ok (.lstore_n 2, 1) := by decide +kernel
theorem dX11_mean_2 : decode cX11_mean 2 = .ok (.iconst 0, 1) := by decide +kernel
theorem dX11_mean_3 : decode cX11_mean 3 = .ok (.istore 4, 2) := by decide +kernel
theorem dX11_mean_5 : decode cX11_mean 5 = .ok (.iload 4, 2) := by decide +kernel
theorem dX11_mean_7 : decode cX11_mean 7 = .ok (.aload_n 0, 1) := by decide +kernel
theorem dX11_mean_8 : decode cX11_mean 8 = .ok (.getfield 12, 3) := by decide +kernel
theorem dX11_mean_11 : decode cX11_mean 11 = .ok (.getfield 71, 3) := by decide +kernel
theorem dX11_mean_14 : decode cX11_mean 14 = .ok (.if_icmp .ge 46, 3) := by decide +kernel
theorem dX11_mean_17 : decode cX11_mean 17 = .ok (.aload_n 0, 1) := by decide +kernel
theorem dX11_mean_18 : decode cX11_mean 18 = .ok (.iload 4, 2) := by decide +kernel
theorem dX11_mean_20 : decode cX11_mean 20 = .ok (.invokevirtual 83, 3) := by decide +kernel
theorem dX11_mean_23 : decode cX11_mean 23 = .ok (.astore 5, 2) := by decide +kernel
theorem dX11_mean_25 : decode cX11_mean 25 = .ok (.aload 5, 2) := by decide +kernel
theorem dX11_mean_27 : decode cX11_mean 27 = .ok (.ifnull 27, 3) := by decide +kernel
theorem dX11_mean_30 : decode cX11_mean 30 = .ok (.lload_n 2, 1) := by decide +kernel
theorem dX11_mean_31 : decode cX11_mean 31 = .ok (.aload_n 0, 1) := by decide +kernel
theorem dX11_mean_32 : decode cX11_mean 32 = .ok (.aload 5, 2) := by decide +kernel
theorem dX11_mean_34 : decode cX11_mean 34 = .ok (.aload_n 0, 1) := by decide +kernel
theorem dX11_mean_35 : decode cX11_mean 35 = .ok (.getfield 12, 3) := by decide +kernel
theorem dX11_mean_38 : decode cX11_mean 38 = .ok (.getfield 148, 3) := by decide +kernel
theorem dX11_mean_41 : decode cX11_mean 41 = .ok (.aload_n 0, 1) := by decide +kernel
theorem dX11_mean_42 : decode cX11_mean 42 = .ok (.getfield 12, 3) := by decide +kernel
theorem dX11_mean_45 : decode cX11_mean 45 = .ok (.getfield 151, 3) := by decide +kernel
theorem dX11_mean_48 : decode cX11_mean 48 = .ok (.invokevirtual 192, 3) := by decide +kernel
theorem dX11_mean_51 : decode cX11_mean 51 = .ok (.i2l, 1) := by decide +kernel
theorem dX11_mean_52 : decode cX11_mean 52 = .ok (.ladd, 1) := by decide +kernel
theorem dX11_mean_53 : decode cX11_mean 53 = .ok (.lstore_n 2, 1) := by decide +kernel
theorem dX11_mean_54 : decode cX11_mean 54 = .ok (.iinc 4 1, 3) := by decide +kernel
theorem dX11_mean_57 : decode cX11_mean 57 = .ok (.goto (-52), 3) := by decide +kernel
theorem dX11_mean_60 : decode cX11_mean 60 = .ok (.lload_n 2, 1) := by decide +kernel
theorem dX11_mean_61 : decode cX11_mean 61 = .ok (.aload_n 0, 1) := by decide +kernel
theorem dX11_mean_62 : decode cX11_mean 62 = .ok (.getfield 12, 3) := by decide +kernel
theorem dX11_mean_65 : decode cX11_mean 65 = .ok (.getfield 71, 3) := by decide +kernel
theorem dX11_mean_68 : decode cX11_mean 68 = .ok (.i2l, 1) := by decide +kernel
theorem dX11_mean_69 : decode cX11_mean 69 = .ok (.iload_n 1, 1) := by decide +kernel
theorem dX11_mean_70 : decode cX11_mean 70 = .ok (.invokestatic 217, 3) := by decide +kernel
theorem dX11_mean_73 : decode cX11_mean 73 = .ok (.lreturn, 1) := by decide +kernel
theorem dX11_book_0 : decode cX11_book 0 = .ok (.iload_n 1, 1) := by decide +kernel
theorem dX11_book_1 : decode cX11_book 1 = .ok (.iconst (-1), 1) := by decide +kernel
theorem dX11_book_2 : decode cX11_book 2 = .ok (.if_icmp .ne 13, 3) := by decide +kernel
theorem dX11_book_5 : decode cX11_book 5 = .ok (.aload_n 0, 1) := by decide +kernel
theorem dX11_book_6 : decode cX11_book 6 = .ok (.getfield 12, 3) := by decide +kernel
theorem dX11_book_9 : decode cX11_book 9 = .ok (.iconst 0, 1) := by decide +kernel
theorem dX11_book_10 : decode cX11_book 10 = .ok (.putfield 221, 3) := by decide +kernel
theorem dX11_book_13 : decode cX11_book 13 = .ok (.iconst 0, 1) := by decide +kernel
theorem dX11_book_14 : decode cX11_book 14 = .ok (.ireturn, 1) := by decide +kernel
theorem dX11_book_15 : decode cX11_book 15 = .ok (.aload_n 0, 1) := by decide +kernel
theorem dX11_book_16 : decode cX11_book 16 = .ok (.iload_n 1, 1) := by decide +kernel
theorem dX11_book_17 : decode cX11_book 17 = .ok (.invokevirtual 83, 3) := by decide +kernel
theorem dX11_book_20 : decode cX11_book 20 = .ok (.ifnonnull 5, 3) := by decide +kernel
theorem dX11_book_23 : decode cX11_book 23 = .ok (.iconst (-1), 1) := by decide +kernel
theorem dX11_book_24 : decode cX11_book 24 = .ok (.ireturn, 1) := by decide +kernel
theorem dX11_book_25 : decode cX11_book 25 = .ok (.iload_n 2, 1) := by decide +kernel
theorem dX11_book_26 : decode cX11_book 26 = .ok (.bipush 100, 2) := by decide +kernel
theorem dX11_book_28 : decode cX11_book 28 = .ok (.invokestatic 67, 3) := by decide +kernel
theorem dX11_book_31 : decode cX11_book 31 = .ok (.ifCond .eq 12, 3) := by decide +kernel
theorem dX11_book_34 : decode cX11_book 34 = .ok (.iload_n 3, 1) := by decide +kernel
theorem dX11_book_35 : decode cX11_book 35 = .ok (.bipush 100, 2) := by decide +kernel
theorem dX11_book_37 : decode cX11_book 37 = .ok (.invokestatic 67, 3) := by decide +kernel
theorem dX11_book_40 : decode cX11_book 40 = .ok (.ifCond .ne 6, 3) := by decide +kernel
theorem dX11_book_43 : decode cX11_book 43 = .ok (.bipush (-2), 2) := by decide +kernel
theorem dX11_book_45 : decode cX11_book 45 = .ok (.ireturn, 1) := by decide +kernel
theorem dX11_book_46 : decode cX11_book 46 = .ok (.aload_n 0, 1) := by decide +kernel
theorem dX11_book_47 : decode cX11_book 47 = .ok (.getfield 12, 3) := by decide +kernel
theorem dX11_book_50 : decode cX11_book 50 = .ok (.iload_n 1, 1) := by decide +kernel
theorem dX11_book_51 : decode cX11_book 51 = .ok (.iload_n 2, 1) := by decide +kernel
theorem dX11_book_52 : decode cX11_book 52 = .ok (.iload_n 3, 1) := by decide +kernel
theorem dX11_book_53 : decode cX11_book 53 = .ok (.invokevirtual 224, 3) := by decide +kernel
theorem dX11_book_56 : decode cX11_book 56 = .ok (.ifCond .eq 13, 3) := by decide +kernel
theorem dX11_book_59 : decode cX11_book 59 = .ok (.aload_n 0, 1) := by decide +kernel
theorem dX11_book_60 : decode cX11_book 60 = .ok (.getfield 12, 3) := by decide +kernel
theorem dX11_book_63 : decode cX11_book 63 = .ok (.getfield 221, 3) := by decide +kernel
theorem dX11_book_66 : decode cX11_book 66 = .ok (.goto 5, 3) := by decide +kernel
theorem dX11_book_69 : decode cX11_book 69 = .ok (.bipush (-4), 2) := by decide +kernel
theorem dX11_book_71 : decode cX11_book 71 = .ok (.ireturn, 1) := by decide +kernel
theorem dX11_looked_0 : decode cX11_looked 0 = .ok (.aload_n 0, 1) := by decide +kernel
theorem dX11_looked_1 : decode cX11_looked 1 = .ok (.getfield 21, 3) := by decide +kernel
theorem dX11_looked_4 : decode cX11_looked 4 = .ok (.aload_n 0, 1) := by decide +kernel
theorem dX11_looked_5 : decode cX11_looked 5 = .ok (.getfield 12, 3) := by decide +kernel
theorem dX11_looked_8 : decode cX11_looked 8 = .ok (.invokevirtual 179, 3) := by decide +kernel
theorem dX11_looked_11 : decode cX11_looked 11 = .ok (.iconst 0, 1) := by decide +kernel
theorem dX11_looked_12 : decode cX11_looked 12 = .ok (.istore_n 1, 1) := by decide +kernel
theorem dX11_looked_13 : decode cX11_looked 13 = .ok (.iload_n 1, 1) := by decide +kernel
theorem dX11_looked_14 : decode cX11_looked 14 = .ok (.aload_n 0, 1) := by decide +kernel
theorem dX11_looked_15 : decode cX11_looked 15 = .ok (.getfield 12, 3) := by decide +kernel
theorem dX11_looked_18 : decode cX11_looked 18 = .ok (.getfield 221, 3) := by decide +kernel
theorem dX11_looked_21 : decode cX11_looked 21 = .ok (.if_icmp .ge 90, 3) := by decide +kernel
theorem dX11_looked_24 : decode cX11_looked 24 = .ok (.iload_n 1, 1) := by decide +kernel
theorem dX11_looked_25 : decode cX11_looked 25 = .ok (.bipush 10, 2) := by decide +kernel
theorem dX11_looked_27 : decode cX11_looked 27 = .ok (.if_icmp .ge 84, 3) := by decide +kernel
theorem dX11_looked_30 : decode cX11_looked 30 = .ok (.aload_n 0, 1) := by decide +kernel
theorem dX11_looked_31 : decode cX11_looked 31 = .ok (.aload_n 0, 1) := by decide +kernel
theorem dX11_looked_32 : decode cX11_looked 32 = .ok (.getfield 12, 3) := by decide +kernel
theorem dX11_looked_35 : decode cX11_looked 35 = .ok (.getfield 228, 3) := by decide +kernel
theorem dX11_looked_38 : decode cX11_looked 38 = .ok (.iload_n 1, 1) := by decide +kernel
theorem dX11_looked_39 : decode cX11_looked 39 = .ok (.iaload, 1) := by decide +kernel
theorem dX11_looked_40 : decode cX11_looked 40 = .ok (.invokevirtual 83, 3) := by decide +kernel
theorem dX11_looked_43 : decode cX11_looked 43 = .ok (.astore_n 2, 1) := by decide +kernel
theorem dX11_looked_44 : decode cX11_looked 44 = .ok (.aload_n 0, 1) := by decide +kernel
theorem dX11_looked_45 : decode cX11_looked 45 = .ok (.getfield 21, 3) := by decide +kernel
theorem dX11_looked_48 : decode cX11_looked 48 = .ok (.invokevirtual 163, 3) := by decide +kernel
theorem dX11_looked_51 : decode cX11_looked 51 = .ok (.ifCond .eq 19, 3) := by decide +kernel
theorem dX11_looked_54 : decode cX11_looked 54 = .ok (.aload_n 0, 1) := by decide +kernel
theorem dX11_looked_55 : decode cX11_looked 55 = .ok (.getfield 21, 3) := by decide +kernel
theorem dX11_looked_58 : decode cX11_looked 58 = .ok (.iconst 0, 1) := by decide +kernel
theorem dX11_looked_59 : decode cX11_looked 59 = .ok (.putfield 148, 3) := by decide +kernel
theorem dX11_looked_62 : decode cX11_looked 62 = .ok (.aload_n 0, 1) := by decide +kernel
theorem dX11_looked_63 : decode cX11_looked 63 = .ok (.getfield 21, 3) := by decide +kernel
theorem dX11_looked_66 : decode cX11_looked 66 = .ok (.iconst 0, 1) := by decide +kernel
theorem dX11_looked_67 : decode cX11_looked 67 = .ok (.putfield 151, 3) := by decide +kernel
theorem dX11_looked_70 : decode cX11_looked 70 = .ok (.aload_n 2, 1) := by decide +kernel
theorem dX11_looked_71 : decode cX11_looked 71 = .ok (.ifnull 34, 3) := by decide +kernel
theorem dX11_looked_74 : decode cX11_looked 74 = .ok (.aload_n 0, 1) := by decide +kernel
theorem dX11_looked_75 : decode cX11_looked 75 = .ok (.getfield 21, 3) := by decide +kernel
theorem dX11_looked_78 : decode cX11_looked 78 = .ok (.aload_n 2, 1) := by decide +kernel
theorem dX11_looked_79 : decode cX11_looked 79 = .ok (.aload_n 0, 1) := by decide +kernel
theorem dX11_looked_80 : decode cX11_looked 80 = .ok (.getfield 12, 3) := by decide +kernel
theorem dX11_looked_83 : decode cX11_looked 83 = .ok (.getfield 231, 3) := by decide +kernel
theorem dX11_looked_86 : decode cX11_looked 86 = .ok (.iload_n 1, 1) := by decide +kernel
theorem dX11_looked_87 : decode cX11_looked 87 = .ok (.iaload, 1) := by decide +kernel
theorem dX11_looked_88 : decode cX11_looked 88 = .ok (.aload_n 0, 1) := by decide +kernel
theorem dX11_looked_89 : decode cX11_looked 89 = .ok (.getfield 12, 3) := by decide +kernel
theorem dX11_looked_92 : decode cX11_looked 92 = .ok (.getfield 234, 3) := by decide +kernel
theorem dX11_looked_95 : decode cX11_looked 95 = .ok (.iload_n 1, 1) := by decide +kernel
theorem dX11_looked_96 : decode cX11_looked 96 = .ok (.iaload, 1) := by decide +kernel
theorem dX11_looked_97 : decode cX11_looked 97 = .ok (.invokevirtual 167, 3) := by decide +kernel
theorem dX11_looked_100 : decode cX11_looked 100 = .ok (.ifCond .ne 5, 3) := by decide +kernel
theorem dX11_looked_103 : decode cX11_looked 103 = .ok (.iload_n 1, 1) := by decide +kernel
theorem dX11_looked_104 : decode cX11_looked 104 = .ok (.ireturn, 1) := by decide +kernel
theorem dX11_looked_105 : decode cX11_looked 105 = .ok (.iinc 1 1, 3) := by decide +kernel
theorem dX11_looked_108 : decode cX11_looked 108 = .ok (.goto (-95), 3) := by decide +kernel
theorem dX11_looked_111 : decode cX11_looked 111 = .ok (.bipush (-5), 2) := by decide +kernel
theorem dX11_looked_113 : decode cX11_looked 113 = .ok (.ireturn, 1) := by decide +kernel
theorem dX11_judge_0 : decode cX11_judge 0 = .ok (.aload_n 0, 1) := by decide +kernel
theorem dX11_judge_1 : decode cX11_judge 1 = .ok (.iload_n 1, 1) := by decide +kernel
theorem dX11_judge_2 : decode cX11_judge 2 = .ok (.invokevirtual 237, 3) := by decide +kernel
theorem dX11_judge_5 : decode cX11_judge 5 = .ok (.astore_n 3, 1) := by decide +kernel
theorem dX11_judge_6 : decode cX11_judge 6 = .ok (.aload_n 3, 1) := by decide +kernel
theorem dX11_judge_7 : decode cX11_judge 7 = .ok (.ifnonnull 5, 3) := by decide +kernel
theorem dX11_judge_10 : decode cX11_judge 10 = .ok (.iconst (-1), 1) := by decide +kernel
theorem dX11_judge_11 : decode cX11_judge 11 = .ok (.ireturn, 1) := by decide +kernel
theorem dX11_judge_12 : decode cX11_judge 12 = .ok (.aload_n 3, 1) := by decide +kernel
theorem dX11_judge_13 : decode cX11_judge 13 = .ok (.getfield 241, 3) := by decide +kernel
theorem dX11_judge_16 : decode cX11_judge 16 = .ok (.iconst (-1), 1) := by decide +kernel
theorem dX11_judge_17 : decode cX11_judge 17 = .ok (.if_icmp .eq 14, 3) := by decide +kernel
theorem dX11_judge_20 : decode cX11_judge 20 = .ok (.aload_n 3, 1) := by decide +kernel
theorem dX11_judge_21 : decode cX11_judge 21 = .ok (.getfield 241, 3) := by decide +kernel
theorem dX11_judge_24 : decode cX11_judge 24 = .ok (.iconst 1, 1) := by decide +kernel
theorem dX11_judge_25 : decode cX11_judge 25 = .ok (.if_icmp .eq 6, 3) := by decide +kernel
theorem dX11_judge_28 : decode cX11_judge 28 = .ok (.bipush (-12), 2) := by decide +kernel
theorem dX11_judge_30 : decode cX11_judge 30 = .ok (.ireturn, 1) := by decide +kernel
theorem dX11_judge_31 : decode cX11_judge 31 = .ok (.iconst 0, 1) := by decide +kernel
theorem dX11_judge_32 : decode cX11_judge 32 = .ok (.istore 4, 2) := by decide +kernel
theorem dX11_judge_34 : decode cX11_judge 34 = .ok (.iload 4, 2) := by decide +kernel
theorem dX11_judge_36 : decode cX11_judge 36 = .ok (.aload_n 0, 1) := by decide +kernel
theorem dX11_judge_37 : decode cX11_judge 37 = .ok (.getfield 12, 3) := by decide +kernel
theorem dX11_judge_40 : decode cX11_judge 40 = .ok (.getfield 71, 3) := by decide +kernel
theorem dX11_judge_43 : decode cX11_judge 43 = .ok (.if_icmp .ge 58, 3) := by decide +kernel
theorem dX11_judge_46 : decode cX11_judge 46 = .ok (.iload_n 2, 1) := by decide +kernel
theorem dX11_judge_47 : decode cX11_judge 47 = .ok (.ifCond .lt 16, 3) := by decide +kernel
theorem dX11_judge_50 : decode cX11_judge 50 = .ok (.aload_n 3, 1) := by decide +kernel
theorem dX11_judge_51 : decode cX11_judge 51 = .ok (.iload_n 2, 1) := by decide +kernel
theorem dX11_judge_52 : decode cX11_judge 52 = .ok (.i2l, 1) := by decide +kernel
theorem dX11_judge_53 : decode cX11_judge 53 = .ok (.iload 4, 2) := by decide +kernel
theorem dX11_judge_55 : decode cX11_judge 55 = .ok (.i2l, 1) := by decide +kernel
theorem dX11_judge_56 : decode cX11_judge 56 = .ok (.ladd, 1) := by decide +kernel
theorem dX11_judge_57 : decode cX11_judge 57 = .ok (.invokevirtual 244, 3) := by decide +kernel
theorem dX11_judge_60 : decode cX11_judge 60 = .ok (.ifCond .ne 9, 3) := by decide +kernel
theorem dX11_judge_63 : decode cX11_judge 63 = .ok (.bipush 100, 2) := by decide +kernel
theorem dX11_judge_65 : decode cX11_judge 65 = .ok (.iload 4, 2) := by decide +kernel
theorem dX11_judge_67 : decode cX11_judge 67 = .ok (.iadd, 1) := by decide +kernel
theorem dX11_judge_68 : decode cX11_judge 68 = .ok (.ireturn, 1) := by decide +kernel
theorem dX11_judge_69 : decode cX11_judge 69 = .ok (.aload_n 3, 1) := by decide +kernel
theorem dX11_judge_70 : decode cX11_judge 70 = .ok (.iload_n 2, 1) := by decide +kernel
theorem dX11_judge_71 : decode cX11_judge 71 = .ok (.iload 4, 2) := by decide +kernel
theorem dX11_judge_73 : decode cX11_judge 73 = .ok (.iadd, 1) := by decide +kernel
theorem dX11_judge_74 : decode cX11_judge 74 = .ok (.invokevirtual 248, 3) := by decide +kernel
theorem dX11_judge_77 : decode cX11_judge 77 = .ok (.aload_n 0, 1) := by decide +kernel
theorem dX11_judge_78 : decode cX11_judge 78 = .ok (.getfield 12, 3) := by decide +kernel
theorem dX11_judge_81 : decode cX11_judge 81 = .ok (.getfield 111, 3) := by decide +kernel
theorem dX11_judge_84 : decode cX11_judge 84 = .ok (.iload 4, 2) := by decide +kernel
theorem dX11_judge_86 : decode cX11_judge 86 = .ok (.iaload, 1) := by decide +kernel
theorem dX11_judge_87 : decode cX11_judge 87 = .ok (.i2l, 1) := by decide +kernel
theorem dX11_judge_88 : decode cX11_judge 88 = .ok (.lcmp, 1) := by decide +kernel
theorem dX11_judge_89 : decode cX11_judge 89 = .ok (.ifCond .eq 6, 3) := by decide +kernel
theorem dX11_judge_92 : decode cX11_judge 92 = .ok (.iload 4, 2) := by decide +kernel
theorem dX11_judge_94 : decode cX11_judge 94 = .ok (.ireturn, 1) := by decide +kernel
theorem dX11_judge_95 : decode cX11_judge 95 = .ok (.iinc 4 1, 3) := by decide +kernel
theorem dX11_judge_98 : decode cX11_judge 98 = .ok (.goto (-64), 3) := by decide +kernel
theorem dX11_judge_101 : decode cX11_judge 101 = .ok (.bipush (-5), 2) := by decide +kernel
theorem dX11_judge_103 : decode cX11_judge 103 = .ok (.ireturn, 1) := by decide +kernel
theorem dX11_image_0 : decode cX11_image 0 = .ok (.aload_n 0, 1) := by decide +kernel
theorem dX11_image_1 : decode cX11_image 1 = .ok (.getfield 18, 3) := by decide +kernel
theorem dX11_image_4 : decode cX11_image 4 = .ok (.aload_n 0, 1) := by decide +kernel
theorem dX11_image_5 : decode cX11_image 5 = .ok (.getfield 12, 3) := by decide +kernel
theorem dX11_image_8 : decode cX11_image 8 = .ok (.invokevirtual 179, 3) := by decide +kernel
theorem dX11_image_11 : decode cX11_image 11 = .ok (.aload_n 0, 1) := by decide +kernel
theorem dX11_image_12 : decode cX11_image 12 = .ok (.iconst 1, 1) := by decide +kernel
theorem dX11_image_13 : decode cX11_image 13 = .ok (.putfield 252, 3) := by decide +kernel
theorem dX11_image_16 : decode cX11_image 16 = .ok (.aload_n 0, 1) := by decide +kernel
theorem dX11_image_17 : decode cX11_image 17 = .ok (.getfield 18, 3) := by decide +kernel
theorem dX11_image_20 : decode cX11_image 20 = .ok (.getfield 71, 3) := by decide +kernel
theorem dX11_image_23 : decode cX11_image 23 = .ok (.ireturn, 1) := by decide +kernel
theorem dX11_undo_0 : decode cX11_undo 0 = .ok (.aload_n 0, 1) := by decide +kernel
theorem dX11_undo_1 : decode cX11_undo 1 = .ok (.getfield 252, 3) := by decide +kernel
theorem dX11_undo_4 : decode cX11_undo 4 = .ok (.ifCond .ne 6, 3) := by decide +kernel
theorem dX11_undo_7 : decode cX11_undo 7 = .ok (.bipush (-3), 2) := by decide +kernel
theorem dX11_undo_9 : decode cX11_undo 9 = .ok (.ireturn, 1) := by decide +kernel
theorem dX11_undo_10 : decode cX11_undo 10 = .ok (.aload_n 0, 1) := by decide +kernel
theorem dX11_undo_11 : decode cX11_undo 11 = .ok (.getfield 12, 3) := by decide +kernel
theorem dX11_undo_14 : decode cX11_undo 14 = .ok (.aload_n 0, 1) := by decide +kernel
theorem dX11_undo_15 : decode cX11_undo 15 = .ok (.getfield 18, 3) := by decide +kernel
theorem dX11_undo_18 : decode cX11_undo 18 = .ok (.invokevirtual 179, 3) := by decide +kernel
theorem dX11_undo_21 : decode cX11_undo 21 = .ok (.aload_n 0, 1) := by decide +kernel
theorem dX11_undo_22 : decode cX11_undo 22 = .ok (.getfield 12, 3) := by decide +kernel
theorem dX11_undo_25 : decode cX11_undo 25 = .ok (.getfield 71, 3) := by decide +kernel
theorem dX11_undo_28 : decode cX11_undo 28 = .ok (.ireturn, 1) := by decide +kernel
theorem dX11_act_0 : decode cX11_act 0 = .ok (.aload_n 0, 1) := by decide +kernel
theorem dX11_act_1 : decode cX11_act 1 = .ok (.getfield 46, 3) := by decide +kernel
theorem dX11_act_4 : decode cX11_act 4 = .ok (.invokevirtual 256, 3) := by decide +kernel
theorem dX11_act_7 : decode cX11_act 7 = .ok (.aload_n 0, 1) := by decide +kernel
theorem dX11_act_8 : decode cX11_act 8 = .ok (.iload_n 1, 1) := by decide +kernel
theorem dX11_act_9 : decode cX11_act 9 = .ok (.invokevirtual 83, 3) := by decide +kernel
theorem dX11_act_12 : decode cX11_act 12 = .ok (.astore 4, 2) := by decide +kernel
theorem dX11_act_14 : decode cX11_act 14 = .ok (.aload 4, 2) := by decide +kernel
theorem dX11_act_16 : decode cX11_act 16 = .ok (.ifnonnull 5, 3) := by decide +kernel
theorem dX11_act_19 : decode cX11_act 19 = .ok (.iconst 0, 1) := by decide +kernel
theorem dX11_act_20 : decode cX11_act 20 = .ok (.ireturn, 1) := by decide +kernel
theorem dX11_act_21 : decode cX11_act 21 = .ok (.iload_n 2, 1) := by decide +kernel
theorem dX11_act_22 : decode cX11_act 22 = .ok (.tableswitch 59 0 2 #[26, 37, 48], 26) := by decide +kernel
theorem dX11_act_48 : decode cX11_act 48 = .ok (.aload 4, 2) := by decide +kernel
theorem dX11_act_50 : decode cX11_act 50 = .ok (.iload_n 3, 1) := by decide +kernel
theorem dX11_act_51 : decode cX11_act 51 = .ok (.aload_n 0, 1) := by decide +kernel
theorem dX11_act_52 : decode cX11_act 52 = .ok (.getfield 46, 3) := by decide +kernel
theorem dX11_act_55 : decode cX11_act 55 = .ok (.invokevirtual 259, 3) := by decide +kernel
theorem dX11_act_58 : decode cX11_act 58 = .ok (.ireturn, 1) := by decide +kernel
theorem dX11_act_59 : decode cX11_act 59 = .ok (.aload 4, 2) := by decide +kernel
theorem dX11_act_61 : decode cX11_act 61 = .ok (.iload_n 3, 1) := by decide +kernel
theorem dX11_act_62 : decode cX11_act 62 = .ok (.aload_n 0, 1) := by decide +kernel
theorem dX11_act_63 : decode cX11_act 63 = .ok (.getfield 46, 3) := by decide +kernel
theorem dX11_act_66 : decode cX11_act 66 = .ok (.invokevirtual 263, 3) := by decide +kernel
theorem dX11_act_69 : decode cX11_act 69 = .ok (.ireturn, 1) := by decide +kernel
theorem dX11_act_70 : decode cX11_act 70 = .ok (.aload 4, 2) := by decide +kernel
theorem dX11_act_72 : decode cX11_act 72 = .ok (.iload_n 3, 1) := by decide +kernel
theorem dX11_act_73 : decode cX11_act 73 = .ok (.aload_n 0, 1) := by decide +kernel
theorem dX11_act_74 : decode cX11_act 74 = .ok (.getfield 46, 3) := by decide +kernel
theorem dX11_act_77 : decode cX11_act 77 = .ok (.invokevirtual 266, 3) := by decide +kernel
theorem dX11_act_80 : decode cX11_act 80 = .ok (.ireturn, 1) := by decide +kernel
theorem dX11_act_81 : decode cX11_act 81 = .ok (.iconst 0, 1) := by decide +kernel
theorem dX11_act_82 : decode cX11_act 82 = .ok (.ireturn, 1) := by decide +kernel
theorem dX11_trace_0 : decode cX11_trace 0 = .ok (.iload_n 1, 1) := by decide +kernel
theorem dX11_trace_1 : decode cX11_trace 1 = .ok (.bipush 20, 2) := by decide +kernel
theorem dX11_trace_3 : decode cX11_trace 3 = .ok (.aload_n 0, 1) := by decide +kernel
theorem dX11_trace_4 : decode cX11_trace 4 = .ok (.getfield 46, 3) := by decide +kernel
theorem dX11_trace_7 : decode cX11_trace 7 = .ok (.invokevirtual 269, 3) := by decide +kernel
theorem dX11_trace_10 : decode cX11_trace 10 = .ok (.invokestatic 183, 3) := by decide +kernel
theorem dX11_trace_13 : decode cX11_trace 13 = .ok (.invokestatic 67, 3) := by decide +kernel
theorem dX11_trace_16 : decode cX11_trace 16 = .ok (.ifCond .eq 20, 3) := by decide +kernel
theorem dX11_trace_19 : decode cX11_trace 19 = .ok (.aload_n 0, 1) := by decide +kernel
theorem dX11_trace_20 : decode cX11_trace 20 = .ok (.getfield 46, 3) := by decide +kernel
theorem dX11_trace_23 : decode cX11_trace 23 = .ok (.iload_n 1, 1) := by decide +kernel
theorem dX11_trace_24 : decode cX11_trace 24 = .ok (.invokevirtual 273, 3) := by decide +kernel
theorem dX11_trace_27 : decode cX11_trace 27 = .ok (.checkcast 277, 3) := by decide +kernel
theorem dX11_trace_30 : decode cX11_trace 30 = .ok (.invokevirtual 279, 3) := by decide +kernel
theorem dX11_trace_33 : decode cX11_trace 33 = .ok (.goto 4, 3) := by decide +kernel
theorem dX11_trace_36 : decode cX11_trace 36 = .ok (.iconst (-1), 1) := by decide +kernel
theorem dX11_trace_37 : decode cX11_trace 37 = .ok (.ireturn, 1) := by decide +kernel
theorem dX11_taken_0 : decode cX11_taken 0 = .ok (.iload_n 2, 1) := by decide +kernel
theorem dX11_taken_1 : decode cX11_taken 1 = .ok (.bipush 7, 2) := by decide +kernel
theorem dX11_taken_3 : decode cX11_taken 3 = .ok (.invokestatic 67, 3) := by decide +kernel
theorem dX11_taken_6 : decode cX11_taken 6 = .ok (.ifCond .ne 6, 3) := by decide +kernel
theorem dX11_taken_9 : decode cX11_taken 9 = .ok (.bipush (-2), 2) := by decide +kernel
theorem dX11_taken_11 : decode cX11_taken 11 = .ok (.ireturn, 1) := by decide +kernel
theorem dX11_taken_12 : decode cX11_taken 12 = .ok (.aload_n 0, 1) := by decide +kernel
theorem dX11_taken_13 : decode cX11_taken 13 = .ok (.iload_n 1, 1) := by decide +kernel
theorem dX11_taken_14 : decode cX11_taken 14 = .ok (.invokevirtual 83, 3) := by decide +kernel
theorem dX11_taken_17 : decode cX11_taken 17 = .ok (.astore_n 3, 1) := by decide +kernel
theorem dX11_taken_18 : decode cX11_taken 18 = .ok (.aload_n 3, 1) := by decide +kernel
theorem dX11_taken_19 : decode cX11_taken 19 = .ok (.ifnonnull 6, 3) := by decide +kernel
theorem dX11_taken_22 : decode cX11_taken 22 = .ok (.bipush (-11), 2) := by decide +kernel
theorem dX11_taken_24 : decode cX11_taken 24 = .ok (.ireturn, 1) := by decide +kernel
theorem dX11_taken_25 : decode cX11_taken 25 = .ok (.aload_n 3, 1) := by decide +kernel
theorem dX11_taken_26 : decode cX11_taken 26 = .ok (.iload_n 2, 1) := by decide +kernel
theorem dX11_taken_27 : decode cX11_taken 27 = .ok (.invokestatic 282, 3) := by decide +kernel
theorem dX11_taken_30 : decode cX11_taken 30 = .ok (.ifCond .eq 10, 3) := by decide +kernel
theorem dX11_taken_33 : decode cX11_taken 33 = .ok (.aload_n 3, 1) := by decide +kernel
theorem dX11_taken_34 : decode cX11_taken 34 = .ok (.getfield 94, 3) := by decide +kernel
theorem dX11_taken_37 : decode cX11_taken 37 = .ok (.goto 5, 3) := by decide +kernel
theorem dX11_taken_40 : decode cX11_taken 40 = .ok (.bipush (-12), 2) := by decide +kernel
theorem dX11_taken_42 : decode cX11_taken 42 = .ok (.ireturn, 1) := by decide +kernel
theorem dX11_count_0 : decode cX11_count 0 = .ok (.iload_n 1, 1) := by decide +kernel
theorem dX11_count_1 : decode cX11_count 1 = .ok (.tableswitch 84 0 5 #[39, 47, 52, 60, 68, 76], 39) := by decide +kernel
theorem dX11_count_40 : decode cX11_count 40 = .ok (.aload_n 0, 1) := by decide +kernel
theorem dX11_count_41 : decode cX11_count 41 = .ok (.getfield 12, 3) := by decide +kernel
theorem dX11_count_44 : decode cX11_count 44 = .ok (.getfield 71, 3) := by decide +kernel
theorem dX11_count_47 : decode cX11_count 47 = .ok (.ireturn, 1) := by decide +kernel
theorem dX11_count_48 : decode cX11_count 48 = .ok (.aload_n 0, 1) := by decide +kernel
theorem dX11_count_49 : decode cX11_count 49 = .ok (.getfield 137, 3) := by decide +kernel
theorem dX11_count_52 : decode cX11_count 52 = .ok (.ireturn, 1) := by decide +kernel
theorem dX11_count_53 : decode cX11_count 53 = .ok (.aload_n 0, 1) := by decide +kernel
theorem dX11_count_54 : decode cX11_count 54 = .ok (.getfield 12, 3) := by decide +kernel
theorem dX11_count_57 : decode cX11_count 57 = .ok (.getfield 201, 3) := by decide +kernel
theorem dX11_count_60 : decode cX11_count 60 = .ok (.ireturn, 1) := by decide +kernel
theorem dX11_count_61 : decode cX11_count 61 = .ok (.aload_n 0, 1) := by decide +kernel
theorem dX11_count_62 : decode cX11_count 62 = .ok (.getfield 12, 3) := by decide +kernel
theorem dX11_count_65 : decode cX11_count 65 = .ok (.getfield 221, 3) := by decide +kernel
theorem dX11_count_68 : decode cX11_count 68 = .ok (.ireturn, 1) := by decide +kernel
theorem dX11_count_69 : decode cX11_count 69 = .ok (.aload_n 0, 1) := by decide +kernel
theorem dX11_count_70 : decode cX11_count 70 = .ok (.getfield 27, 3) := by decide +kernel
theorem dX11_count_73 : decode cX11_count 73 = .ok (.getfield 134, 3) := by decide +kernel
theorem dX11_count_76 : decode cX11_count 76 = .ok (.ireturn, 1) := by decide +kernel
theorem dX11_count_77 : decode cX11_count 77 = .ok (.aload_n 0, 1) := by decide +kernel
theorem dX11_count_78 : decode cX11_count 78 = .ok (.getfield 46, 3) := by decide +kernel
theorem dX11_count_81 : decode cX11_count 81 = .ok (.invokevirtual 269, 3) := by decide +kernel
theorem dX11_count_84 : decode cX11_count 84 = .ok (.ireturn, 1) := by decide +kernel
theorem dX11_count_85 : decode cX11_count 85 = .ok (.bipush (-2), 2) := by decide +kernel
theorem dX11_count_87 : decode cX11_count 87 = .ok (.ireturn, 1) := by decide +kernel
theorem dX11_tape_0 : decode cX11_tape 0 = .ok (.aload_n 0, 1) := by decide +kernel
theorem dX11_tape_1 : decode cX11_tape 1 = .ok (.iload_n 1, 1) := by decide +kernel
theorem dX11_tape_2 : decode cX11_tape 2 = .ok (.invokevirtual 237, 3) := by decide +kernel
theorem dX11_tape_5 : decode cX11_tape 5 = .ok (.astore 4, 2) := by decide +kernel
theorem dX11_tape_7 : decode cX11_tape 7 = .ok (.aload 4, 2) := by decide +kernel
theorem dX11_tape_9 : decode cX11_tape 9 = .ok (.ifnonnull 5, 3) := by decide +kernel
theorem dX11_tape_12 : decode cX11_tape 12 = .ok (.iconst (-1), 1) := by decide +kernel
theorem dX11_tape_13 : decode cX11_tape 13 = .ok (.ireturn, 1) := by decide +kernel
theorem dX11_tape_14 : decode cX11_tape 14 = .ok (.iload_n 2, 1) := by decide +kernel
theorem dX11_tape_15 : decode cX11_tape 15 = .ok (.iconst (-1), 1) := by decide +kernel
theorem dX11_tape_16 : decode cX11_tape 16 = .ok (.if_icmp .ne 12, 3) := by decide +kernel
theorem dX11_tape_19 : decode cX11_tape 19 = .ok (.aload 4, 2) := by decide +kernel
theorem dX11_tape_21 : decode cX11_tape 21 = .ok (.iconst (-1), 1) := by decide +kernel
theorem dX11_tape_22 : decode cX11_tape 22 = .ok (.iconst 0, 1) := by decide +kernel
theorem dX11_tape_23 : decode cX11_tape 23 = .ok (.invokevirtual 286, 3) := by decide +kernel
theorem dX11_tape_26 : decode cX11_tape 26 = .ok (.iconst 1, 1) := by decide +kernel
theorem dX11_tape_27 : decode cX11_tape 27 = .ok (.ireturn, 1) := by decide +kernel
theorem dX11_tape_28 : decode cX11_tape 28 = .ok (.iload_n 2, 1) := by decide +kernel
theorem dX11_tape_29 : decode cX11_tape 29 = .ok (.iconst 5, 1) := by decide +kernel
theorem dX11_tape_30 : decode cX11_tape 30 = .ok (.invokestatic 67, 3) := by decide +kernel
theorem dX11_tape_33 : decode cX11_tape 33 = .ok (.ifCond .eq 9, 3) := by decide +kernel
theorem dX11_tape_36 : decode cX11_tape 36 = .ok (.iload_n 3, 1) := by decide +kernel
theorem dX11_tape_37 : decode cX11_tape 37 = .ok (.bipush 60, 2) := by decide +kernel
theorem dX11_tape_39 : decode cX11_tape 39 = .ok (.if_icmp .le 6, 3) := by decide +kernel
theorem dX11_tape_42 : decode cX11_tape 42 = .ok (.bipush (-2), 2) := by decide +kernel
theorem dX11_tape_44 : decode cX11_tape 44 = .ok (.ireturn, 1) := by decide +kernel
theorem dX11_tape_45 : decode cX11_tape 45 = .ok (.iload_n 3, 1) := by decide +kernel
theorem dX11_tape_46 : decode cX11_tape 46 = .ok (.ifCond .ge 6, 3) := by decide +kernel
theorem dX11_tape_49 : decode cX11_tape 49 = .ok (.bipush (-14), 2) := by decide +kernel
theorem dX11_tape_51 : decode cX11_tape 51 = .ok (.ireturn, 1) := by decide +kernel
theorem dX11_tape_52 : decode cX11_tape 52 = .ok (.aload 4, 2) := by decide +kernel
theorem dX11_tape_54 : decode cX11_tape 54 = .ok (.iload_n 2, 1) := by decide +kernel
theorem dX11_tape_55 : decode cX11_tape 55 = .ok (.iload_n 3, 1) := by decide +kernel
theorem dX11_tape_56 : decode cX11_tape 56 = .ok (.invokevirtual 286, 3) := by decide +kernel
theorem dX11_tape_59 : decode cX11_tape 59 = .ok (.iconst 1, 1) := by decide +kernel
theorem dX11_tape_60 : decode cX11_tape 60 = .ok (.ireturn, 1) := by decide +kernel
theorem dX11_item_0 : decode cX11_item 0 = .ok (.aload_n 0, 1) := by decide +kernel
theorem dX11_item_1 : decode cX11_item 1 = .ok (.iload_n 1, 1) := by decide +kernel
theorem dX11_item_2 : decode cX11_item 2 = .ok (.invokevirtual 237, 3) := by decide +kernel
theorem dX11_item_5 : decode cX11_item 5 = .ok (.astore 5, 2) := by decide +kernel
theorem dX11_item_7 : decode cX11_item 7 = .ok (.aload 5, 2) := by decide +kernel
theorem dX11_item_9 : decode cX11_item 9 = .ok (.ifnonnull 5, 3) := by decide +kernel
theorem dX11_item_12 : decode cX11_item 12 = .ok (.iconst (-1), 1) := by decide +kernel
theorem dX11_item_13 : decode cX11_item 13 = .ok (.ireturn, 1) := by decide +kernel
theorem dX11_item_14 : decode cX11_item 14 = .ok (.aload 5, 2) := by decide +kernel
theorem dX11_item_16 : decode cX11_item 16 = .ok (.getfield 241, 3) := by decide +kernel
theorem dX11_item_19 : decode cX11_item 19 = .ok (.iconst (-1), 1) := by decide +kernel
theorem dX11_item_20 : decode cX11_item 20 = .ok (.if_icmp .ne 6, 3) := by decide +kernel
theorem dX11_item_23 : decode cX11_item 23 = .ok (.bipush (-11), 2) := by decide +kernel
theorem dX11_item_25 : decode cX11_item 25 = .ok (.ireturn, 1) := by decide +kernel
theorem dX11_item_26 : decode cX11_item 26 = .ok (.aload 5, 2) := by decide +kernel
theorem dX11_item_28 : decode cX11_item 28 = .ok (.iload_n 2, 1) := by decide +kernel
theorem dX11_item_29 : decode cX11_item 29 = .ok (.lload_n 3, 1) := by decide +kernel
theorem dX11_item_30 : decode cX11_item 30 = .ok (.invokevirtual 290, 3) := by decide +kernel
theorem dX11_item_33 : decode cX11_item 33 = .ok (.ifCond .eq 7, 3) := by decide +kernel
theorem dX11_item_36 : decode cX11_item 36 = .ok (.iconst 1, 1) := by decide +kernel
theorem dX11_item_37 : decode cX11_item 37 = .ok (.goto 5, 3) := by decide +kernel
theorem dX11_item_40 : decode cX11_item 40 = .ok (.bipush (-13), 2) := by decide +kernel
theorem dX11_item_42 : decode cX11_item 42 = .ok (.ireturn, 1) := by decide +kernel
theorem dX11_read_0 : decode cX11_read 0 = .ok (.aload_n 0, 1) := by decide +kernel
theorem dX11_read_1 : decode cX11_read 1 = .ok (.iload_n 1, 1) := by decide +kernel
theorem dX11_read_2 : decode cX11_read 2 = .ok (.invokevirtual 237, 3) := by decide +kernel
theorem dX11_read_5 : decode cX11_read 5 = .ok (.astore_n 3, 1) := by decide +kernel
theorem dX11_read_6 : decode cX11_read 6 = .ok (.aload_n 3, 1) := by decide +kernel
theorem dX11_read_7 : decode cX11_read 7 = .ok (.ifnonnull 9, 3) := by decide +kernel
theorem dX11_read_10 : decode cX11_read 10 = .ok (.ldc2_w 213, 3) := by decide +kernel
theorem dX11_read_13 : decode cX11_read 13 = .ok (.goto 8, 3) := by decide +kernel
theorem dX11_read_16 : decode cX11_read 16 = .ok (.aload_n 3, 1) := by decide +kernel
theorem dX11_read_17 : decode cX11_read 17 = .ok (.iload_n 2, 1) := by decide +kernel
theorem dX11_read_18 : decode cX11_read 18 = .ok (.invokevirtual 248, 3) := by decide +kernel
theorem dX11_read_21 : decode cX11_read 21 = .ok (.lreturn, 1) := by decide +kernel
theorem dX11_shift_0 : decode cX11_shift 0 = .ok (.aload_n 0, 1) := by decide +kernel
theorem dX11_shift_1 : decode cX11_shift 1 = .ok (.iload_n 1, 1) := by decide +kernel
theorem dX11_shift_2 : decode cX11_shift 2 = .ok (.invokevirtual 237, 3) := by decide +kernel
theorem dX11_shift_5 : decode cX11_shift 5 = .ok (.astore 6, 2) := by decide +kernel
theorem dX11_shift_7 : decode cX11_shift 7 = .ok (.aload_n 0, 1) := by decide +kernel
theorem dX11_shift_8 : decode cX11_shift 8 = .ok (.iload_n 3, 1) := by decide +kernel
theorem dX11_shift_9 : decode cX11_shift 9 = .ok (.invokevirtual 237, 3) := by decide +kernel
theorem dX11_shift_12 : decode cX11_shift 12 = .ok (.astore 7, 2) := by decide +kernel
theorem dX11_shift_14 : decode cX11_shift 14 = .ok (.aload 6, 2) := by decide +kernel
theorem dX11_shift_16 : decode cX11_shift 16 = .ok (.ifnull 8, 3) := by decide +kernel
theorem dX11_shift_19 : decode cX11_shift 19 = .ok (.aload 7, 2) := by decide +kernel
theorem dX11_shift_21 : decode cX11_shift 21 = .ok (.ifnonnull 5, 3) := by decide +kernel
theorem dX11_shift_24 : decode cX11_shift 24 = .ok (.iconst (-1), 1) := by decide +kernel
theorem dX11_shift_25 : decode cX11_shift 25 = .ok (.ireturn, 1) := by decide +kernel
theorem dX11_shift_26 : decode cX11_shift 26 = .ok (.aload 6, 2) := by decide +kernel
theorem dX11_shift_28 : decode cX11_shift 28 = .ok (.getfield 241, 3) := by decide +kernel
theorem dX11_shift_31 : decode cX11_shift 31 = .ok (.iconst (-1), 1) := by decide +kernel
theorem dX11_shift_32 : decode cX11_shift 32 = .ok (.if_icmp .eq 12, 3) := by decide +kernel
theorem dX11_shift_35 : decode cX11_shift 35 = .ok (.aload 7, 2) := by decide +kernel
theorem dX11_shift_37 : decode cX11_shift 37 = .ok (.getfield 241, 3) := by decide +kernel
theorem dX11_shift_40 : decode cX11_shift 40 = .ok (.iconst (-1), 1) := by decide +kernel
theorem dX11_shift_41 : decode cX11_shift 41 = .ok (.if_icmp .ne 6, 3) := by decide +kernel
theorem dX11_shift_44 : decode cX11_shift 44 = .ok (.bipush (-11), 2) := by decide +kernel
theorem dX11_shift_46 : decode cX11_shift 46 = .ok (.ireturn, 1) := by decide +kernel
theorem dX11_shift_47 : decode cX11_shift 47 = .ok (.aload 6, 2) := by decide +kernel
theorem dX11_shift_49 : decode cX11_shift 49 = .ok (.getfield 241, 3) := by decide +kernel
theorem dX11_shift_52 : decode cX11_shift 52 = .ok (.aload 7, 2) := by decide +kernel
theorem dX11_shift_54 : decode cX11_shift 54 = .ok (.getfield 241, 3) := by decide +kernel
theorem dX11_shift_57 : decode cX11_shift 57 = .ok (.if_icmp .eq 6, 3) := by decide +kernel
theorem dX11_shift_60 : decode cX11_shift 60 = .ok (.bipush (-12), 2) := by decide +kernel
