theorem dX4_lettersOf_37 : decode cX4_lettersOf 37 = .ok (.aload_n 0, 1) := by decide +kernel
theorem dX4_lettersOf_38 : decode cX4_lettersOf 38 = .ok (.getfield 56, 3) := by decide +kernel
theorem dX4_lettersOf_41 : decode cX4_lettersOf 41 = .ok (.iconst 4, 1) := by decide +kernel
theorem dX4_lettersOf_42 : decode cX4_lettersOf 42 = .ok (.aload_n 0, 1) := by decide +kernel
theorem dX4_lettersOf_43 : decode cX4_lettersOf 43 = .ok (.getfield 68, 3) := by decide +kernel
theorem dX4_lettersOf_46 : decode cX4_lettersOf 46 = .ok (.iastore, 1) := by decide +kernel
theorem dX4_lettersOf_47 : decode cX4_lettersOf 47 = .ok (.aload_n 0, 1) := by decide +kernel
theorem dX4_lettersOf_48 : decode cX4_lettersOf 48 = .ok (.getfield 56, 3) := by decide +kernel
theorem dX4_lettersOf_51 : decode cX4_lettersOf 51 = .ok (.iconst 5, 1) := by decide +kernel
theorem dX4_lettersOf_52 : decode cX4_lettersOf 52 = .ok (.aload_n 0, 1) := by decide +kernel
theorem dX4_lettersOf_53 : decode cX4_lettersOf 53 = .ok (.getfield 71, 3) := by decide +kernel
theorem dX4_lettersOf_56 : decode cX4_lettersOf 56 = .ok (.iastore, 1) := by decide +kernel
theorem dX4_lettersOf_57 : decode cX4_lettersOf 57 = .ok (.aload_n 0, 1) := by decide +kernel
theorem dX4_lettersOf_58 : decode cX4_lettersOf 58 = .ok (.getfield 56, 3) := by decide +kernel
theorem dX4_lettersOf_61 : decode cX4_lettersOf 61 = .ok (.areturn, 1) := by decide +kernel
theorem dX4_chanceBy_0 : decode cX4_chanceBy 0 = .ok (.aload_n 0, 1) := by decide +kernel
theorem dX4_chanceBy_1 : decode cX4_chanceBy 1 = .ok (.aload_n 1, 1) := by decide +kernel
theorem dX4_chanceBy_2 : decode cX4_chanceBy 2 = .ok (.iload_n 2, 1) := by decide +kernel
theorem dX4_chanceBy_3 : decode cX4_chanceBy 3 = .ok (.invokevirtual 120, 3) := by decide +kernel
theorem dX4_chanceBy_6 : decode cX4_chanceBy 6 = .ok (.aload_n 0, 1) := by decide +kernel
theorem dX4_chanceBy_7 : decode cX4_chanceBy 7 = .ok (.aload_n 1, 1) := by decide +kernel
theorem dX4_chanceBy_8 : decode cX4_chanceBy 8 = .ok (.iload_n 2, 1) := by decide +kernel
theorem dX4_chanceBy_9 : decode cX4_chanceBy 9 = .ok (.invokevirtual 124, 3) := by decide +kernel
theorem dX4_chanceBy_12 : decode cX4_chanceBy 12 = .ok (.aload_n 0, 1) := by decide +kernel
theorem dX4_chanceBy_13 : decode cX4_chanceBy 13 = .ok (.aload_n 1, 1) := by decide +kernel
theorem dX4_chanceBy_14 : decode cX4_chanceBy 14 = .ok (.iload_n 3, 1) := by decide +kernel
theorem dX4_chanceBy_15 : decode cX4_chanceBy 15 = .ok (.invokevirtual 120, 3) := by decide +kernel
theorem dX4_chanceBy_18 : decode cX4_chanceBy 18 = .ok (.aload_n 0, 1) := by decide +kernel
theorem dX4_chanceBy_19 : decode cX4_chanceBy 19 = .ok (.aload_n 1, 1) := by decide +kernel
theorem dX4_chanceBy_20 : decode cX4_chanceBy 20 = .ok (.iload_n 3, 1) := by decide +kernel
theorem dX4_chanceBy_21 : decode cX4_chanceBy 21 = .ok (.invokevirtual 124, 3) := by decide +kernel
theorem dX4_chanceBy_24 : decode cX4_chanceBy 24 = .ok (.invokestatic 127, 3) := by decide +kernel
theorem dX4_chanceBy_27 : decode cX4_chanceBy 27 = .ok (.ireturn, 1) := by decide +kernel
theorem dX4_chanceOf_0 : decode cX4_chanceOf 0 = .ok (.aload_n 0, 1) := by decide +kernel
theorem dX4_chanceOf_1 : decode cX4_chanceOf 1 = .ok (.aload_n 1, 1) := by decide +kernel
theorem dX4_chanceOf_2 : decode cX4_chanceOf 2 = .ok (.aload_n 1, 1) := by decide +kernel
theorem dX4_chanceOf_3 : decode cX4_chanceOf 3 = .ok (.aload_n 0, 1) := by decide +kernel
theorem dX4_chanceOf_4 : decode cX4_chanceOf 4 = .ok (.invokevirtual 131, 3) := by decide +kernel
theorem dX4_chanceOf_7 : decode cX4_chanceOf 7 = .ok (.aload_n 1, 1) := by decide +kernel
theorem dX4_chanceOf_8 : decode cX4_chanceOf 8 = .ok (.aload_n 0, 1) := by decide +kernel
theorem dX4_chanceOf_9 : decode cX4_chanceOf 9 = .ok (.invokevirtual 135, 3) := by decide +kernel
theorem dX4_chanceOf_12 : decode cX4_chanceOf 12 = .ok (.invokevirtual 138, 3) := by decide +kernel
theorem dX4_chanceOf_15 : decode cX4_chanceOf 15 = .ok (.ireturn, 1) := by decide +kernel
theorem dX4_faultsBy_0 : decode cX4_faultsBy 0 = .ok (.bipush 100, 2) := by decide +kernel
theorem dX4_faultsBy_2 : decode cX4_faultsBy 2 = .ok (.aload_n 0, 1) := by decide +kernel
theorem dX4_faultsBy_3 : decode cX4_faultsBy 3 = .ok (.aload_n 1, 1) := by decide +kernel
theorem dX4_faultsBy_4 : decode cX4_faultsBy 4 = .ok (.iload_n 2, 1) := by decide +kernel
theorem dX4_faultsBy_5 : decode cX4_faultsBy 5 = .ok (.invokevirtual 120, 3) := by decide +kernel
theorem dX4_faultsBy_8 : decode cX4_faultsBy 8 = .ok (.isub, 1) := by decide +kernel
theorem dX4_faultsBy_9 : decode cX4_faultsBy 9 = .ok (.bipush 100, 2) := by decide +kernel
theorem dX4_faultsBy_11 : decode cX4_faultsBy 11 = .ok (.aload_n 0, 1) := by decide +kernel
theorem dX4_faultsBy_12 : decode cX4_faultsBy 12 = .ok (.aload_n 1, 1) := by decide +kernel
theorem dX4_faultsBy_13 : decode cX4_faultsBy 13 = .ok (.iload_n 3, 1) := by decide +kernel
theorem dX4_faultsBy_14 : decode cX4_faultsBy 14 = .ok (.invokevirtual 120, 3) := by decide +kernel
theorem dX4_faultsBy_17 : decode cX4_faultsBy 17 = .ok (.isub, 1) := by decide +kernel
theorem dX4_faultsBy_18 : decode cX4_faultsBy 18 = .ok (.imul, 1) := by decide +kernel
theorem dX4_faultsBy_19 : decode cX4_faultsBy 19 = .ok (.ireturn, 1) := by decide +kernel
theorem dX4_plays_0 : decode cX4_plays 0 = .ok (.aload_n 0, 1) := by decide +kernel
theorem dX4_plays_1 : decode cX4_plays 1 = .ok (.aload_n 1, 1) := by decide +kernel
theorem dX4_plays_2 : decode cX4_plays 2 = .ok (.iload_n 2, 1) := by decide +kernel
theorem dX4_plays_3 : decode cX4_plays 3 = .ok (.iload_n 3, 1) := by decide +kernel
theorem dX4_plays_4 : decode cX4_plays 4 = .ok (.invokevirtual 142, 3) := by decide +kernel
theorem dX4_plays_7 : decode cX4_plays 7 = .ok (.istore 4, 2) := by decide +kernel
theorem dX4_plays_9 : decode cX4_plays 9 = .ok (.iload 4, 2) := by decide +kernel
theorem dX4_plays_11 : decode cX4_plays 11 = .ok (.ifCond .eq 16, 3) := by decide +kernel
theorem dX4_plays_14 : decode cX4_plays 14 = .ok (.aload_n 0, 1) := by decide +kernel
theorem dX4_plays_15 : decode cX4_plays 15 = .ok (.dup, 1) := by decide +kernel
theorem dX4_plays_16 : decode cX4_plays 16 = .ok (.getfield 68, 3) := by decide +kernel
theorem dX4_plays_19 : decode cX4_plays 19 = .ok (.iconst 1, 1) := by decide +kernel
theorem dX4_plays_20 : decode cX4_plays 20 = .ok (.iadd, 1) := by decide +kernel
theorem dX4_plays_21 : decode cX4_plays 21 = .ok (.putfield 68, 3) := by decide +kernel
theorem dX4_plays_24 : decode cX4_plays 24 = .ok (.goto 13, 3) := by decide +kernel
theorem dX4_plays_27 : decode cX4_plays 27 = .ok (.aload_n 0, 1) := by decide +kernel
theorem dX4_plays_28 : decode cX4_plays 28 = .ok (.dup, 1) := by decide +kernel
theorem dX4_plays_29 : decode cX4_plays 29 = .ok (.getfield 71, 3) := by decide +kernel
theorem dX4_plays_32 : decode cX4_plays 32 = .ok (.iconst 1, 1) := by decide +kernel
theorem dX4_plays_33 : decode cX4_plays 33 = .ok (.iadd, 1) := by decide +kernel
theorem dX4_plays_34 : decode cX4_plays 34 = .ok (.putfield 71, 3) := by decide +kernel
theorem dX4_plays_37 : decode cX4_plays 37 = .ok (.aload_n 0, 1) := by decide +kernel
theorem dX4_plays_38 : decode cX4_plays 38 = .ok (.getfield 24, 3) := by decide +kernel
theorem dX4_plays_41 : decode cX4_plays 41 = .ok (.aload_n 1, 1) := by decide +kernel
theorem dX4_plays_42 : decode cX4_plays 42 = .ok (.getfield 84, 3) := by decide +kernel
theorem dX4_plays_45 : decode cX4_plays 45 = .ok (.sipush 9999, 3) := by decide +kernel
theorem dX4_plays_48 : decode cX4_plays 48 = .ok (.aload_n 0, 1) := by decide +kernel
theorem dX4_plays_49 : decode cX4_plays 49 = .ok (.getfield 24, 3) := by decide +kernel
theorem dX4_plays_52 : decode cX4_plays 52 = .ok (.aload_n 1, 1) := by decide +kernel
theorem dX4_plays_53 : decode cX4_plays 53 = .ok (.getfield 84, 3) := by decide +kernel
theorem dX4_plays_56 : decode cX4_plays 56 = .ok (.iaload, 1) := by decide +kernel
theorem dX4_plays_57 : decode cX4_plays 57 = .ok (.iconst 1, 1) := by decide +kernel
theorem dX4_plays_58 : decode cX4_plays 58 = .ok (.iadd, 1) := by decide +kernel
theorem dX4_plays_59 : decode cX4_plays 59 = .ok (.invokestatic 108, 3) := by decide +kernel
theorem dX4_plays_62 : decode cX4_plays 62 = .ok (.iastore, 1) := by decide +kernel
theorem dX4_plays_63 : decode cX4_plays 63 = .ok (.iload 4, 2) := by decide +kernel
theorem dX4_plays_65 : decode cX4_plays 65 = .ok (.ireturn, 1) := by decide +kernel
theorem dX4_wins_0 : decode cX4_wins 0 = .ok (.aload_n 1, 1) := by decide +kernel
theorem dX4_wins_1 : decode cX4_wins 1 = .ok (.aload_n 0, 1) := by decide +kernel
theorem dX4_wins_2 : decode cX4_wins 2 = .ok (.invokevirtual 131, 3) := by decide +kernel
theorem dX4_wins_5 : decode cX4_wins 5 = .ok (.istore 4, 2) := by decide +kernel
theorem dX4_wins_7 : decode cX4_wins 7 = .ok (.iload_n 2, 1) := by decide +kernel
theorem dX4_wins_8 : decode cX4_wins 8 = .ok (.aload_n 0, 1) := by decide +kernel
theorem dX4_wins_9 : decode cX4_wins 9 = .ok (.aload_n 1, 1) := by decide +kernel
theorem dX4_wins_10 : decode cX4_wins 10 = .ok (.iload 4, 2) := by decide +kernel
theorem dX4_wins_12 : decode cX4_wins 12 = .ok (.invokevirtual 120, 3) := by decide +kernel
theorem dX4_wins_15 : decode cX4_wins 15 = .ok (.if_icmp .ge 20, 3) := by decide +kernel
theorem dX4_wins_18 : decode cX4_wins 18 = .ok (.iload_n 3, 1) := by decide +kernel
theorem dX4_wins_19 : decode cX4_wins 19 = .ok (.aload_n 0, 1) := by decide +kernel
theorem dX4_wins_20 : decode cX4_wins 20 = .ok (.aload_n 1, 1) := by decide +kernel
theorem dX4_wins_21 : decode cX4_wins 21 = .ok (.iload 4, 2) := by decide +kernel
theorem dX4_wins_23 : decode cX4_wins 23 = .ok (.invokevirtual 124, 3) := by decide +kernel
theorem dX4_wins_26 : decode cX4_wins 26 = .ok (.if_icmp .ge 7, 3) := by decide +kernel
theorem dX4_wins_29 : decode cX4_wins 29 = .ok (.iconst 1, 1) := by decide +kernel
theorem dX4_wins_30 : decode cX4_wins 30 = .ok (.goto 4, 3) := by decide +kernel
theorem dX4_wins_33 : decode cX4_wins 33 = .ok (.iconst 0, 1) := by decide +kernel
theorem dX4_wins_34 : decode cX4_wins 34 = .ok (.ireturn, 1) := by decide +kernel
theorem dX4_wins_35 : decode cX4_wins 35 = .ok (.aload_n 1, 1) := by decide +kernel
theorem dX4_wins_36 : decode cX4_wins 36 = .ok (.aload_n 0, 1) := by decide +kernel
theorem dX4_wins_37 : decode cX4_wins 37 = .ok (.invokevirtual 135, 3) := by decide +kernel
theorem dX4_wins_40 : decode cX4_wins 40 = .ok (.istore 5, 2) := by decide +kernel
theorem dX4_wins_42 : decode cX4_wins 42 = .ok (.iload_n 3, 1) := by decide +kernel
theorem dX4_wins_43 : decode cX4_wins 43 = .ok (.aload_n 0, 1) := by decide +kernel
theorem dX4_wins_44 : decode cX4_wins 44 = .ok (.aload_n 1, 1) := by decide +kernel
theorem dX4_wins_45 : decode cX4_wins 45 = .ok (.iload 5, 2) := by decide +kernel
theorem dX4_wins_47 : decode cX4_wins 47 = .ok (.invokevirtual 120, 3) := by decide +kernel
theorem dX4_wins_50 : decode cX4_wins 50 = .ok (.if_icmp .ge 23, 3) := by decide +kernel
theorem dX4_wins_53 : decode cX4_wins 53 = .ok (.iload_n 2, 1) := by decide +kernel
theorem dX4_wins_54 : decode cX4_wins 54 = .ok (.iload_n 3, 1) := by decide +kernel
theorem dX4_wins_55 : decode cX4_wins 55 = .ok (.iadd, 1) := by decide +kernel
theorem dX4_wins_56 : decode cX4_wins 56 = .ok (.bipush 100, 2) := by decide +kernel
theorem dX4_wins_58 : decode cX4_wins 58 = .ok (.irem, 1) := by decide +kernel
theorem dX4_wins_59 : decode cX4_wins 59 = .ok (.aload_n 0, 1) := by decide +kernel
theorem dX4_wins_60 : decode cX4_wins 60 = .ok (.aload_n 1, 1) := by decide +kernel
theorem dX4_wins_61 : decode cX4_wins 61 = .ok (.iload 5, 2) := by decide +kernel
theorem dX4_wins_63 : decode cX4_wins 63 = .ok (.invokevirtual 124, 3) := by decide +kernel
theorem dX4_wins_66 : decode cX4_wins 66 = .ok (.if_icmp .ge 7, 3) := by decide +kernel
theorem dX4_wins_69 : decode cX4_wins 69 = .ok (.iconst 1, 1) := by decide +kernel
theorem dX4_wins_70 : decode cX4_wins 70 = .ok (.goto 4, 3) := by decide +kernel
theorem dX4_wins_73 : decode cX4_wins 73 = .ok (.iconst 0, 1) := by decide +kernel
theorem dX4_wins_74 : decode cX4_wins 74 = .ok (.ireturn, 1) := by decide +kernel
theorem dX5_init_0 : decode cX5_init 0 = .ok (.aload_n 0, 1) := by decide +kernel
theorem dX5_init_1 : decode cX5_init 1 = .ok (.iload_n 1, 1) := by decide +kernel
theorem dX5_init_2 : decode cX5_init 2 = .ok (.iload_n 2, 1) := by decide +kernel
theorem dX5_init_3 : decode cX5_init 3 = .ok (.iload_n 3, 1) := by decide +kernel
theorem dX5_init_4 : decode cX5_init 4 = .ok (.invokespecial 1, 3) := by decide +kernel
theorem dX5_init_7 : decode cX5_init 7 = .ok (.return_, 1) := by decide +kernel
theorem dX5_first_0 : decode cX5_first 0 = .ok (.aload_n 1, 1) := by decide +kernel
theorem dX5_first_1 : decode cX5_first 1 = .ok (.getfield 7, 3) := by decide +kernel
theorem dX5_first_4 : decode cX5_first 4 = .ok (.iconst 3, 1) := by decide +kernel
theorem dX5_first_5 : decode cX5_first 5 = .ok (.if_icmp .eq 11, 3) := by decide +kernel
theorem dX5_first_8 : decode cX5_first 8 = .ok (.aload_n 1, 1) := by decide +kernel
theorem dX5_first_9 : decode cX5_first 9 = .ok (.getfield 13, 3) := by decide +kernel
theorem dX5_first_12 : decode cX5_first 12 = .ok (.iconst 3, 1) := by decide +kernel
theorem dX5_first_13 : decode cX5_first 13 = .ok (.if_icmp .ne 15, 3) := by decide +kernel
theorem dX5_first_16 : decode cX5_first 16 = .ok (.aload_n 1, 1) := by decide +kernel
theorem dX5_first_17 : decode cX5_first 17 = .ok (.getfield 16, 3) := by decide +kernel
theorem dX5_first_20 : decode cX5_first 20 = .ok (.aload_n 0, 1) := by decide +kernel
theorem dX5_first_21 : decode cX5_first 21 = .ok (.getfield 20, 3) := by decide +kernel
theorem dX5_first_24 : decode cX5_first 24 = .ok (.iaload, 1) := by decide +kernel
theorem dX5_first_25 : decode cX5_first 25 = .ok (.goto 8, 3) := by decide +kernel
theorem dX5_first_28 : decode cX5_first 28 = .ok (.aload_n 0, 1) := by decide +kernel
theorem dX5_first_29 : decode cX5_first 29 = .ok (.aload_n 1, 1) := by decide +kernel
theorem dX5_first_30 : decode cX5_first 30 = .ok (.invokespecial 25, 3) := by decide +kernel
theorem dX5_first_33 : decode cX5_first 33 = .ok (.ireturn, 1) := by decide +kernel
theorem dX5_tells_0 : decode cX5_tells 0 = .ok (.aload_n 2, 1) := by decide +kernel
theorem dX5_tells_1 : decode cX5_tells 1 = .ok (.bipush 60, 2) := by decide +kernel
theorem dX5_tells_3 : decode cX5_tells 3 = .ok (.invokestatic 29, 3) := by decide +kernel
theorem dX5_tells_6 : decode cX5_tells 6 = .ok (.invokevirtual 35, 3) := by decide +kernel
theorem dX5_tells_9 : decode cX5_tells 9 = .ok (.pop, 1) := by decide +kernel
theorem dX5_tells_10 : decode cX5_tells 10 = .ok (.aload_n 0, 1) := by decide +kernel
theorem dX5_tells_11 : decode cX5_tells 11 = .ok (.iload_n 1, 1) := by decide +kernel
theorem dX5_tells_12 : decode cX5_tells 12 = .ok (.aload_n 0, 1) := by decide +kernel
theorem dX5_tells_13 : decode cX5_tells 13 = .ok (.getfield 20, 3) := by decide +kernel
theorem dX5_tells_16 : decode cX5_tells 16 = .ok (.isub, 1) := by decide +kernel
theorem dX5_tells_17 : decode cX5_tells 17 = .ok (.aload_n 2, 1) := by decide +kernel
theorem dX5_tells_18 : decode cX5_tells 18 = .ok (.invokespecial 41, 3) := by decide +kernel
theorem dX5_tells_21 : decode cX5_tells 21 = .ok (.ireturn, 1) := by decide +kernel
theorem dX6_init_0 : decode cX6_init 0 = .ok (.aload_n 0, 1) := by decide +kernel
theorem dX6_init_1 : decode cX6_init 1 = .ok (.invokespecial 3, 3) := by decide +kernel
theorem dX6_init_4 : decode cX6_init 4 = .ok (.aload_n 0, 1) := by decide +kernel
theorem dX6_init_5 : decode cX6_init 5 = .ok (.bipush 60, 2) := by decide +kernel
theorem dX6_init_7 : decode cX6_init 7 = .ok (.newarray .long, 2) := by decide +kernel
theorem dX6_init_9 : decode cX6_init 9 = .ok (.putfield 9, 3) := by decide +kernel
theorem dX6_init_12 : decode cX6_init 12 = .ok (.aload_n 0, 1) := by decide +kernel
theorem dX6_init_13 : decode cX6_init 13 = .ok (.iconst (-1), 1) := by decide +kernel
theorem dX6_init_14 : decode cX6_init 14 = .ok (.putfield 15, 3) := by decide +kernel
theorem dX6_init_17 : decode cX6_init 17 = .ok (.return_, 1) := by decide +kernel
theorem dX6_become_0 : decode cX6_become 0 = .ok (.aload_n 0, 1) := by decide +kernel
theorem dX6_become_1 : decode cX6_become 1 = .ok (.iload_n 1, 1) := by decide +kernel
theorem dX6_become_2 : decode cX6_become 2 = .ok (.putfield 15, 3) := by decide +kernel
theorem dX6_become_5 : decode cX6_become 5 = .ok (.aload_n 0, 1) := by decide +kernel
theorem dX6_become_6 : decode cX6_become 6 = .ok (.iconst 0, 1) := by decide +kernel
theorem dX6_become_7 : decode cX6_become 7 = .ok (.bipush 60, 2) := by decide +kernel
theorem dX6_become_9 : decode cX6_become 9 = .ok (.iload_n 2, 1) := by decide +kernel
theorem dX6_become_10 : decode cX6_become 10 = .ok (.invokestatic 19, 3) := by decide +kernel
theorem dX6_become_13 : decode cX6_become 13 = .ok (.invokestatic 25, 3) := by decide +kernel
theorem dX6_become_16 : decode cX6_become 16 = .ok (.putfield 28, 3) := by decide +kernel
theorem dX6_become_19 : decode cX6_become 19 = .ok (.aload_n 0, 1) := by decide +kernel
theorem dX6_become_20 : decode cX6_become 20 = .ok (.getfield 9, 3) := by decide +kernel
theorem dX6_become_23 : decode cX6_become 23 = .ok (.lconst 0, 1) := by decide +kernel
theorem dX6_become_24 : decode cX6_become 24 = .ok (.invokestatic 31, 3) := by decide +kernel
theorem dX6_become_27 : decode cX6_become 27 = .ok (.return_, 1) := by decide +kernel
theorem dX6_has_0 : decode cX6_has 0 = .ok (.lload_n 1, 1) := by decide +kernel
theorem dX6_has_1 : decode cX6_has 1 = .ok (.lconst 0, 1) := by decide +kernel
theorem dX6_has_2 : decode cX6_has 2 = .ok (.lcmp, 1) := by decide +kernel
theorem dX6_has_3 : decode cX6_has 3 = .ok (.ifCond .lt 17, 3) := by decide +kernel
theorem dX6_has_6 : decode cX6_has 6 = .ok (.lload_n 1, 1) := by decide +kernel
theorem dX6_has_7 : decode cX6_has 7 = .ok (.aload_n 0, 1) := by decide +kernel
theorem dX6_has_8 : decode cX6_has 8 = .ok (.getfield 28, 3) := by decide +kernel
theorem dX6_has_11 : decode cX6_has 11 = .ok (.i2l, 1) := by decide +kernel
theorem dX6_has_12 : decode cX6_has 12 = .ok (.lcmp, 1) := by decide +kernel
theorem dX6_has_13 : decode cX6_has 13 = .ok (.ifCond .ge 7, 3) := by decide +kernel
theorem dX6_has_16 : decode cX6_has 16 = .ok (.iconst 1, 1) := by decide +kernel
theorem dX6_has_17 : decode cX6_has 17 = .ok (.goto 4, 3) := by decide +kernel
theorem dX6_has_20 : decode cX6_has 20 = .ok (.iconst 0, 1) := by decide +kernel
theorem dX6_has_21 : decode cX6_has 21 = .ok (.ireturn, 1) := by decide +kernel
theorem dX6_at_0 : decode cX6_at 0 = .ok (.aload_n 0, 1) := by decide +kernel
theorem dX6_at_1 : decode cX6_at 1 = .ok (.iload_n 1, 1) := by decide +kernel
theorem dX6_at_2 : decode cX6_at 2 = .ok (.i2l, 1) := by decide +kernel
theorem dX6_at_3 : decode cX6_at 3 = .ok (.invokevirtual 37, 3) := by decide +kernel
theorem dX6_at_6 : decode cX6_at 6 = .ok (.ifCond .eq 12, 3) := by decide +kernel
theorem dX6_at_9 : decode cX6_at 9 = .ok (.aload_n 0, 1) := by decide +kernel
theorem dX6_at_10 : decode cX6_at 10 = .ok (.getfield 9, 3) := by decide +kernel
theorem dX6_at_13 : decode cX6_at 13 = .ok (.iload_n 1, 1) := by decide +kernel
theorem dX6_at_14 : decode cX6_at 14 = .ok (.laload, 1) := by decide +kernel
theorem dX6_at_15 : decode cX6_at 15 = .ok (.goto 6, 3) := by decide +kernel
theorem dX6_at_18 : decode cX6_at 18 = .ok (.ldc2_w 41, 3) := by decide +kernel
theorem dX6_at_21 : decode cX6_at 21 = .ok (.lreturn, 1) := by decide +kernel
theorem dX6_puts_0 : decode cX6_puts 0 = .ok (.aload_n 0, 1) := by decide +kernel
theorem dX6_puts_1 : decode cX6_puts 1 = .ok (.iload_n 1, 1) := by decide +kernel
theorem dX6_puts_2 : decode cX6_puts 2 = .ok (.i2l, 1) := by decide +kernel
theorem dX6_puts_3 : decode cX6_puts 3 = .ok (.invokevirtual 37, 3) := by decide +kernel
theorem dX6_puts_6 : decode cX6_puts 6 = .ok (.ifCond .ne 5, 3) := by decide +kernel
theorem dX6_puts_9 : decode cX6_puts 9 = .ok (.iconst 0, 1) := by decide +kernel
theorem dX6_puts_10 : decode cX6_puts 10 = .ok (.ireturn, 1) := by decide +kernel
theorem dX6_puts_11 : decode cX6_puts 11 = .ok (.aload_n 0, 1) := by decide +kernel
theorem dX6_puts_12 : decode cX6_puts 12 = .ok (.getfield 9, 3) := by decide +kernel
theorem dX6_puts_15 : decode cX6_puts 15 = .ok (.iload_n 1, 1) := by decide +kernel
theorem dX6_puts_16 : decode cX6_puts 16 = .ok (.aload_n 0, 1) := by decide +kernel
theorem dX6_puts_17 : decode cX6_puts 17 = .ok (.lload_n 2, 1) := by decide +kernel
theorem dX6_puts_18 : decode cX6_puts 18 = .ok (.invokevirtual 43, 3) := by decide +kernel
theorem dX6_puts_21 : decode cX6_puts 21 = .ok (.lastore, 1) := by decide +kernel
theorem dX6_puts_22 : decode cX6_puts 22 = .ok (.iconst 1, 1) := by decide +kernel
theorem dX6_puts_23 : decode cX6_puts 23 = .ok (.ireturn, 1) := by decide +kernel
theorem dX6_cut_0 : decode cX6_cut 0 = .ok (.aload_n 0, 1) := by decide +kernel
theorem dX6_cut_1 : decode cX6_cut 1 = .ok (.getfield 15, 3) := by decide +kernel
theorem dX6_cut_4 : decode cX6_cut 4 = .ok (.tableswitch 48 0 3 #[32, 37, 42, 46], 32) := by decide +kernel
theorem dX6_cut_36 : decode cX6_cut 36 = .ok (.lload_n 1, 1) := by decide +kernel
theorem dX6_cut_37 : decode cX6_cut 37 = .ok (.l2i, 1) := by decide +kernel
theorem dX6_cut_38 : decode cX6_cut 38 = .ok (.i2b, 1) := by decide +kernel
theorem dX6_cut_39 : decode cX6_cut 39 = .ok (.i2l, 1) := by decide +kernel
theorem dX6_cut_40 : decode cX6_cut 40 = .ok (.lreturn, 1) := by decide +kernel
theorem dX6_cut_41 : decode cX6_cut 41 = .ok (.lload_n 1, 1) := by decide +kernel
theorem dX6_cut_42 : decode cX6_cut 42 = .ok (.l2i, 1) := by decide +kernel
theorem dX6_cut_43 : decode cX6_cut 43 = .ok (.i2s, 1) := by decide +kernel
theorem dX6_cut_44 : decode cX6_cut 44 = .ok (.i2l, 1) := by decide +kernel
theorem dX6_cut_45 : decode cX6_cut 45 = .ok (.lreturn, 1) := by decide +kernel
theorem dX6_cut_46 : decode cX6_cut 46 = .ok (.lload_n 1, 1) := by decide +kernel
theorem dX6_cut_47 : decode cX6_cut 47 = .ok (.l2i, 1) := by decide +kernel
theorem dX6_cut_48 : decode cX6_cut 48 = .ok (.i2l, 1) := by decide +kernel
theorem dX6_cut_49 : decode cX6_cut 49 = .ok (.lreturn, 1) := by decide +kernel
theorem dX6_cut_50 : decode cX6_cut 50 = .ok (.lload_n 1, 1) := by decide +kernel
theorem dX6_cut_51 : decode cX6_cut 51 = .ok (.lreturn, 1) := by decide +kernel
theorem dX6_cut_52 : decode cX6_cut 52 = .ok (.lload_n 1, 1) := by decide +kernel
theorem dX6_cut_53 : decode cX6_cut 53 = .ok (.lconst 0, 1) := by decide +kernel
theorem dX6_cut_54 : decode cX6_cut 54 = .ok (.lcmp, 1) := by decide +kernel
theorem dX6_cut_55 : decode cX6_cut 55 = .ok (.ifCond .eq 7, 3) := by decide +kernel
theorem dX6_cut_58 : decode cX6_cut 58 = .ok (.lconst 1, 1) := by decide +kernel
theorem dX6_cut_59 : decode cX6_cut 59 = .ok (.goto 4, 3) := by decide +kernel
theorem dX6_cut_62 : decode cX6_cut 62 = .ok (.lconst 0, 1) := by decide +kernel
theorem dX6_cut_63 : decode cX6_cut 63 = .ok (.lreturn, 1) := by decide +kernel
theorem dX6_spans_0 : decode cX6_spans 0 = .ok (.iload_n 1, 1) := by decide +kernel
theorem dX6_spans_1 : decode cX6_spans 1 = .ok (.ifCond .lt 21, 3) := by decide +kernel
theorem dX6_spans_4 : decode cX6_spans 4 = .ok (.iload_n 2, 1) := by decide +kernel
theorem dX6_spans_5 : decode cX6_spans 5 = .ok (.ifCond .lt 17, 3) := by decide +kernel
theorem dX6_spans_8 : decode cX6_spans 8 = .ok (.iload_n 1, 1) := by decide +kernel
theorem dX6_spans_9 : decode cX6_spans 9 = .ok (.aload_n 0, 1) := by decide +kernel
theorem dX6_spans_10 : decode cX6_spans 10 = .ok (.getfield 28, 3) := by decide +kernel
theorem dX6_spans_13 : decode cX6_spans 13 = .ok (.iload_n 2, 1) := by decide +kernel
theorem dX6_spans_14 : decode cX6_spans 14 = .ok (.isub, 1) := by decide +kernel
theorem dX6_spans_15 : decode cX6_spans 15 = .ok (.if_icmp .gt 7, 3) := by decide +kernel
theorem dX6_spans_18 : decode cX6_spans 18 = .ok (.iconst 1, 1) := by decide +kernel
theorem dX6_spans_19 : decode cX6_spans 19 = .ok (.goto 4, 3) := by decide +kernel
theorem dX6_spans_22 : decode cX6_spans 22 = .ok (.iconst 0, 1) := by decide +kernel
theorem dX6_spans_23 : decode cX6_spans 23 = .ok (.ireturn, 1) := by decide +kernel
theorem dX6_takes_0 : decode cX6_takes 0 = .ok (.aload_n 2, 1) := by decide +kernel
theorem dX6_takes_1 : decode cX6_takes 1 = .ok (.iload_n 3, 1) := by decide +kernel
theorem dX6_takes_2 : decode cX6_takes 2 = .ok (.iload 4, 2) := by decide +kernel
theorem dX6_takes_4 : decode cX6_takes 4 = .ok (.invokevirtual 47, 3) := by decide +kernel
theorem dX6_takes_7 : decode cX6_takes 7 = .ok (.ifCond .eq 13, 3) := by decide +kernel
theorem dX6_takes_10 : decode cX6_takes 10 = .ok (.aload_n 0, 1) := by decide +kernel
theorem dX6_takes_11 : decode cX6_takes 11 = .ok (.iload_n 1, 1) := by decide +kernel
theorem dX6_takes_12 : decode cX6_takes 12 = .ok (.iload 4, 2) := by decide +kernel
theorem dX6_takes_14 : decode cX6_takes 14 = .ok (.invokevirtual 47, 3) := by decide +kernel
theorem dX6_takes_17 : decode cX6_takes 17 = .ok (.ifCond .ne 5, 3) := by decide +kernel
theorem dX6_takes_20 : decode cX6_takes 20 = .ok (.iconst 0, 1) := by decide +kernel
theorem dX6_takes_21 : decode cX6_takes 21 = .ok (.ireturn, 1) := by decide +kernel
theorem dX6_takes_22 : decode cX6_takes 22 = .ok (.aload_n 2, 1) := by decide +kernel
theorem dX6_takes_23 : decode cX6_takes 23 = .ok (.getfield 9, 3) := by decide +kernel
theorem dX6_takes_26 : decode cX6_takes 26 = .ok (.iload_n 3, 1) := by decide +kernel
theorem dX6_takes_27 : decode cX6_takes 27 = .ok (.aload_n 0, 1) := by decide +kernel
theorem dX6_takes_28 : decode cX6_takes 28 = .ok (.getfield 9, 3) := by decide +kernel
theorem dX6_takes_31 : decode cX6_takes 31 = .ok (.iload_n 1, 1) := by decide +kernel
theorem dX6_takes_32 : decode cX6_takes 32 = .ok (.iload 4, 2) := by decide +kernel
theorem dX6_takes_34 : decode cX6_takes 34 = .ok (.invokestatic 51, 3) := by decide +kernel
theorem dX6_takes_37 : decode cX6_takes 37 = .ok (.iconst 1, 1) := by decide +kernel
theorem dX6_takes_38 : decode cX6_takes 38 = .ok (.ireturn, 1) := by decide +kernel
theorem dX7_init_0 : decode cX7_init 0 = .ok (.aload_n 0, 1) := by decide +kernel
theorem dX7_init_1 : decode cX7_init 1 = .ok (.invokespecial 3, 3) := by decide +kernel
theorem dX7_init_4 : decode cX7_init 4 = .ok (.aload_n 0, 1) := by decide +kernel
theorem dX7_init_5 : decode cX7_init 5 = .ok (.bipush 100, 2) := by decide +kernel
theorem dX7_init_7 : decode cX7_init 7 = .ok (.newarray .char, 2) := by decide +kernel
theorem dX7_init_9 : decode cX7_init 9 = .ok (.putfield 9, 3) := by decide +kernel
theorem dX7_init_12 : decode cX7_init 12 = .ok (.return_, 1) := by decide +kernel
theorem dX7_takes_0 : decode cX7_takes 0 = .ok (.aload_n 0, 1) := by decide +kernel
theorem dX7_takes_1 : decode cX7_takes 1 = .ok (.getfield 15, 3) := by decide +kernel
theorem dX7_takes_4 : decode cX7_takes 4 = .ok (.bipush 100, 2) := by decide +kernel
theorem dX7_takes_6 : decode cX7_takes 6 = .ok (.invokestatic 19, 3) := by decide +kernel
theorem dX7_takes_9 : decode cX7_takes 9 = .ok (.ifCond .ne 5, 3) := by decide +kernel
theorem dX7_takes_12 : decode cX7_takes 12 = .ok (.iconst 0, 1) := by decide +kernel
theorem dX7_takes_13 : decode cX7_takes 13 = .ok (.ireturn, 1) := by decide +kernel
theorem dX7_takes_14 : decode cX7_takes 14 = .ok (.aload_n 0, 1) := by decide +kernel
theorem dX7_takes_15 : decode cX7_takes 15 = .ok (.getfield 9, 3) := by decide +kernel
theorem dX7_takes_18 : decode cX7_takes 18 = .ok (.aload_n 0, 1) := by decide +kernel
theorem dX7_takes_19 : decode cX7_takes 19 = .ok (.getfield 15, 3) := by decide +kernel
theorem dX7_takes_22 : decode cX7_takes 22 = .ok (.iload_n 1, 1) := by decide +kernel
theorem dX7_takes_23 : decode cX7_takes 23 = .ok (.i2c, 1) := by decide +kernel
theorem dX7_takes_24 : decode cX7_takes 24 = .ok (.castore, 1) := by decide +kernel
theorem dX7_takes_25 : decode cX7_takes 25 = .ok (.aload_n 0, 1) := by decide +kernel
theorem dX7_takes_26 : decode cX7_takes 26 = .ok (.dup, 1) := by decide +kernel
theorem dX7_takes_27 : decode cX7_takes 27 = .ok (.getfield 15, 3) := by decide +kernel
theorem dX7_takes_30 : decode cX7_takes 30 = .ok (.iconst 1, 1) := by decide +kernel
theorem dX7_takes_31 : decode cX7_takes 31 = .ok (.iadd, 1) := by decide +kernel
theorem dX7_takes_32 : decode cX7_takes 32 = .ok (.putfield 15, 3) := by decide +kernel
theorem dX7_takes_35 : decode cX7_takes 35 = .ok (.iconst 1, 1) := by decide +kernel
theorem dX7_takes_36 : decode cX7_takes 36 = .ok (.ireturn, 1) := by decide +kernel
theorem dX7_readInto_0 : decode cX7_readInto 0 = .ok (.aload_n 1, 1) := by decide +kernel
theorem dX7_readInto_1 : decode cX7_readInto 1 = .ok (.invokevirtual 23, 3) := by decide +kernel
theorem dX7_readInto_4 : decode cX7_readInto 4 = .ok (.aload_n 0, 1) := by decide +kernel
theorem dX7_readInto_5 : decode cX7_readInto 5 = .ok (.iconst 0, 1) := by decide +kernel
theorem dX7_readInto_6 : decode cX7_readInto 6 = .ok (.putfield 28, 3) := by decide +kernel
theorem dX7_readInto_9 : decode cX7_readInto 9 = .ok (.iconst 1, 1) := by decide +kernel
theorem dX7_readInto_10 : decode cX7_readInto 10 = .ok (.istore_n 2, 1) := by decide +kernel
theorem dX7_readInto_11 : decode cX7_readInto 11 = .ok (.iload_n 2, 1) := by decide +kernel
theorem dX7_readInto_12 : decode cX7_readInto 12 = .ok (.bipush 10, 2) := by decide +kernel
theorem dX7_readInto_14 : decode cX7_readInto 14 = .ok (.if_icmp .gt 55, 3) := by decide +kernel
theorem dX7_readInto_17 : decode cX7_readInto 17 = .ok (.aload_n 0, 1) := by decide +kernel
theorem dX7_readInto_18 : decode cX7_readInto 18 = .ok (.aload_n 1, 1) := by decide +kernel
theorem dX7_readInto_19 : decode cX7_readInto 19 = .ok (.invokevirtual 31, 3) := by decide +kernel
theorem dX7_readInto_22 : decode cX7_readInto 22 = .ok (.ifCond .ne 8, 3) := by decide +kernel
theorem dX7_readInto_25 : decode cX7_readInto 25 = .ok (.aload_n 0, 1) := by decide +kernel
theorem dX7_readInto_26 : decode cX7_readInto 26 = .ok (.getfield 28, 3) := by decide +kernel
theorem dX7_readInto_29 : decode cX7_readInto 29 = .ok (.ireturn, 1) := by decide +kernel
theorem dX7_readInto_30 : decode cX7_readInto 30 = .ok (.aload_n 0, 1) := by decide +kernel
theorem dX7_readInto_31 : decode cX7_readInto 31 = .ok (.getfield 28, 3) := by decide +kernel
theorem dX7_readInto_34 : decode cX7_readInto 34 = .ok (.aload_n 0, 1) := by decide +kernel
theorem dX7_readInto_35 : decode cX7_readInto 35 = .ok (.getfield 15, 3) := by decide +kernel
theorem dX7_readInto_38 : decode cX7_readInto 38 = .ok (.if_icmp .ne 5, 3) := by decide +kernel
theorem dX7_readInto_41 : decode cX7_readInto 41 = .ok (.iconst (-1), 1) := by decide +kernel
theorem dX7_readInto_42 : decode cX7_readInto 42 = .ok (.ireturn, 1) := by decide +kernel
theorem dX7_readInto_43 : decode cX7_readInto 43 = .ok (.iload_n 2, 1) := by decide +kernel
theorem dX7_readInto_44 : decode cX7_readInto 44 = .ok (.bipush 10, 2) := by decide +kernel
theorem dX7_readInto_46 : decode cX7_readInto 46 = .ok (.if_icmp .eq 12, 3) := by decide +kernel
theorem dX7_readInto_49 : decode cX7_readInto 49 = .ok (.aload_n 0, 1) := by decide +kernel
theorem dX7_readInto_50 : decode cX7_readInto 50 = .ok (.bipush 59, 2) := by decide +kernel
theorem dX7_readInto_52 : decode cX7_readInto 52 = .ok (.invokevirtual 35, 3) := by decide +kernel
theorem dX7_readInto_55 : decode cX7_readInto 55 = .ok (.ifCond .ne 8, 3) := by decide +kernel
theorem dX7_readInto_58 : decode cX7_readInto 58 = .ok (.aload_n 0, 1) := by decide +kernel
theorem dX7_readInto_59 : decode cX7_readInto 59 = .ok (.getfield 28, 3) := by decide +kernel
theorem dX7_readInto_62 : decode cX7_readInto 62 = .ok (.ireturn, 1) := by decide +kernel
theorem dX7_readInto_63 : decode cX7_readInto 63 = .ok (.iinc 2 1, 3) := by decide +kernel
theorem dX7_readInto_66 : decode cX7_readInto 66 = .ok (.goto (-55), 3) := by decide +kernel
theorem dX7_readInto_69 : decode cX7_readInto 69 = .ok (.aload_n 0, 1) := by decide +kernel
theorem dX7_readInto_70 : decode cX7_readInto 70 = .ok (.getfield 28, 3) := by decide +kernel
theorem dX7_readInto_73 : decode cX7_readInto 73 = .ok (.ireturn, 1) := by decide +kernel
theorem dX7_clause_0 : decode cX7_clause 0 = .ok (.aload_n 0, 1) := by decide +kernel
theorem dX7_clause_1 : decode cX7_clause 1 = .ok (.invokevirtual 39, 3) := by decide +kernel
theorem dX7_clause_4 : decode cX7_clause 4 = .ok (.istore_n 2, 1) := by decide +kernel
theorem dX7_clause_5 : decode cX7_clause 5 = .ok (.iload_n 2, 1) := by decide +kernel
theorem dX7_clause_6 : decode cX7_clause 6 = .ok (.bipush 105, 2) := by decide +kernel
theorem dX7_clause_8 : decode cX7_clause 8 = .ok (.if_icmp .ne 8, 3) := by decide +kernel
theorem dX7_clause_11 : decode cX7_clause 11 = .ok (.ldc 43, 2) := by decide +kernel
theorem dX7_clause_13 : decode cX7_clause 13 = .ok (.goto 16, 3) := by decide +kernel
theorem dX7_clause_16 : decode cX7_clause 16 = .ok (.iload_n 2, 1) := by decide +kernel
theorem dX7_clause_17 : decode cX7_clause 17 = .ok (.bipush 119, 2) := by decide +kernel
theorem dX7_clause_19 : decode cX7_clause 19 = .ok (.if_icmp .ne 8, 3) := by decide +kernel
theorem dX7_clause_22 : decode cX7_clause 22 = .ok (.ldc 45, 2) := by decide +kernel
theorem dX7_clause_24 : decode cX7_clause 24 = .ok (.goto 5, 3) := by decide +kernel
theorem dX7_clause_27 : decode cX7_clause 27 = .ok (.ldc 47, 2) := by decide +kernel
theorem dX7_clause_29 : decode cX7_clause 29 = .ok (.astore_n 3, 1) := by decide +kernel
theorem dX7_clause_30 : decode cX7_clause 30 = .ok (.iconst 0, 1) := by decide +kernel
theorem dX7_clause_31 : decode cX7_clause 31 = .ok (.istore 4, 2) := by decide +kernel
theorem dX7_clause_33 : decode cX7_clause 33 = .ok (.iload 4, 2) := by decide +kernel
theorem dX7_clause_35 : decode cX7_clause 35 = .ok (.aload_n 3, 1) := by decide +kernel
theorem dX7_clause_36 : decode cX7_clause 36 = .ok (.invokevirtual 49, 3) := by decide +kernel
theorem dX7_clause_39 : decode cX7_clause 39 = .ok (.if_icmp .ge 24, 3) := by decide +kernel
theorem dX7_clause_42 : decode cX7_clause 42 = .ok (.aload_n 0, 1) := by decide +kernel
theorem dX7_clause_43 : decode cX7_clause 43 = .ok (.aload_n 3, 1) := by decide +kernel
theorem dX7_clause_44 : decode cX7_clause 44 = .ok (.iload 4, 2) := by decide +kernel
theorem dX7_clause_46 : decode cX7_clause 46 = .ok (.invokevirtual 54, 3) := by decide +kernel
theorem dX7_clause_49 : decode cX7_clause 49 = .ok (.invokevirtual 35, 3) := by decide +kernel
theorem dX7_clause_52 : decode cX7_clause 52 = .ok (.ifCond .ne 5, 3) := by decide +kernel
theorem dX7_clause_55 : decode cX7_clause 55 = .ok (.iconst 0, 1) := by decide +kernel
theorem dX7_clause_56 : decode cX7_clause 56 = .ok (.ireturn, 1) := by decide +kernel
theorem dX7_clause_57 : decode cX7_clause 57 = .ok (.iinc 4 1, 3) := by decide +kernel
theorem dX7_clause_60 : decode cX7_clause 60 = .ok (.goto (-27), 3) := by decide +kernel
theorem dX7_clause_63 : decode cX7_clause 63 = .ok (.aload_n 0, 1) := by decide +kernel
theorem dX7_clause_64 : decode cX7_clause 64 = .ok (.invokevirtual 58, 3) := by decide +kernel
theorem dX7_clause_67 : decode cX7_clause 67 = .ok (.istore 4, 2) := by decide +kernel
theorem dX7_clause_69 : decode cX7_clause 69 = .ok (.iload 4, 2) := by decide +kernel
theorem dX7_clause_71 : decode cX7_clause 71 = .ok (.iconst (-1), 1) := by decide +kernel
theorem dX7_clause_72 : decode cX7_clause 72 = .ok (.if_icmp .eq 21, 3) := by decide +kernel
theorem dX7_clause_75 : decode cX7_clause 75 = .ok (.aload_n 0, 1) := by decide +kernel
theorem dX7_clause_76 : decode cX7_clause 76 = .ok (.bipush 32, 2) := by decide +kernel
theorem dX7_clause_78 : decode cX7_clause 78 = .ok (.invokevirtual 35, 3) := by decide +kernel
theorem dX7_clause_81 : decode cX7_clause 81 = .ok (.ifCond .eq 12, 3) := by decide +kernel
theorem dX7_clause_84 : decode cX7_clause 84 = .ok (.aload_n 0, 1) := by decide +kernel
theorem dX7_clause_85 : decode cX7_clause 85 = .ok (.aload_n 1, 1) := by decide +kernel
theorem dX7_clause_86 : decode cX7_clause 86 = .ok (.iconst 0, 1) := by decide +kernel
theorem dX7_clause_87 : decode cX7_clause 87 = .ok (.invokevirtual 61, 3) := by decide +kernel
theorem dX7_clause_90 : decode cX7_clause 90 = .ok (.ifCond .ne 5, 3) := by decide +kernel
theorem dX7_clause_93 : decode cX7_clause 93 = .ok (.iconst 0, 1) := by decide +kernel
theorem dX7_clause_94 : decode cX7_clause 94 = .ok (.ireturn, 1) := by decide +kernel
theorem dX7_clause_95 : decode cX7_clause 95 = .ok (.aload_n 1, 1) := by decide +kernel
theorem dX7_clause_96 : decode cX7_clause 96 = .ok (.iload_n 2, 1) := by decide +kernel
theorem dX7_clause_97 : decode cX7_clause 97 = .ok (.bipush 119, 2) := by decide +kernel
theorem dX7_clause_99 : decode cX7_clause 99 = .ok (.if_icmp .ne 7, 3) := by decide +kernel
theorem dX7_clause_102 : decode cX7_clause 102 = .ok (.iconst 1, 1) := by decide +kernel
theorem dX7_clause_103 : decode cX7_clause 103 = .ok (.goto 4, 3) := by decide +kernel
theorem dX7_clause_106 : decode cX7_clause 106 = .ok (.iconst 0, 1) := by decide +kernel
theorem dX7_clause_107 : decode cX7_clause 107 = .ok (.iload_n 2, 1) := by decide +kernel
theorem dX7_clause_108 : decode cX7_clause 108 = .ok (.bipush 111, 2) := by decide +kernel
theorem dX7_clause_110 : decode cX7_clause 110 = .ok (.if_icmp .ne 9, 3) := by decide +kernel
theorem dX7_clause_113 : decode cX7_clause 113 = .ok (.iload 4, 2) := by decide +kernel
theorem dX7_clause_115 : decode cX7_clause 115 = .ok (.ineg, 1) := by decide +kernel
theorem dX7_clause_116 : decode cX7_clause 116 = .ok (.goto 5, 3) := by decide +kernel
theorem dX7_clause_119 : decode cX7_clause 119 = .ok (.iload 4, 2) := by decide +kernel
theorem dX7_clause_121 : decode cX7_clause 121 = .ok (.invokevirtual 65, 3) := by decide +kernel
theorem dX7_clause_124 : decode cX7_clause 124 = .ok (.iconst 1, 1) := by decide +kernel
theorem dX7_clause_125 : decode cX7_clause 125 = .ok (.ireturn, 1) := by decide +kernel
theorem dX7_anyOf_0 : decode cX7_anyOf 0 = .ok (.iconst 0, 1) := by decide +kernel
theorem dX7_anyOf_1 : decode cX7_anyOf 1 = .ok (.istore_n 3, 1) := by decide +kernel
theorem dX7_anyOf_2 : decode cX7_anyOf 2 = .ok (.iload_n 3, 1) := by decide +kernel
theorem dX7_anyOf_3 : decode cX7_anyOf 3 = .ok (.bipush 100, 2) := by decide +kernel
theorem dX7_anyOf_5 : decode cX7_anyOf 5 = .ok (.if_icmp .ge 41, 3) := by decide +kernel
theorem dX7_anyOf_8 : decode cX7_anyOf 8 = .ok (.aload_n 0, 1) := by decide +kernel
theorem dX7_anyOf_9 : decode cX7_anyOf 9 = .ok (.aload_n 1, 1) := by decide +kernel
theorem dX7_anyOf_10 : decode cX7_anyOf 10 = .ok (.iload_n 2, 1) := by decide +kernel
theorem dX7_anyOf_11 : decode cX7_anyOf 11 = .ok (.invokevirtual 69, 3) := by decide +kernel
theorem dX7_anyOf_14 : decode cX7_anyOf 14 = .ok (.ifCond .ne 5, 3) := by decide +kernel
theorem dX7_anyOf_17 : decode cX7_anyOf 17 = .ok (.iconst 0, 1) := by decide +kernel
theorem dX7_anyOf_18 : decode cX7_anyOf 18 = .ok (.ireturn, 1) := by decide +kernel
theorem dX7_anyOf_19 : decode cX7_anyOf 19 = .ok (.iload_n 3, 1) := by decide +kernel
theorem dX7_anyOf_20 : decode cX7_anyOf 20 = .ok (.ifCond .le 9, 3) := by decide +kernel
theorem dX7_anyOf_23 : decode cX7_anyOf 23 = .ok (.aload_n 1, 1) := by decide +kernel
theorem dX7_anyOf_24 : decode cX7_anyOf 24 = .ok (.bipush (-3), 2) := by decide +kernel
theorem dX7_anyOf_26 : decode cX7_anyOf 26 = .ok (.invokevirtual 72, 3) := by decide +kernel
theorem dX7_anyOf_29 : decode cX7_anyOf 29 = .ok (.aload_n 0, 1) := by decide +kernel
theorem dX7_anyOf_30 : decode cX7_anyOf 30 = .ok (.bipush 124, 2) := by decide +kernel
theorem dX7_anyOf_32 : decode cX7_anyOf 32 = .ok (.invokevirtual 35, 3) := by decide +kernel
theorem dX7_anyOf_35 : decode cX7_anyOf 35 = .ok (.ifCond .ne 5, 3) := by decide +kernel
theorem dX7_anyOf_38 : decode cX7_anyOf 38 = .ok (.iconst 1, 1) := by decide +kernel
theorem dX7_anyOf_39 : decode cX7_anyOf 39 = .ok (.ireturn, 1) := by decide +kernel
theorem dX7_anyOf_40 : decode cX7_anyOf 40 = .ok (.iinc 3 1, 3) := by decide +kernel
theorem dX7_anyOf_43 : decode cX7_anyOf 43 = .ok (.goto (-41), 3) := by decide +kernel
theorem dX7_anyOf_46 : decode cX7_anyOf 46 = .ok (.iconst 0, 1) := by decide +kernel
theorem dX7_anyOf_47 : decode cX7_anyOf 47 = .ok (.ireturn, 1) := by decide +kernel
theorem dX7_allOf_0 : decode cX7_allOf 0 = .ok (.iconst 0, 1) := by decide +kernel
theorem dX7_allOf_1 : decode cX7_allOf 1 = .ok (.istore_n 3, 1) := by decide +kernel
theorem dX7_allOf_2 : decode cX7_allOf 2 = .ok (.iload_n 3, 1) := by decide +kernel
theorem dX7_allOf_3 : decode cX7_allOf 3 = .ok (.bipush 100, 2) := by decide +kernel
theorem dX7_allOf_5 : decode cX7_allOf 5 = .ok (.if_icmp .ge 41, 3) := by decide +kernel
theorem dX7_allOf_8 : decode cX7_allOf 8 = .ok (.aload_n 0, 1) := by decide +kernel
theorem dX7_allOf_9 : decode cX7_allOf 9 = .ok (.aload_n 1, 1) := by decide +kernel
theorem dX7_allOf_10 : decode cX7_allOf 10 = .ok (.iload_n 2, 1) := by decide +kernel
theorem dX7_allOf_11 : decode cX7_allOf 11 = .ok (.invokevirtual 76, 3) := by decide +kernel
theorem dX7_allOf_14 : decode cX7_allOf 14 = .ok (.ifCond .ne 5, 3) := by decide +kernel
theorem dX7_allOf_17 : decode cX7_allOf 17 = .ok (.iconst 0, 1) := by decide +kernel
theorem dX7_allOf_18 : decode cX7_allOf 18 = .ok (.ireturn, 1) := by decide +kernel
theorem dX7_allOf_19 : decode cX7_allOf 19 = .ok (.iload_n 3, 1) := by decide +kernel
theorem dX7_allOf_20 : decode cX7_allOf 20 = .ok (.ifCond .le 9, 3) := by decide +kernel
theorem dX7_allOf_23 : decode cX7_allOf 23 = .ok (.aload_n 1, 1) := by decide +kernel
theorem dX7_allOf_24 : decode cX7_allOf 24 = .ok (.bipush (-2), 2) := by decide +kernel
theorem dX7_allOf_26 : decode cX7_allOf 26 = .ok (.invokevirtual 72, 3) := by decide +kernel
theorem dX7_allOf_29 : decode cX7_allOf 29 = .ok (.aload_n 0, 1) := by decide +kernel
theorem dX7_allOf_30 : decode cX7_allOf 30 = .ok (.bipush 38, 2) := by decide +kernel
theorem dX7_allOf_32 : decode cX7_allOf 32 = .ok (.invokevirtual 35, 3) := by decide +kernel
theorem dX7_allOf_35 : decode cX7_allOf 35 = .ok (.ifCond .ne 5, 3) := by decide +kernel
theorem dX7_allOf_38 : decode cX7_allOf 38 = .ok (.iconst 1, 1) := by decide +kernel
theorem dX7_allOf_39 : decode cX7_allOf 39 = .ok (.ireturn, 1) := by decide +kernel
theorem dX7_allOf_40 : decode cX7_allOf 40 = .ok (.iinc 3 1, 3) := by decide +kernel
theorem dX7_allOf_43 : decode cX7_allOf 43 = .ok (.goto (-41), 3) := by decide +kernel
theorem dX7_allOf_46 : decode cX7_allOf 46 = .ok (.iconst 0, 1) := by decide +kernel
theorem dX7_allOf_47 : decode cX7_allOf 47 = .ok (.ireturn, 1) := by decide +kernel
theorem dX7_factor_0 : decode cX7_factor 0 = .ok (.iload_n 2, 1) := by decide +kernel
theorem dX7_factor_1 : decode cX7_factor 1 = .ok (.iconst 4, 1) := by decide +kernel
theorem dX7_factor_2 : decode cX7_factor 2 = .ok (.if_icmp .ge 38, 3) := by decide +kernel
theorem dX7_factor_5 : decode cX7_factor 5 = .ok (.aload_n 0, 1) := by decide +kernel
theorem dX7_factor_6 : decode cX7_factor 6 = .ok (.bipush 40, 2) := by decide +kernel
theorem dX7_factor_8 : decode cX7_factor 8 = .ok (.invokevirtual 35, 3) := by decide +kernel
theorem dX7_factor_11 : decode cX7_factor 11 = .ok (.ifCond .eq 29, 3) := by decide +kernel
theorem dX7_factor_14 : decode cX7_factor 14 = .ok (.aload_n 0, 1) := by decide +kernel
theorem dX7_factor_15 : decode cX7_factor 15 = .ok (.aload_n 1, 1) := by decide +kernel
theorem dX7_factor_16 : decode cX7_factor 16 = .ok (.iload_n 2, 1) := by decide +kernel
theorem dX7_factor_17 : decode cX7_factor 17 = .ok (.iconst 1, 1) := by decide +kernel
theorem dX7_factor_18 : decode cX7_factor 18 = .ok (.iadd, 1) := by decide +kernel
theorem dX7_factor_19 : decode cX7_factor 19 = .ok (.invokevirtual 61, 3) := by decide +kernel
theorem dX7_factor_22 : decode cX7_factor 22 = .ok (.ifCond .eq 16, 3) := by decide +kernel
theorem dX7_factor_25 : decode cX7_factor 25 = .ok (.aload_n 0, 1) := by decide +kernel
theorem dX7_factor_26 : decode cX7_factor 26 = .ok (.bipush 41, 2) := by decide +kernel
theorem dX7_factor_28 : decode cX7_factor 28 = .ok (.invokevirtual 35, 3) := by decide +kernel
theorem dX7_factor_31 : decode cX7_factor 31 = .ok (.ifCond .eq 7, 3) := by decide +kernel
theorem dX7_factor_34 : decode cX7_factor 34 = .ok (.iconst 1, 1) := by decide +kernel
theorem dX7_factor_35 : decode cX7_factor 35 = .ok (.goto 4, 3) := by decide +kernel
theorem dX7_factor_38 : decode cX7_factor 38 = .ok (.iconst 0, 1) := by decide +kernel
theorem dX7_factor_39 : decode cX7_factor 39 = .ok (.ireturn, 1) := by decide +kernel
theorem dX7_factor_40 : decode cX7_factor 40 = .ok (.iload_n 2, 1) := by decide +kernel
theorem dX7_factor_41 : decode cX7_factor 41 = .ok (.iconst 4, 1) := by decide +kernel
theorem dX7_factor_42 : decode cX7_factor 42 = .ok (.if_icmp .ge 28, 3) := by decide +kernel
theorem dX7_factor_45 : decode cX7_factor 45 = .ok (.aload_n 0, 1) := by decide +kernel
theorem dX7_factor_46 : decode cX7_factor 46 = .ok (.bipush 33, 2) := by decide +kernel
theorem dX7_factor_48 : decode cX7_factor 48 = .ok (.invokevirtual 35, 3) := by decide +kernel
theorem dX7_factor_51 : decode cX7_factor 51 = .ok (.ifCond .eq 19, 3) := by decide +kernel
theorem dX7_factor_54 : decode cX7_factor 54 = .ok (.aload_n 0, 1) := by decide +kernel
theorem dX7_factor_55 : decode cX7_factor 55 = .ok (.aload_n 1, 1) := by decide +kernel
theorem dX7_factor_56 : decode cX7_factor 56 = .ok (.iload_n 2, 1) := by decide +kernel
theorem dX7_factor_57 : decode cX7_factor 57 = .ok (.iconst 1, 1) := by decide +kernel
theorem dX7_factor_58 : decode cX7_factor 58 = .ok (.iadd, 1) := by decide +kernel
theorem dX7_factor_59 : decode cX7_factor 59 = .ok (.invokevirtual 76, 3) := by decide +kernel
theorem dX7_factor_62 : decode cX7_factor 62 = .ok (.istore_n 3, 1) := by decide +kernel
theorem dX7_factor_63 : decode cX7_factor 63 = .ok (.aload_n 1, 1) := by decide +kernel
theorem dX7_factor_64 : decode cX7_factor 64 = .ok (.iconst (-1), 1) := by decide +kernel
theorem dX7_factor_65 : decode cX7_factor 65 = .ok (.invokevirtual 72, 3) := by decide +kernel
theorem dX7_factor_68 : decode cX7_factor 68 = .ok (.iload_n 3, 1) := by decide +kernel
theorem dX7_factor_69 : decode cX7_factor 69 = .ok (.ireturn, 1) := by decide +kernel
theorem dX7_factor_70 : decode cX7_factor 70 = .ok (.aload_n 0, 1) := by decide +kernel
theorem dX7_factor_71 : decode cX7_factor 71 = .ok (.aload_n 1, 1) := by decide +kernel
theorem dX7_factor_72 : decode cX7_factor 72 = .ok (.invokevirtual 79, 3) := by decide +kernel
theorem dX7_factor_75 : decode cX7_factor 75 = .ok (.ireturn, 1) := by decide +kernel
theorem dX7_test_0 : decode cX7_test 0 = .ok (.ldc 82, 2) := by decide +kernel
theorem dX7_test_2 : decode cX7_test 2 = .ok (.aload_n 0, 1) := by decide +kernel
theorem dX7_test_3 : decode cX7_test 3 = .ok (.invokevirtual 39, 3) := by decide +kernel
theorem dX7_test_6 : decode cX7_test 6 = .ok (.invokevirtual 84, 3) := by decide +kernel
theorem dX7_test_9 : decode cX7_test 9 = .ok (.istore_n 2, 1) := by decide +kernel
theorem dX7_test_10 : decode cX7_test 10 = .ok (.iload_n 2, 1) := by decide +kernel
theorem dX7_test_11 : decode cX7_test 11 = .ok (.ifCond .ge 5, 3) := by decide +kernel
theorem dX7_test_14 : decode cX7_test 14 = .ok (.iconst 0, 1) := by decide +kernel
theorem dX7_test_15 : decode cX7_test 15 = .ok (.ireturn, 1) := by decide +kernel
theorem dX7_test_16 : decode cX7_test 16 = .ok (.aload_n 0, 1) := by decide +kernel
theorem dX7_test_17 : decode cX7_test 17 = .ok (.dup, 1) := by decide +kernel
theorem dX7_test_18 : decode cX7_test 18 = .ok (.getfield 28, 3) := by decide +kernel
theorem dX7_test_21 : decode cX7_test 21 = .ok (.iconst 1, 1) := by decide +kernel
theorem dX7_test_22 : decode cX7_test 22 = .ok (.iadd, 1) := by decide +kernel
theorem dX7_test_23 : decode cX7_test 23 = .ok (.putfield 28, 3) := by decide +kernel
theorem dX7_test_26 : decode cX7_test 26 = .ok (.ldc 88, 2) := by decide +kernel
theorem dX7_test_28 : decode cX7_test 28 = .ok (.aload_n 0, 1) := by decide +kernel
theorem dX7_test_29 : decode cX7_test 29 = .ok (.invokevirtual 39, 3) := by decide +kernel
theorem dX7_test_32 : decode cX7_test 32 = .ok (.invokevirtual 84, 3) := by decide +kernel
theorem dX7_test_35 : decode cX7_test 35 = .ok (.istore_n 3, 1) := by decide +kernel
theorem dX7_test_36 : decode cX7_test 36 = .ok (.iload_n 3, 1) := by decide +kernel
theorem dX7_test_37 : decode cX7_test 37 = .ok (.ifCond .ge 5, 3) := by decide +kernel
theorem dX7_test_40 : decode cX7_test 40 = .ok (.iconst 0, 1) := by decide +kernel
theorem dX7_test_41 : decode cX7_test 41 = .ok (.ireturn, 1) := by decide +kernel
theorem dX7_test_42 : decode cX7_test 42 = .ok (.aload_n 0, 1) := by decide +kernel
theorem dX7_test_43 : decode cX7_test 43 = .ok (.dup, 1) := by decide +kernel
theorem dX7_test_44 : decode cX7_test 44 = .ok (.getfield 28, 3) := by decide +kernel
theorem dX7_test_47 : decode cX7_test 47 = .ok (.iconst 1, 1) := by decide +kernel
theorem dX7_test_48 : decode cX7_test 48 = .ok (.iadd, 1) := by decide +kernel
theorem dX7_test_49 : decode cX7_test 49 = .ok (.putfield 28, 3) := by decide +kernel
theorem dX7_test_52 : decode cX7_test 52 = .ok (.aload_n 0, 1) := by decide +kernel
theorem dX7_test_53 : decode cX7_test 53 = .ok (.invokevirtual 58, 3) := by decide +kernel
theorem dX7_test_56 : decode cX7_test 56 = .ok (.istore 4, 2) := by decide +kernel
theorem dX7_test_58 : decode cX7_test 58 = .ok (.iload 4, 2) := by decide +kernel
theorem dX7_test_60 : decode cX7_test 60 = .ok (.iconst (-1), 1) := by decide +kernel
theorem dX7_test_61 : decode cX7_test 61 = .ok (.if_icmp .ne 5, 3) := by decide +kernel
theorem dX7_test_64 : decode cX7_test 64 = .ok (.iconst 0, 1) := by decide +kernel
theorem dX7_test_65 : decode cX7_test 65 = .ok (.ireturn, 1) := by decide +kernel
theorem dX7_test_66 : decode cX7_test 66 = .ok (.aload_n 1, 1) := by decide +kernel
theorem dX7_test_67 : decode cX7_test 67 = .ok (.iload_n 2, 1) := by decide +kernel
theorem dX7_test_68 : decode cX7_test 68 = .ok (.iload_n 3, 1) := by decide +kernel
theorem dX7_test_69 : decode cX7_test 69 = .ok (.iload 4, 2) := by decide +kernel
theorem dX7_test_71 : decode cX7_test 71 = .ok (.invokestatic 90, 3) := by decide +kernel
theorem dX7_test_74 : decode cX7_test 74 = .ok (.invokevirtual 72, 3) := by decide +kernel
theorem dX7_test_77 : decode cX7_test 77 = .ok (.iconst 1, 1) := by decide +kernel
theorem dX7_test_78 : decode cX7_test 78 = .ok (.ireturn, 1) := by decide +kernel
theorem dX7_number_0 : decode cX7_number 0 = .ok (.iconst (-1), 1) := by decide +kernel
theorem dX7_number_1 : decode cX7_number 1 = .ok (.istore_n 1, 1) := by decide +kernel
theorem dX7_number_2 : decode cX7_number 2 = .ok (.iconst 0, 1) := by decide +kernel
theorem dX7_number_3 : decode cX7_number 3 = .ok (.istore_n 2, 1) := by decide +kernel
theorem dX7_number_4 : decode cX7_number 4 = .ok (.iload_n 2, 1) := by decide +kernel
theorem dX7_number_5 : decode cX7_number 5 = .ok (.iconst 2, 1) := by decide +kernel
theorem dX7_number_6 : decode cX7_number 6 = .ok (.if_icmp .ge 82, 3) := by decide +kernel
theorem dX7_number_9 : decode cX7_number 9 = .ok (.aload_n 0, 1) := by decide +kernel
theorem dX7_number_10 : decode cX7_number 10 = .ok (.getfield 28, 3) := by decide +kernel
theorem dX7_number_13 : decode cX7_number 13 = .ok (.aload_n 0, 1) := by decide +kernel
theorem dX7_number_14 : decode cX7_number 14 = .ok (.getfield 15, 3) := by decide +kernel
theorem dX7_number_17 : decode cX7_number 17 = .ok (.if_icmp .ge 31, 3) := by decide +kernel
theorem dX7_number_20 : decode cX7_number 20 = .ok (.aload_n 0, 1) := by decide +kernel
theorem dX7_number_21 : decode cX7_number 21 = .ok (.getfield 9, 3) := by decide +kernel
theorem dX7_number_24 : decode cX7_number 24 = .ok (.aload_n 0, 1) := by decide +kernel
theorem dX7_number_25 : decode cX7_number 25 = .ok (.getfield 28, 3) := by decide +kernel
theorem dX7_number_28 : decode cX7_number 28 = .ok (.caload, 1) := by decide +kernel
theorem dX7_number_29 : decode cX7_number 29 = .ok (.bipush 48, 2) := by decide +kernel
theorem dX7_number_31 : decode cX7_number 31 = .ok (.if_icmp .lt 17, 3) := by decide +kernel
theorem dX7_number_34 : decode cX7_number 34 = .ok (.aload_n 0, 1) := by decide +kernel
theorem dX7_number_35 : decode cX7_number 35 = .ok (.getfield 9, 3) := by decide +kernel
theorem dX7_number_38 : decode cX7_number 38 = .ok (.aload_n 0, 1) := by decide +kernel
theorem dX7_number_39 : decode cX7_number 39 = .ok (.getfield 28, 3) := by decide +kernel
theorem dX7_number_42 : decode cX7_number 42 = .ok (.caload, 1) := by decide +kernel
theorem dX7_number_43 : decode cX7_number 43 = .ok (.bipush 57, 2) := by decide +kernel
theorem dX7_number_45 : decode cX7_number 45 = .ok (.if_icmp .le 5, 3) := by decide +kernel
theorem dX7_number_48 : decode cX7_number 48 = .ok (.iload_n 1, 1) := by decide +kernel
theorem dX7_number_49 : decode cX7_number 49 = .ok (.ireturn, 1) := by decide +kernel
theorem dX7_number_50 : decode cX7_number 50 = .ok (.iload_n 1, 1) := by decide +kernel
theorem dX7_number_51 : decode cX7_number 51 = .ok (.iconst 0, 1) := by decide +kernel
theorem dX7_number_52 : decode cX7_number 52 = .ok (.invokestatic 94, 3) := by decide +kernel
theorem dX7_number_55 : decode cX7_number 55 = .ok (.bipush 10, 2) := by decide +kernel
theorem dX7_number_57 : decode cX7_number 57 = .ok (.imul, 1) := by decide +kernel
theorem dX7_number_58 : decode cX7_number 58 = .ok (.aload_n 0, 1) := by decide +kernel
theorem dX7_number_59 : decode cX7_number 59 = .ok (.getfield 9, 3) := by decide +kernel
theorem dX7_number_62 : decode cX7_number 62 = .ok (.aload_n 0, 1) := by decide +kernel
theorem dX7_number_63 : decode cX7_number 63 = .ok (.getfield 28, 3) := by decide +kernel
theorem dX7_number_66 : decode cX7_number 66 = .ok (.caload, 1) := by decide +kernel
theorem dX7_number_67 : decode cX7_number 67 = .ok (.iadd, 1) := by decide +kernel
theorem dX7_number_68 : decode cX7_number 68 = .ok (.bipush 48, 2) := by decide +kernel
theorem dX7_number_70 : decode cX7_number 70 = .ok (.isub, 1) := by decide +kernel
theorem dX7_number_71 : decode cX7_number 71 = .ok (.istore_n 1, 1) := by decide +kernel
theorem dX7_number_72 : decode cX7_number 72 = .ok (.aload_n 0, 1) := by decide +kernel
theorem dX7_number_73 : decode cX7_number 73 = .ok (.dup, 1) := by decide +kernel
theorem dX7_number_74 : decode cX7_number 74 = .ok (.getfield 28, 3) := by decide +kernel
theorem dX7_number_77 : decode cX7_number 77 = .ok (.iconst 1, 1) := by decide +kernel
theorem dX7_number_78 : decode cX7_number 78 = .ok (.iadd, 1) := by decide +kernel
theorem dX7_number_79 : decode cX7_number 79 = .ok (.putfield 28, 3) := by decide +kernel
theorem dX7_number_82 : decode cX7_number 82 = .ok (.iinc 2 1, 3) := by decide +kernel
theorem dX7_number_85 : decode cX7_number 85 = .ok (.goto (-81), 3) := by decide +kernel
theorem dX7_number_88 : decode cX7_number 88 = .ok (.iload_n 1, 1) := by decide +kernel
theorem dX7_number_89 : decode cX7_number 89 = .ok (.ireturn, 1) := by decide +kernel
theorem dX7_took_0 : decode cX7_took 0 = .ok (.aload_n 0, 1) := by decide +kernel
theorem dX7_took_1 : decode cX7_took 1 = .ok (.invokevirtual 39, 3) := by decide +kernel
theorem dX7_took_4 : decode cX7_took 4 = .ok (.iload_n 1, 1) := by decide +kernel
theorem dX7_took_5 : decode cX7_took 5 = .ok (.if_icmp .eq 5, 3) := by decide +kernel
theorem dX7_took_8 : decode cX7_took 8 = .ok (.iconst 0, 1) := by decide +kernel
theorem dX7_took_9 : decode cX7_took 9 = .ok (.ireturn, 1) := by decide +kernel
theorem dX7_took_10 : decode cX7_took 10 = .ok (.aload_n 0, 1) := by decide +kernel
theorem dX7_took_11 : decode cX7_took 11 = .ok (.dup, 1) := by decide +kernel
theorem dX7_took_12 : decode cX7_took 12 = .ok (.getfield 28, 3) := by decide +kernel
theorem dX7_took_15 : decode cX7_took 15 = .ok (.iconst 1, 1) := by decide +kernel
theorem dX7_took_16 : decode cX7_took 16 = .ok (.iadd, 1) := by decide +kernel
theorem dX7_took_17 : decode cX7_took 17 = .ok (.putfield 28, 3) := by decide +kernel
theorem dX7_took_20 : decode cX7_took 20 = .ok (.iconst 1, 1) := by decide +kernel
theorem dX7_took_21 : decode cX7_took 21 = .ok (.ireturn, 1) := by decide +kernel
theorem dX7_sign_0 : decode cX7_sign 0 = .ok (.aload_n 0, 1) := by decide +kernel
theorem dX7_sign_1 : decode cX7_sign 1 = .ok (.getfield 28, 3) := by decide +kernel
theorem dX7_sign_4 : decode cX7_sign 4 = .ok (.aload_n 0, 1) := by decide +kernel
theorem dX7_sign_5 : decode cX7_sign 5 = .ok (.getfield 15, 3) := by decide +kernel
theorem dX7_sign_8 : decode cX7_sign 8 = .ok (.if_icmp .ge 15, 3) := by decide +kernel
theorem dX7_sign_11 : decode cX7_sign 11 = .ok (.aload_n 0, 1) := by decide +kernel
theorem dX7_sign_12 : decode cX7_sign 12 = .ok (.getfield 9, 3) := by decide +kernel
theorem dX7_sign_15 : decode cX7_sign 15 = .ok (.aload_n 0, 1) := by decide +kernel
theorem dX7_sign_16 : decode cX7_sign 16 = .ok (.getfield 28, 3) := by decide +kernel
theorem dX7_sign_19 : decode cX7_sign 19 = .ok (.caload, 1) := by decide +kernel
theorem dX7_sign_20 : decode cX7_sign 20 = .ok (.goto 6, 3) := by decide +kernel
theorem dX7_sign_23 : decode cX7_sign 23 = .ok (.sipush 255, 3) := by decide +kernel
theorem dX7_sign_26 : decode cX7_sign 26 = .ok (.ireturn, 1) := by decide +kernel
theorem dX8_init_0 : decode cX8_init 0 = .ok (.aload_n 0, 1) := by decide +kernel
theorem dX8_init_1 : decode cX8_init 1 = .ok (.iload_n 1, 1) := by decide +kernel
theorem dX8_init_2 : decode cX8_init 2 = .ok (.iload_n 2, 1) := by decide +kernel
theorem dX8_init_3 : decode cX8_init 3 = .ok (.iload_n 3, 1) := by decide +kernel
theorem dX8_init_4 : decode cX8_init 4 = .ok (.invokespecial 1, 3) := by decide +kernel
theorem dX8_init_7 : decode cX8_init 7 = .ok (.return_, 1) := by decide +kernel
theorem dX8_first_0 : decode cX8_first 0 = .ok (.aload_n 1, 1) := by decide +kernel
theorem dX8_first_1 : decode cX8_first 1 = .ok (.getfield 7, 3) := by decide +kernel
theorem dX8_first_4 : decode cX8_first 4 = .ok (.aload_n 0, 1) := by decide +kernel
theorem dX8_first_5 : decode cX8_first 5 = .ok (.getfield 13, 3) := by decide +kernel
theorem dX8_first_8 : decode cX8_first 8 = .ok (.iaload, 1) := by decide +kernel
theorem dX8_first_9 : decode cX8_first 9 = .ok (.ireturn, 1) := by decide +kernel
theorem dX8_tosses_0 : decode cX8_tosses 0 = .ok (.aload_n 2, 1) := by decide +kernel
theorem dX8_tosses_1 : decode cX8_tosses 1 = .ok (.bipush 30, 2) := by decide +kernel
theorem dX8_tosses_3 : decode cX8_tosses 3 = .ok (.invokestatic 19, 3) := by decide +kernel
theorem dX8_tosses_6 : decode cX8_tosses 6 = .ok (.invokevirtual 25, 3) := by decide +kernel
theorem dX8_tosses_9 : decode cX8_tosses 9 = .ok (.pop, 1) := by decide +kernel
theorem dX8_tosses_10 : decode cX8_tosses 10 = .ok (.aload_n 0, 1) := by decide +kernel
theorem dX8_tosses_11 : decode cX8_tosses 11 = .ok (.iload_n 1, 1) := by decide +kernel
theorem dX8_tosses_12 : decode cX8_tosses 12 = .ok (.iconst 3, 1) := by decide +kernel
theorem dX8_tosses_13 : decode cX8_tosses 13 = .ok (.imul, 1) := by decide +kernel
theorem dX8_tosses_14 : decode cX8_tosses 14 = .ok (.aload_n 2, 1) := by decide +kernel
theorem dX8_tosses_15 : decode cX8_tosses 15 = .ok (.invokespecial 31, 3) := by decide +kernel
theorem dX8_tosses_18 : decode cX8_tosses 18 = .ok (.ireturn, 1) := by decide +kernel
theorem dX9_init_0 : decode cX9_init 0 = .ok (.aload_n 0, 1) := by decide +kernel
theorem dX9_init_1 : decode cX9_init 1 = .ok (.iload_n 1, 1) := by decide +kernel
theorem dX9_init_2 : decode cX9_init 2 = .ok (.iload_n 2, 1) := by decide +kernel
theorem dX9_init_3 : decode cX9_init 3 = .ok (.iload_n 3, 1) := by decide +kernel
theorem dX9_init_4 : decode cX9_init 4 = .ok (.invokespecial 1, 3) := by decide +kernel
theorem dX9_init_7 : decode cX9_init 7 = .ok (.return_, 1) := by decide +kernel
theorem dX9_first_0 : decode cX9_first 0 = .ok (.iconst 0, 1) := by decide +kernel
theorem dX9_first_1 : decode cX9_first 1 = .ok (.aload_n 1, 1) := by decide +kernel
theorem dX9_first_2 : decode cX9_first 2 = .ok (.getfield 7, 3) := by decide +kernel
theorem dX9_first_5 : decode cX9_first 5 = .ok (.aload_n 0, 1) := by decide +kernel
theorem dX9_first_6 : decode cX9_first 6 = .ok (.getfield 13, 3) := by decide +kernel
theorem dX9_first_9 : decode cX9_first 9 = .ok (.iaload, 1) := by decide +kernel
theorem dX9_first_10 : decode cX9_first 10 = .ok (.aload_n 1, 1) := by decide +kernel
theorem dX9_first_11 : decode cX9_first 11 = .ok (.getfield 19, 3) := by decide +kernel
