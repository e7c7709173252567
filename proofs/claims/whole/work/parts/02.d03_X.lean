theorem dX9_first_14 : decode cX9_first 14 = .ok (.aload_n 0, 1) := by decide +kernel
theorem dX9_first_15 : decode cX9_first 15 = .ok (.getfield 13, 3) := by decide +kernel
theorem dX9_first_18 : decode cX9_first 18 = .ok (.iaload, 1) := by decide +kernel
theorem dX9_first_19 : decode cX9_first 19 = .ok (.bipush 20, 2) := by decide +kernel
theorem dX9_first_21 : decode cX9_first 21 = .ok (.idiv, 1) := by decide +kernel
theorem dX9_first_22 : decode cX9_first 22 = .ok (.isub, 1) := by decide +kernel
theorem dX9_first_23 : decode cX9_first 23 = .ok (.invokestatic 22, 3) := by decide +kernel
theorem dX9_first_26 : decode cX9_first 26 = .ok (.ireturn, 1) := by decide +kernel
theorem dX9_tells_0 : decode cX9_tells 0 = .ok (.aload_n 2, 1) := by decide +kernel
theorem dX9_tells_1 : decode cX9_tells 1 = .ok (.bipush 40, 2) := by decide +kernel
theorem dX9_tells_3 : decode cX9_tells 3 = .ok (.invokestatic 28, 3) := by decide +kernel
theorem dX9_tells_6 : decode cX9_tells 6 = .ok (.invokevirtual 34, 3) := by decide +kernel
theorem dX9_tells_9 : decode cX9_tells 9 = .ok (.pop, 1) := by decide +kernel
theorem dX9_tells_10 : decode cX9_tells 10 = .ok (.aload_n 0, 1) := by decide +kernel
theorem dX9_tells_11 : decode cX9_tells 11 = .ok (.iload_n 1, 1) := by decide +kernel
theorem dX9_tells_12 : decode cX9_tells 12 = .ok (.aload_n 2, 1) := by decide +kernel
theorem dX9_tells_13 : decode cX9_tells 13 = .ok (.invokespecial 40, 3) := by decide +kernel
theorem dX9_tells_16 : decode cX9_tells 16 = .ok (.aload_n 0, 1) := by decide +kernel
theorem dX9_tells_17 : decode cX9_tells 17 = .ok (.iconst 1, 1) := by decide +kernel
theorem dX9_tells_18 : decode cX9_tells 18 = .ok (.aload_n 2, 1) := by decide +kernel
theorem dX9_tells_19 : decode cX9_tells 19 = .ok (.invokevirtual 44, 3) := by decide +kernel
theorem dX9_tells_22 : decode cX9_tells 22 = .ok (.iadd, 1) := by decide +kernel
theorem dX9_tells_23 : decode cX9_tells 23 = .ok (.ireturn, 1) := by decide +kernel
theorem dX10_init_0 : decode cX10_init 0 = .ok (.aload_n 0, 1) := by decide +kernel
theorem dX10_init_1 : decode cX10_init 1 = .ok (.iload_n 1, 1) := by decide +kernel
theorem dX10_init_2 : decode cX10_init 2 = .ok (.iload_n 2, 1) := by decide +kernel
theorem dX10_init_3 : decode cX10_init 3 = .ok (.iload_n 3, 1) := by decide +kernel
theorem dX10_init_4 : decode cX10_init 4 = .ok (.invokespecial 3, 3) := by decide +kernel
theorem dX10_init_7 : decode cX10_init 7 = .ok (.return_, 1) := by decide +kernel
theorem dX10_first_0 : decode cX10_first 0 = .ok (.aload_n 1, 1) := by decide +kernel
theorem dX10_first_1 : decode cX10_first 1 = .ok (.getfield 9, 3) := by decide +kernel
theorem dX10_first_4 : decode cX10_first 4 = .ok (.aload_n 0, 1) := by decide +kernel
theorem dX10_first_5 : decode cX10_first 5 = .ok (.getfield 15, 3) := by decide +kernel
theorem dX10_first_8 : decode cX10_first 8 = .ok (.iconst 4, 1) := by decide +kernel
theorem dX10_first_9 : decode cX10_first 9 = .ok (.imul, 1) := by decide +kernel
theorem dX10_first_10 : decode cX10_first 10 = .ok (.aload_n 1, 1) := by decide +kernel
theorem dX10_first_11 : decode cX10_first 11 = .ok (.getfield 21, 3) := by decide +kernel
theorem dX10_first_14 : decode cX10_first 14 = .ok (.aload_n 0, 1) := by decide +kernel
theorem dX10_first_15 : decode cX10_first 15 = .ok (.getfield 15, 3) := by decide +kernel
theorem dX10_first_18 : decode cX10_first 18 = .ok (.iaload, 1) := by decide +kernel
theorem dX10_first_19 : decode cX10_first 19 = .ok (.iconst 4, 1) := by decide +kernel
theorem dX10_first_20 : decode cX10_first 20 = .ok (.irem, 1) := by decide +kernel
theorem dX10_first_21 : decode cX10_first 21 = .ok (.iadd, 1) := by decide +kernel
theorem dX10_first_22 : decode cX10_first 22 = .ok (.iaload, 1) := by decide +kernel
theorem dX10_first_23 : decode cX10_first 23 = .ok (.ireturn, 1) := by decide +kernel
theorem dX10_strikes_0 : decode cX10_strikes 0 = .ok (.aload_n 2, 1) := by decide +kernel
theorem dX10_strikes_1 : decode cX10_strikes 1 = .ok (.bipush 70, 2) := by decide +kernel
theorem dX10_strikes_3 : decode cX10_strikes 3 = .ok (.invokestatic 24, 3) := by decide +kernel
theorem dX10_strikes_6 : decode cX10_strikes 6 = .ok (.invokevirtual 30, 3) := by decide +kernel
theorem dX10_strikes_9 : decode cX10_strikes 9 = .ok (.pop, 1) := by decide +kernel
theorem dX10_strikes_10 : decode cX10_strikes 10 = .ok (.aload_n 0, 1) := by decide +kernel
theorem dX10_strikes_11 : decode cX10_strikes 11 = .ok (.iload_n 1, 1) := by decide +kernel
theorem dX10_strikes_12 : decode cX10_strikes 12 = .ok (.aload_n 2, 1) := by decide +kernel
theorem dX10_strikes_13 : decode cX10_strikes 13 = .ok (.invokespecial 36, 3) := by decide +kernel
theorem dX10_strikes_16 : decode cX10_strikes 16 = .ok (.aload_n 0, 1) := by decide +kernel
theorem dX10_strikes_17 : decode cX10_strikes 17 = .ok (.iconst 2, 1) := by decide +kernel
theorem dX10_strikes_18 : decode cX10_strikes 18 = .ok (.aload_n 2, 1) := by decide +kernel
theorem dX10_strikes_19 : decode cX10_strikes 19 = .ok (.invokespecial 40, 3) := by decide +kernel
theorem dX10_strikes_22 : decode cX10_strikes 22 = .ok (.iadd, 1) := by decide +kernel
theorem dX10_strikes_23 : decode cX10_strikes 23 = .ok (.ireturn, 1) := by decide +kernel
theorem dX10_tosses_0 : decode cX10_tosses 0 = .ok (.aload_n 2, 1) := by decide +kernel
theorem dX10_tosses_1 : decode cX10_tosses 1 = .ok (.bipush 71, 2) := by decide +kernel
theorem dX10_tosses_3 : decode cX10_tosses 3 = .ok (.invokestatic 24, 3) := by decide +kernel
theorem dX10_tosses_6 : decode cX10_tosses 6 = .ok (.invokevirtual 30, 3) := by decide +kernel
theorem dX10_tosses_9 : decode cX10_tosses 9 = .ok (.pop, 1) := by decide +kernel
theorem dX10_tosses_10 : decode cX10_tosses 10 = .ok (.aload_n 0, 1) := by decide +kernel
theorem dX10_tosses_11 : decode cX10_tosses 11 = .ok (.iload_n 1, 1) := by decide +kernel
theorem dX10_tosses_12 : decode cX10_tosses 12 = .ok (.aload_n 2, 1) := by decide +kernel
theorem dX10_tosses_13 : decode cX10_tosses 13 = .ok (.invokespecial 40, 3) := by decide +kernel
theorem dX10_tosses_16 : decode cX10_tosses 16 = .ok (.aload_n 0, 1) := by decide +kernel
theorem dX10_tosses_17 : decode cX10_tosses 17 = .ok (.getfield 43, 3) := by decide +kernel
theorem dX10_tosses_20 : decode cX10_tosses 20 = .ok (.ixor, 1) := by decide +kernel
theorem dX10_tosses_21 : decode cX10_tosses 21 = .ok (.ireturn, 1) := by decide +kernel
