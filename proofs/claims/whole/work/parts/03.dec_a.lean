theorem dX0_init_0 : decode cX0_init 0 = .ok (.aload_n 0, 1) := by decide +kernel
theorem dX0_init_1 : decode cX0_init 1 = .ok (.invokespecial 1, 3) := by decide +kernel
theorem dX0_init_4 : decode cX0_init 4 = .ok (.return_, 1) := by decide +kernel
theorem dX0_isUnder_0 : decode cX0_isUnder 0 = .ok (.iload_n 0, 1) := by decide +kernel
theorem dX0_isUnder_1 : decode cX0_isUnder 1 = .ok (.ifCond .lt 11, 3) := by decide +kernel
theorem dX0_isUnder_4 : decode cX0_isUnder 4 = .ok (.iload_n 0, 1) := by decide +kernel
theorem dX0_isUnder_5 : decode cX0_isUnder 5 = .ok (.getstatic 7, 3) := by decide +kernel
theorem dX0_isUnder_8 : decode cX0_isUnder 8 = .ok (.arraylength, 1) := by decide +kernel
theorem dX0_isUnder_9 : decode cX0_isUnder 9 = .ok (.if_icmp .lt 5, 3) := by decide +kernel
theorem dX0_isUnder_12 : decode cX0_isUnder 12 = .ok (.iconst 0, 1) := by decide +kernel
theorem dX0_isUnder_13 : decode cX0_isUnder 13 = .ok (.ireturn, 1) := by decide +kernel
theorem dX0_isUnder_14 : decode cX0_isUnder 14 = .ok (.iload_n 1, 1) := by decide +kernel
theorem dX0_isUnder_15 : decode cX0_isUnder 15 = .ok (.ifCond .eq 17, 3) := by decide +kernel
theorem dX0_isUnder_18 : decode cX0_isUnder 18 = .ok (.iload_n 1, 1) := by decide +kernel
theorem dX0_isUnder_19 : decode cX0_isUnder 19 = .ok (.iload_n 0, 1) := by decide +kernel
theorem dX0_isUnder_20 : decode cX0_isUnder 20 = .ok (.if_icmp .eq 12, 3) := by decide +kernel
theorem dX0_isUnder_23 : decode cX0_isUnder 23 = .ok (.iload_n 1, 1) := by decide +kernel
theorem dX0_isUnder_24 : decode cX0_isUnder 24 = .ok (.getstatic 7, 3) := by decide +kernel
theorem dX0_isUnder_27 : decode cX0_isUnder 27 = .ok (.iload_n 0, 1) := by decide +kernel
theorem dX0_isUnder_28 : decode cX0_isUnder 28 = .ok (.iaload, 1) := by decide +kernel
theorem dX0_isUnder_29 : decode cX0_isUnder 29 = .ok (.if_icmp .ne 7, 3) := by decide +kernel
theorem dX0_isUnder_32 : decode cX0_isUnder 32 = .ok (.iconst 1, 1) := by decide +kernel
theorem dX0_isUnder_33 : decode cX0_isUnder 33 = .ok (.goto 4, 3) := by decide +kernel
theorem dX0_isUnder_36 : decode cX0_isUnder 36 = .ok (.iconst 0, 1) := by decide +kernel
theorem dX0_isUnder_37 : decode cX0_isUnder 37 = .ok (.ireturn, 1) := by decide +kernel
theorem dX0_leak_0 : decode cX0_leak 0 = .ok (.iconst 2, 1) := by decide +kernel
theorem dX0_leak_1 : decode cX0_leak 1 = .ok (.iload_n 1, 1) := by decide +kernel
theorem dX0_leak_2 : decode cX0_leak 2 = .ok (.iadd, 1) := by decide +kernel
theorem dX0_leak_3 : decode cX0_leak 3 = .ok (.ireturn, 1) := by decide +kernel
theorem dX0_lift_0 : decode cX0_lift 0 = .ok (.iload_n 1, 1) := by decide +kernel
theorem dX0_lift_1 : decode cX0_lift 1 = .ok (.bipush 99, 2) := by decide +kernel
theorem dX0_lift_3 : decode cX0_lift 3 = .ok (.if_icmp .ge 13, 3) := by decide +kernel
theorem dX0_lift_6 : decode cX0_lift 6 = .ok (.bipush 9, 2) := by decide +kernel
theorem dX0_lift_8 : decode cX0_lift 8 = .ok (.iload_n 1, 1) := by decide +kernel
theorem dX0_lift_9 : decode cX0_lift 9 = .ok (.bipush 11, 2) := by decide +kernel
theorem dX0_lift_11 : decode cX0_lift 11 = .ok (.idiv, 1) := by decide +kernel
theorem dX0_lift_12 : decode cX0_lift 12 = .ok (.isub, 1) := by decide +kernel
theorem dX0_lift_13 : decode cX0_lift 13 = .ok (.goto 4, 3) := by decide +kernel
theorem dX0_lift_16 : decode cX0_lift 16 = .ok (.iconst 0, 1) := by decide +kernel
theorem dX0_lift_17 : decode cX0_lift 17 = .ok (.ireturn, 1) := by decide +kernel
theorem dX0_rolls_0 : decode cX0_rolls 0 = .ok (.aload_n 1, 1) := by decide +kernel
theorem dX0_rolls_1 : decode cX0_rolls 1 = .ok (.bipush 10, 2) := by decide +kernel
theorem dX0_rolls_3 : decode cX0_rolls 3 = .ok (.invokevirtual 13, 3) := by decide +kernel
theorem dX0_rolls_6 : decode cX0_rolls 6 = .ok (.iload_n 2, 1) := by decide +kernel
theorem dX0_rolls_7 : decode cX0_rolls 7 = .ok (.iconst 2, 1) := by decide +kernel
theorem dX0_rolls_8 : decode cX0_rolls 8 = .ok (.imul, 1) := by decide +kernel
theorem dX0_rolls_9 : decode cX0_rolls 9 = .ok (.iconst 3, 1) := by decide +kernel
theorem dX0_rolls_10 : decode cX0_rolls 10 = .ok (.aload_n 1, 1) := by decide +kernel
theorem dX0_rolls_11 : decode cX0_rolls 11 = .ok (.getfield 19, 3) := by decide +kernel
theorem dX0_rolls_14 : decode cX0_rolls 14 = .ok (.imul, 1) := by decide +kernel
theorem dX0_rolls_15 : decode cX0_rolls 15 = .ok (.iadd, 1) := by decide +kernel
theorem dX0_rolls_16 : decode cX0_rolls 16 = .ok (.ireturn, 1) := by decide +kernel
theorem dX0_seeps_0 : decode cX0_seeps 0 = .ok (.aload_n 1, 1) := by decide +kernel
theorem dX0_seeps_1 : decode cX0_seeps 1 = .ok (.bipush 11, 2) := by decide +kernel
theorem dX0_seeps_3 : decode cX0_seeps 3 = .ok (.invokevirtual 13, 3) := by decide +kernel
theorem dX0_seeps_6 : decode cX0_seeps 6 = .ok (.aload_n 0, 1) := by decide +kernel
theorem dX0_seeps_7 : decode cX0_seeps 7 = .ok (.aload_n 1, 1) := by decide +kernel
theorem dX0_seeps_8 : decode cX0_seeps 8 = .ok (.iload_n 2, 1) := by decide +kernel
theorem dX0_seeps_9 : decode cX0_seeps 9 = .ok (.invokevirtual 23, 3) := by decide +kernel
theorem dX0_seeps_12 : decode cX0_seeps 12 = .ok (.iconst 4, 1) := by decide +kernel
theorem dX0_seeps_13 : decode cX0_seeps 13 = .ok (.aload_n 1, 1) := by decide +kernel
theorem dX0_seeps_14 : decode cX0_seeps 14 = .ok (.getfield 27, 3) := by decide +kernel
theorem dX0_seeps_17 : decode cX0_seeps 17 = .ok (.imul, 1) := by decide +kernel
theorem dX0_seeps_18 : decode cX0_seeps 18 = .ok (.isub, 1) := by decide +kernel
theorem dX0_seeps_19 : decode cX0_seeps 19 = .ok (.ireturn, 1) := by decide +kernel
theorem dX0_hoops_0 : decode cX0_hoops 0 = .ok (.aload_n 1, 1) := by decide +kernel
theorem dX0_hoops_1 : decode cX0_hoops 1 = .ok (.bipush 12, 2) := by decide +kernel
theorem dX0_hoops_3 : decode cX0_hoops 3 = .ok (.invokevirtual 13, 3) := by decide +kernel
theorem dX0_hoops_6 : decode cX0_hoops 6 = .ok (.aload_n 1, 1) := by decide +kernel
theorem dX0_hoops_7 : decode cX0_hoops 7 = .ok (.getfield 19, 3) := by decide +kernel
theorem dX0_hoops_10 : decode cX0_hoops 10 = .ok (.aload_n 1, 1) := by decide +kernel
theorem dX0_hoops_11 : decode cX0_hoops 11 = .ok (.getfield 27, 3) := by decide +kernel
theorem dX0_hoops_14 : decode cX0_hoops 14 = .ok (.iadd, 1) := by decide +kernel
theorem dX0_hoops_15 : decode cX0_hoops 15 = .ok (.iconst 2, 1) := by decide +kernel
theorem dX0_hoops_16 : decode cX0_hoops 16 = .ok (.isub, 1) := by decide +kernel
theorem dX0_hoops_17 : decode cX0_hoops 17 = .ok (.istore_n 3, 1) := by decide +kernel
theorem dX0_hoops_18 : decode cX0_hoops 18 = .ok (.iload_n 3, 1) := by decide +kernel
theorem dX0_hoops_19 : decode cX0_hoops 19 = .ok (.ifCond .ne 10, 3) := by decide +kernel
theorem dX0_hoops_22 : decode cX0_hoops 22 = .ok (.aload_n 1, 1) := by decide +kernel
theorem dX0_hoops_23 : decode cX0_hoops 23 = .ok (.iconst 1, 1) := by decide +kernel
theorem dX0_hoops_24 : decode cX0_hoops 24 = .ok (.putfield 30, 3) := by decide +kernel
theorem dX0_hoops_27 : decode cX0_hoops 27 = .ok (.iconst 0, 1) := by decide +kernel
theorem dX0_hoops_28 : decode cX0_hoops 28 = .ok (.ireturn, 1) := by decide +kernel
theorem dX0_hoops_29 : decode cX0_hoops 29 = .ok (.iload_n 2, 1) := by decide +kernel
theorem dX0_hoops_30 : decode cX0_hoops 30 = .ok (.iload_n 3, 1) := by decide +kernel
theorem dX0_hoops_31 : decode cX0_hoops 31 = .ok (.idiv, 1) := by decide +kernel
theorem dX0_hoops_32 : decode cX0_hoops 32 = .ok (.ireturn, 1) := by decide +kernel
theorem dX0_floods_0 : decode cX0_floods 0 = .ok (.aload_n 1, 1) := by decide +kernel
theorem dX0_floods_1 : decode cX0_floods 1 = .ok (.bipush 13, 2) := by decide +kernel
theorem dX0_floods_3 : decode cX0_floods 3 = .ok (.invokevirtual 13, 3) := by decide +kernel
theorem dX0_floods_6 : decode cX0_floods 6 = .ok (.aload_n 0, 1) := by decide +kernel
theorem dX0_floods_7 : decode cX0_floods 7 = .ok (.aload_n 1, 1) := by decide +kernel
theorem dX0_floods_8 : decode cX0_floods 8 = .ok (.iload_n 2, 1) := by decide +kernel
theorem dX0_floods_9 : decode cX0_floods 9 = .ok (.invokevirtual 34, 3) := by decide +kernel
theorem dX0_floods_12 : decode cX0_floods 12 = .ok (.aload_n 0, 1) := by decide +kernel
theorem dX0_floods_13 : decode cX0_floods 13 = .ok (.aload_n 1, 1) := by decide +kernel
theorem dX0_floods_14 : decode cX0_floods 14 = .ok (.iload_n 2, 1) := by decide +kernel
theorem dX0_floods_15 : decode cX0_floods 15 = .ok (.invokevirtual 37, 3) := by decide +kernel
theorem dX0_floods_18 : decode cX0_floods 18 = .ok (.ixor, 1) := by decide +kernel
theorem dX0_floods_19 : decode cX0_floods 19 = .ok (.ireturn, 1) := by decide +kernel
theorem dX1_init_0 : decode cX1_init 0 = .ok (.aload_n 0, 1) := by decide +kernel
theorem dX1_init_1 : decode cX1_init 1 = .ok (.invokespecial 1, 3) := by decide +kernel
theorem dX1_init_4 : decode cX1_init 4 = .ok (.return_, 1) := by decide +kernel
theorem dX1_leak_0 : decode cX1_leak 0 = .ok (.iconst 0, 1) := by decide +kernel
theorem dX1_leak_1 : decode cX1_leak 1 = .ok (.aload_n 0, 1) := by decide +kernel
theorem dX1_leak_2 : decode cX1_leak 2 = .ok (.iload_n 1, 1) := by decide +kernel
theorem dX1_leak_3 : decode cX1_leak 3 = .ok (.iload_n 2, 1) := by decide +kernel
theorem dX1_leak_4 : decode cX1_leak 4 = .ok (.iload_n 3, 1) := by decide +kernel
theorem dX1_leak_5 : decode cX1_leak 5 = .ok (.invokespecial 7, 3) := by decide +kernel
theorem dX1_leak_8 : decode cX1_leak 8 = .ok (.iconst 4, 1) := by decide +kernel
theorem dX1_leak_9 : decode cX1_leak 9 = .ok (.isub, 1) := by decide +kernel
theorem dX1_leak_10 : decode cX1_leak 10 = .ok (.invokestatic 11, 3) := by decide +kernel
theorem dX1_leak_13 : decode cX1_leak 13 = .ok (.ireturn, 1) := by decide +kernel
theorem dX1_lift_0 : decode cX1_lift 0 = .ok (.aload_n 0, 1) := by decide +kernel
theorem dX1_lift_1 : decode cX1_lift 1 = .ok (.iload_n 1, 1) := by decide +kernel
theorem dX1_lift_2 : decode cX1_lift 2 = .ok (.iload_n 2, 1) := by decide +kernel
theorem dX1_lift_3 : decode cX1_lift 3 = .ok (.iload_n 3, 1) := by decide +kernel
theorem dX1_lift_4 : decode cX1_lift 4 = .ok (.invokespecial 17, 3) := by decide +kernel
theorem dX1_lift_7 : decode cX1_lift 7 = .ok (.iload_n 2, 1) := by decide +kernel
theorem dX1_lift_8 : decode cX1_lift 8 = .ok (.iconst 3, 1) := by decide +kernel
theorem dX1_lift_9 : decode cX1_lift 9 = .ok (.idiv, 1) := by decide +kernel
theorem dX1_lift_10 : decode cX1_lift 10 = .ok (.iadd, 1) := by decide +kernel
theorem dX1_lift_11 : decode cX1_lift 11 = .ok (.ireturn, 1) := by decide +kernel
theorem dX1_rolls_0 : decode cX1_rolls 0 = .ok (.aload_n 1, 1) := by decide +kernel
theorem dX1_rolls_1 : decode cX1_rolls 1 = .ok (.bipush 50, 2) := by decide +kernel
theorem dX1_rolls_3 : decode cX1_rolls 3 = .ok (.invokevirtual 20, 3) := by decide +kernel
theorem dX1_rolls_6 : decode cX1_rolls 6 = .ok (.aload_n 0, 1) := by decide +kernel
theorem dX1_rolls_7 : decode cX1_rolls 7 = .ok (.aload_n 1, 1) := by decide +kernel
theorem dX1_rolls_8 : decode cX1_rolls 8 = .ok (.iload_n 2, 1) := by decide +kernel
theorem dX1_rolls_9 : decode cX1_rolls 9 = .ok (.bipush 7, 2) := by decide +kernel
theorem dX1_rolls_11 : decode cX1_rolls 11 = .ok (.isub, 1) := by decide +kernel
theorem dX1_rolls_12 : decode cX1_rolls 12 = .ok (.invokespecial 26, 3) := by decide +kernel
theorem dX1_rolls_15 : decode cX1_rolls 15 = .ok (.ireturn, 1) := by decide +kernel
theorem dX1_floods_0 : decode cX1_floods 0 = .ok (.aload_n 1, 1) := by decide +kernel
theorem dX1_floods_1 : decode cX1_floods 1 = .ok (.bipush 51, 2) := by decide +kernel
theorem dX1_floods_3 : decode cX1_floods 3 = .ok (.invokevirtual 20, 3) := by decide +kernel
theorem dX1_floods_6 : decode cX1_floods 6 = .ok (.aload_n 0, 1) := by decide +kernel
theorem dX1_floods_7 : decode cX1_floods 7 = .ok (.aload_n 1, 1) := by decide +kernel
theorem dX1_floods_8 : decode cX1_floods 8 = .ok (.iload_n 2, 1) := by decide +kernel
theorem dX1_floods_9 : decode cX1_floods 9 = .ok (.invokespecial 30, 3) := by decide +kernel
theorem dX1_floods_12 : decode cX1_floods 12 = .ok (.aload_n 0, 1) := by decide +kernel
theorem dX1_floods_13 : decode cX1_floods 13 = .ok (.aload_n 1, 1) := by decide +kernel
theorem dX1_floods_14 : decode cX1_floods 14 = .ok (.aload_n 1, 1) := by decide +kernel
theorem dX1_floods_15 : decode cX1_floods 15 = .ok (.getfield 33, 3) := by decide +kernel
theorem dX1_floods_18 : decode cX1_floods 18 = .ok (.invokevirtual 37, 3) := by decide +kernel
theorem dX1_floods_21 : decode cX1_floods 21 = .ok (.iadd, 1) := by decide +kernel
theorem dX1_floods_22 : decode cX1_floods 22 = .ok (.ireturn, 1) := by decide +kernel
theorem dX2_init_0 : decode cX2_init 0 = .ok (.aload_n 0, 1) := by decide +kernel
theorem dX2_init_1 : decode cX2_init 1 = .ok (.invokespecial 1, 3) := by decide +kernel
theorem dX2_init_4 : decode cX2_init 4 = .ok (.return_, 1) := by decide +kernel
theorem dX2_leak_0 : decode cX2_leak 0 = .ok (.aload_n 0, 1) := by decide +kernel
theorem dX2_leak_1 : decode cX2_leak 1 = .ok (.iload_n 1, 1) := by decide +kernel
theorem dX2_leak_2 : decode cX2_leak 2 = .ok (.iload_n 2, 1) := by decide +kernel
theorem dX2_leak_3 : decode cX2_leak 3 = .ok (.iload_n 3, 1) := by decide +kernel
theorem dX2_leak_4 : decode cX2_leak 4 = .ok (.invokespecial 7, 3) := by decide +kernel
theorem dX2_leak_7 : decode cX2_leak 7 = .ok (.iload_n 3, 1) := by decide +kernel
theorem dX2_leak_8 : decode cX2_leak 8 = .ok (.iconst 4, 1) := by decide +kernel
theorem dX2_leak_9 : decode cX2_leak 9 = .ok (.idiv, 1) := by decide +kernel
theorem dX2_leak_10 : decode cX2_leak 10 = .ok (.iadd, 1) := by decide +kernel
theorem dX2_leak_11 : decode cX2_leak 11 = .ok (.ireturn, 1) := by decide +kernel
theorem dX2_lift_0 : decode cX2_lift 0 = .ok (.bipush 9, 2) := by decide +kernel
theorem dX2_lift_2 : decode cX2_lift 2 = .ok (.aload_n 0, 1) := by decide +kernel
theorem dX2_lift_3 : decode cX2_lift 3 = .ok (.iload_n 1, 1) := by decide +kernel
theorem dX2_lift_4 : decode cX2_lift 4 = .ok (.iload_n 2, 1) := by decide +kernel
theorem dX2_lift_5 : decode cX2_lift 5 = .ok (.iload_n 3, 1) := by decide +kernel
theorem dX2_lift_6 : decode cX2_lift 6 = .ok (.invokespecial 11, 3) := by decide +kernel
theorem dX2_lift_9 : decode cX2_lift 9 = .ok (.iload_n 3, 1) := by decide +kernel
theorem dX2_lift_10 : decode cX2_lift 10 = .ok (.iadd, 1) := by decide +kernel
theorem dX2_lift_11 : decode cX2_lift 11 = .ok (.invokestatic 14, 3) := by decide +kernel
theorem dX2_lift_14 : decode cX2_lift 14 = .ok (.ireturn, 1) := by decide +kernel
theorem dX2_seeps_0 : decode cX2_seeps 0 = .ok (.aload_n 1, 1) := by decide +kernel
theorem dX2_seeps_1 : decode cX2_seeps 1 = .ok (.bipush 60, 2) := by decide +kernel
theorem dX2_seeps_3 : decode cX2_seeps 3 = .ok (.invokevirtual 20, 3) := by decide +kernel
theorem dX2_seeps_6 : decode cX2_seeps 6 = .ok (.iconst 0, 1) := by decide +kernel
theorem dX2_seeps_7 : decode cX2_seeps 7 = .ok (.aload_n 0, 1) := by decide +kernel
theorem dX2_seeps_8 : decode cX2_seeps 8 = .ok (.aload_n 1, 1) := by decide +kernel
theorem dX2_seeps_9 : decode cX2_seeps 9 = .ok (.iload_n 2, 1) := by decide +kernel
theorem dX2_seeps_10 : decode cX2_seeps 10 = .ok (.invokespecial 26, 3) := by decide +kernel
theorem dX2_seeps_13 : decode cX2_seeps 13 = .ok (.isub, 1) := by decide +kernel
theorem dX2_seeps_14 : decode cX2_seeps 14 = .ok (.ireturn, 1) := by decide +kernel
theorem dX2_hoops_0 : decode cX2_hoops 0 = .ok (.aload_n 1, 1) := by decide +kernel
theorem dX2_hoops_1 : decode cX2_hoops 1 = .ok (.bipush 61, 2) := by decide +kernel
theorem dX2_hoops_3 : decode cX2_hoops 3 = .ok (.invokevirtual 20, 3) := by decide +kernel
theorem dX2_hoops_6 : decode cX2_hoops 6 = .ok (.aload_n 0, 1) := by decide +kernel
theorem dX2_hoops_7 : decode cX2_hoops 7 = .ok (.aload_n 1, 1) := by decide +kernel
theorem dX2_hoops_8 : decode cX2_hoops 8 = .ok (.iload_n 2, 1) := by decide +kernel
theorem dX2_hoops_9 : decode cX2_hoops 9 = .ok (.invokespecial 30, 3) := by decide +kernel
theorem dX2_hoops_12 : decode cX2_hoops 12 = .ok (.aload_n 0, 1) := by decide +kernel
theorem dX2_hoops_13 : decode cX2_hoops 13 = .ok (.aload_n 1, 1) := by decide +kernel
theorem dX2_hoops_14 : decode cX2_hoops 14 = .ok (.aload_n 1, 1) := by decide +kernel
theorem dX2_hoops_15 : decode cX2_hoops 15 = .ok (.getfield 33, 3) := by decide +kernel
theorem dX2_hoops_18 : decode cX2_hoops 18 = .ok (.invokevirtual 37, 3) := by decide +kernel
theorem dX2_hoops_21 : decode cX2_hoops 21 = .ok (.isub, 1) := by decide +kernel
theorem dX2_hoops_22 : decode cX2_hoops 22 = .ok (.ireturn, 1) := by decide +kernel
theorem dX3_init_0 : decode cX3_init 0 = .ok (.aload_n 0, 1) := by decide +kernel
theorem dX3_init_1 : decode cX3_init 1 = .ok (.invokespecial 3, 3) := by decide +kernel
theorem dX3_init_4 : decode cX3_init 4 = .ok (.aload_n 0, 1) := by decide +kernel
theorem dX3_init_5 : decode cX3_init 5 = .ok (.bipush 6, 2) := by decide +kernel
theorem dX3_init_7 : decode cX3_init 7 = .ok (.newarray .int, 2) := by decide +kernel
theorem dX3_init_9 : decode cX3_init 9 = .ok (.putfield 9, 3) := by decide +kernel
theorem dX3_init_12 : decode cX3_init 12 = .ok (.aload_n 0, 1) := by decide +kernel
theorem dX3_init_13 : decode cX3_init 13 = .ok (.bipush 6, 2) := by decide +kernel
theorem dX3_init_15 : decode cX3_init 15 = .ok (.newarray .int, 2) := by decide +kernel
theorem dX3_init_17 : decode cX3_init 17 = .ok (.putfield 15, 3) := by decide +kernel
theorem dX3_init_20 : decode cX3_init 20 = .ok (.return_, 1) := by decide +kernel
theorem dX3_take_0 : decode cX3_take 0 = .ok (.iconst 0, 1) := by decide +kernel
theorem dX3_take_1 : decode cX3_take 1 = .ok (.istore_n 2, 1) := by decide +kernel
theorem dX3_take_2 : decode cX3_take 2 = .ok (.iload_n 2, 1) := by decide +kernel
theorem dX3_take_3 : decode cX3_take 3 = .ok (.bipush 6, 2) := by decide +kernel
theorem dX3_take_5 : decode cX3_take 5 = .ok (.if_icmp .ge 33, 3) := by decide +kernel
theorem dX3_take_8 : decode cX3_take 8 = .ok (.aload_n 0, 1) := by decide +kernel
theorem dX3_take_9 : decode cX3_take 9 = .ok (.getfield 9, 3) := by decide +kernel
theorem dX3_take_12 : decode cX3_take 12 = .ok (.iload_n 2, 1) := by decide +kernel
theorem dX3_take_13 : decode cX3_take 13 = .ok (.aload_n 1, 1) := by decide +kernel
theorem dX3_take_14 : decode cX3_take 14 = .ok (.getfield 9, 3) := by decide +kernel
theorem dX3_take_17 : decode cX3_take 17 = .ok (.iload_n 2, 1) := by decide +kernel
theorem dX3_take_18 : decode cX3_take 18 = .ok (.iaload, 1) := by decide +kernel
theorem dX3_take_19 : decode cX3_take 19 = .ok (.iastore, 1) := by decide +kernel
theorem dX3_take_20 : decode cX3_take 20 = .ok (.aload_n 0, 1) := by decide +kernel
theorem dX3_take_21 : decode cX3_take 21 = .ok (.getfield 15, 3) := by decide +kernel
theorem dX3_take_24 : decode cX3_take 24 = .ok (.iload_n 2, 1) := by decide +kernel
theorem dX3_take_25 : decode cX3_take 25 = .ok (.aload_n 1, 1) := by decide +kernel
theorem dX3_take_26 : decode cX3_take 26 = .ok (.getfield 15, 3) := by decide +kernel
theorem dX3_take_29 : decode cX3_take 29 = .ok (.iload_n 2, 1) := by decide +kernel
theorem dX3_take_30 : decode cX3_take 30 = .ok (.iaload, 1) := by decide +kernel
theorem dX3_take_31 : decode cX3_take 31 = .ok (.iastore, 1) := by decide +kernel
theorem dX3_take_32 : decode cX3_take 32 = .ok (.iinc 2 1, 3) := by decide +kernel
theorem dX3_take_35 : decode cX3_take 35 = .ok (.goto (-33), 3) := by decide +kernel
theorem dX3_take_38 : decode cX3_take 38 = .ok (.aload_n 0, 1) := by decide +kernel
theorem dX3_take_39 : decode cX3_take 39 = .ok (.aload_n 1, 1) := by decide +kernel
theorem dX3_take_40 : decode cX3_take 40 = .ok (.getfield 18, 3) := by decide +kernel
theorem dX3_take_43 : decode cX3_take 43 = .ok (.putfield 18, 3) := by decide +kernel
theorem dX3_take_46 : decode cX3_take 46 = .ok (.aload_n 0, 1) := by decide +kernel
theorem dX3_take_47 : decode cX3_take 47 = .ok (.aload_n 1, 1) := by decide +kernel
theorem dX3_take_48 : decode cX3_take 48 = .ok (.getfield 22, 3) := by decide +kernel
theorem dX3_take_51 : decode cX3_take 51 = .ok (.putfield 22, 3) := by decide +kernel
theorem dX3_take_54 : decode cX3_take 54 = .ok (.return_, 1) := by decide +kernel
theorem dX3_isStaked_0 : decode cX3_isStaked 0 = .ok (.aload_n 0, 1) := by decide +kernel
theorem dX3_isStaked_1 : decode cX3_isStaked 1 = .ok (.getfield 18, 3) := by decide +kernel
theorem dX3_isStaked_4 : decode cX3_isStaked 4 = .ok (.iload_n 1, 1) := by decide +kernel
theorem dX3_isStaked_5 : decode cX3_isStaked 5 = .ok (.ishr, 1) := by decide +kernel
theorem dX3_isStaked_6 : decode cX3_isStaked 6 = .ok (.iconst 1, 1) := by decide +kernel
theorem dX3_isStaked_7 : decode cX3_isStaked 7 = .ok (.iand, 1) := by decide +kernel
theorem dX3_isStaked_8 : decode cX3_isStaked 8 = .ok (.iconst 1, 1) := by decide +kernel
theorem dX3_isStaked_9 : decode cX3_isStaked 9 = .ok (.if_icmp .ne 7, 3) := by decide +kernel
theorem dX3_isStaked_12 : decode cX3_isStaked 12 = .ok (.iconst 1, 1) := by decide +kernel
theorem dX3_isStaked_13 : decode cX3_isStaked 13 = .ok (.goto 4, 3) := by decide +kernel
theorem dX3_isStaked_16 : decode cX3_isStaked 16 = .ok (.iconst 0, 1) := by decide +kernel
theorem dX3_isStaked_17 : decode cX3_isStaked 17 = .ok (.ireturn, 1) := by decide +kernel
theorem dX3_putStaked_0 : decode cX3_putStaked 0 = .ok (.aload_n 0, 1) := by decide +kernel
theorem dX3_putStaked_1 : decode cX3_putStaked 1 = .ok (.getfield 18, 3) := by decide +kernel
theorem dX3_putStaked_4 : decode cX3_putStaked 4 = .ok (.iload_n 1, 1) := by decide +kernel
theorem dX3_putStaked_5 : decode cX3_putStaked 5 = .ok (.ishr, 1) := by decide +kernel
theorem dX3_putStaked_6 : decode cX3_putStaked 6 = .ok (.iconst 1, 1) := by decide +kernel
theorem dX3_putStaked_7 : decode cX3_putStaked 7 = .ok (.iand, 1) := by decide +kernel
theorem dX3_putStaked_8 : decode cX3_putStaked 8 = .ok (.istore_n 3, 1) := by decide +kernel
theorem dX3_putStaked_9 : decode cX3_putStaked 9 = .ok (.aload_n 0, 1) := by decide +kernel
theorem dX3_putStaked_10 : decode cX3_putStaked 10 = .ok (.aload_n 0, 1) := by decide +kernel
theorem dX3_putStaked_11 : decode cX3_putStaked 11 = .ok (.getfield 18, 3) := by decide +kernel
theorem dX3_putStaked_14 : decode cX3_putStaked 14 = .ok (.iconst 1, 1) := by decide +kernel
theorem dX3_putStaked_15 : decode cX3_putStaked 15 = .ok (.iload_n 1, 1) := by decide +kernel
theorem dX3_putStaked_16 : decode cX3_putStaked 16 = .ok (.ishl, 1) := by decide +kernel
theorem dX3_putStaked_17 : decode cX3_putStaked 17 = .ok (.iconst (-1), 1) := by decide +kernel
theorem dX3_putStaked_18 : decode cX3_putStaked 18 = .ok (.ixor, 1) := by decide +kernel
theorem dX3_putStaked_19 : decode cX3_putStaked 19 = .ok (.iand, 1) := by decide +kernel
theorem dX3_putStaked_20 : decode cX3_putStaked 20 = .ok (.iload_n 2, 1) := by decide +kernel
theorem dX3_putStaked_21 : decode cX3_putStaked 21 = .ok (.iload_n 1, 1) := by decide +kernel
theorem dX3_putStaked_22 : decode cX3_putStaked 22 = .ok (.ishl, 1) := by decide +kernel
theorem dX3_putStaked_23 : decode cX3_putStaked 23 = .ok (.ior, 1) := by decide +kernel
theorem dX3_putStaked_24 : decode cX3_putStaked 24 = .ok (.putfield 18, 3) := by decide +kernel
theorem dX3_putStaked_27 : decode cX3_putStaked 27 = .ok (.iload_n 3, 1) := by decide +kernel
theorem dX3_putStaked_28 : decode cX3_putStaked 28 = .ok (.ireturn, 1) := by decide +kernel
theorem dX4_init_0 : decode cX4_init 0 = .ok (.aload_n 0, 1) := by decide +kernel
theorem dX4_init_1 : decode cX4_init 1 = .ok (.invokespecial 1, 3) := by decide +kernel
theorem dX4_init_4 : decode cX4_init 4 = .ok (.return_, 1) := by decide +kernel
theorem dX4_leak_0 : decode cX4_leak 0 = .ok (.iload_n 1, 1) := by decide +kernel
theorem dX4_leak_1 : decode cX4_leak 1 = .ok (.iload_n 2, 1) := by decide +kernel
theorem dX4_leak_2 : decode cX4_leak 2 = .ok (.imul, 1) := by decide +kernel
theorem dX4_leak_3 : decode cX4_leak 3 = .ok (.ireturn, 1) := by decide +kernel
theorem dX4_lift_0 : decode cX4_lift 0 = .ok (.aload_n 0, 1) := by decide +kernel
theorem dX4_lift_1 : decode cX4_lift 1 = .ok (.iload_n 1, 1) := by decide +kernel
theorem dX4_lift_2 : decode cX4_lift 2 = .ok (.iload_n 2, 1) := by decide +kernel
theorem dX4_lift_3 : decode cX4_lift 3 = .ok (.iload_n 3, 1) := by decide +kernel
theorem dX4_lift_4 : decode cX4_lift 4 = .ok (.invokespecial 7, 3) := by decide +kernel
theorem dX4_lift_7 : decode cX4_lift 7 = .ok (.iload_n 2, 1) := by decide +kernel
theorem dX4_lift_8 : decode cX4_lift 8 = .ok (.iconst 2, 1) := by decide +kernel
theorem dX4_lift_9 : decode cX4_lift 9 = .ok (.idiv, 1) := by decide +kernel
theorem dX4_lift_10 : decode cX4_lift 10 = .ok (.iadd, 1) := by decide +kernel
theorem dX4_lift_11 : decode cX4_lift 11 = .ok (.ireturn, 1) := by decide +kernel
theorem dX4_hoops_0 : decode cX4_hoops 0 = .ok (.aload_n 1, 1) := by decide +kernel
theorem dX4_hoops_1 : decode cX4_hoops 1 = .ok (.bipush 40, 2) := by decide +kernel
theorem dX4_hoops_3 : decode cX4_hoops 3 = .ok (.invokevirtual 11, 3) := by decide +kernel
theorem dX4_hoops_6 : decode cX4_hoops 6 = .ok (.aload_n 0, 1) := by decide +kernel
theorem dX4_hoops_7 : decode cX4_hoops 7 = .ok (.aload_n 1, 1) := by decide +kernel
theorem dX4_hoops_8 : decode cX4_hoops 8 = .ok (.iload_n 2, 1) := by decide +kernel
theorem dX4_hoops_9 : decode cX4_hoops 9 = .ok (.invokespecial 17, 3) := by decide +kernel
theorem dX4_hoops_12 : decode cX4_hoops 12 = .ok (.iconst 3, 1) := by decide +kernel
theorem dX4_hoops_13 : decode cX4_hoops 13 = .ok (.imul, 1) := by decide +kernel
theorem dX4_hoops_14 : decode cX4_hoops 14 = .ok (.ireturn, 1) := by decide +kernel
theorem dX7_init_0 : decode cX7_init 0 = .ok (.aload_n 0, 1) := by decide +kernel
theorem dX7_init_1 : decode cX7_init 1 = .ok (.invokespecial 3, 3) := by decide +kernel
theorem dX7_init_4 : decode cX7_init 4 = .ok (.aload_n 0, 1) := by decide +kernel
theorem dX7_init_5 : decode cX7_init 5 = .ok (.bipush 30, 2) := by decide +kernel
theorem dX7_init_7 : decode cX7_init 7 = .ok (.newarray .int, 2) := by decide +kernel
theorem dX7_init_9 : decode cX7_init 9 = .ok (.putfield 9, 3) := by decide +kernel
theorem dX7_init_12 : decode cX7_init 12 = .ok (.return_, 1) := by decide +kernel
theorem dX7_clear_0 : decode cX7_clear 0 = .ok (.aload_n 0, 1) := by decide +kernel
theorem dX7_clear_1 : decode cX7_clear 1 = .ok (.iconst 0, 1) := by decide +kernel
theorem dX7_clear_2 : decode cX7_clear 2 = .ok (.putfield 15, 3) := by decide +kernel
theorem dX7_clear_5 : decode cX7_clear 5 = .ok (.aload_n 0, 1) := by decide +kernel
theorem dX7_clear_6 : decode cX7_clear 6 = .ok (.iconst 0, 1) := by decide +kernel
theorem dX7_clear_7 : decode cX7_clear 7 = .ok (.putfield 19, 3) := by decide +kernel
theorem dX7_clear_10 : decode cX7_clear 10 = .ok (.return_, 1) := by decide +kernel
theorem dX7_began_0 : decode cX7_began 0 = .ok (.aload_n 0, 1) := by decide +kernel
theorem dX7_began_1 : decode cX7_began 1 = .ok (.getfield 19, 3) := by decide +kernel
theorem dX7_began_4 : decode cX7_began 4 = .ok (.ifCond .ne 12, 3) := by decide +kernel
theorem dX7_began_7 : decode cX7_began 7 = .ok (.aload_n 0, 1) := by decide +kernel
theorem dX7_began_8 : decode cX7_began 8 = .ok (.getfield 15, 3) := by decide +kernel
theorem dX7_began_11 : decode cX7_began 11 = .ok (.bipush 30, 2) := by decide +kernel
theorem dX7_began_13 : decode cX7_began 13 = .ok (.if_icmp .lt 4, 3) := by decide +kernel
theorem dX7_began_16 : decode cX7_began 16 = .ok (.return_, 1) := by decide +kernel
theorem dX7_began_17 : decode cX7_began 17 = .ok (.aload_n 0, 1) := by decide +kernel
theorem dX7_began_18 : decode cX7_began 18 = .ok (.getfield 9, 3) := by decide +kernel
theorem dX7_began_21 : decode cX7_began 21 = .ok (.aload_n 0, 1) := by decide +kernel
theorem dX7_began_22 : decode cX7_began 22 = .ok (.getfield 15, 3) := by decide +kernel
theorem dX7_began_25 : decode cX7_began 25 = .ok (.iload_n 1, 1) := by decide +kernel
theorem dX7_began_26 : decode cX7_began 26 = .ok (.iastore, 1) := by decide +kernel
theorem dX7_began_27 : decode cX7_began 27 = .ok (.aload_n 0, 1) := by decide +kernel
theorem dX7_began_28 : decode cX7_began 28 = .ok (.dup, 1) := by decide +kernel
theorem dX7_began_29 : decode cX7_began 29 = .ok (.getfield 15, 3) := by decide +kernel
theorem dX7_began_32 : decode cX7_began 32 = .ok (.iconst 1, 1) := by decide +kernel
theorem dX7_began_33 : decode cX7_began 33 = .ok (.iadd, 1) := by decide +kernel
theorem dX7_began_34 : decode cX7_began 34 = .ok (.putfield 15, 3) := by decide +kernel
theorem dX7_began_37 : decode cX7_began 37 = .ok (.return_, 1) := by decide +kernel
theorem dX8_init_0 : decode cX8_init 0 = .ok (.aload_n 0, 1) := by decide +kernel
theorem dX8_init_1 : decode cX8_init 1 = .ok (.invokespecial 1, 3) := by decide +kernel
theorem dX8_init_4 : decode cX8_init 4 = .ok (.return_, 1) := by decide +kernel
theorem dX8_leak_0 : decode cX8_leak 0 = .ok (.iconst 2, 1) := by decide +kernel
theorem dX8_leak_1 : decode cX8_leak 1 = .ok (.aload_n 0, 1) := by decide +kernel
theorem dX8_leak_2 : decode cX8_leak 2 = .ok (.iload_n 1, 1) := by decide +kernel
theorem dX8_leak_3 : decode cX8_leak 3 = .ok (.iload_n 2, 1) := by decide +kernel
theorem dX8_leak_4 : decode cX8_leak 4 = .ok (.iload_n 3, 1) := by decide +kernel
theorem dX8_leak_5 : decode cX8_leak 5 = .ok (.invokespecial 7, 3) := by decide +kernel
theorem dX8_leak_8 : decode cX8_leak 8 = .ok (.imul, 1) := by decide +kernel
theorem dX8_leak_9 : decode cX8_leak 9 = .ok (.ireturn, 1) := by decide +kernel
theorem dX8_lift_0 : decode cX8_lift 0 = .ok (.aload_n 0, 1) := by decide +kernel
theorem dX8_lift_1 : decode cX8_lift 1 = .ok (.iload_n 1, 1) := by decide +kernel
theorem dX8_lift_2 : decode cX8_lift 2 = .ok (.iload_n 2, 1) := by decide +kernel
theorem dX8_lift_3 : decode cX8_lift 3 = .ok (.iload_n 3, 1) := by decide +kernel
theorem dX8_lift_4 : decode cX8_lift 4 = .ok (.invokespecial 11, 3) := by decide +kernel
theorem dX8_lift_7 : decode cX8_lift 7 = .ok (.iconst 2, 1) := by decide +kernel
theorem dX8_lift_8 : decode cX8_lift 8 = .ok (.idiv, 1) := by decide +kernel
theorem dX8_lift_9 : decode cX8_lift 9 = .ok (.ireturn, 1) := by decide +kernel
theorem dX8_seeps_0 : decode cX8_seeps 0 = .ok (.aload_n 1, 1) := by decide +kernel
theorem dX8_seeps_1 : decode cX8_seeps 1 = .ok (.bipush 30, 2) := by decide +kernel
theorem dX8_seeps_3 : decode cX8_seeps 3 = .ok (.invokevirtual 14, 3) := by decide +kernel
theorem dX8_seeps_6 : decode cX8_seeps 6 = .ok (.aload_n 0, 1) := by decide +kernel
theorem dX8_seeps_7 : decode cX8_seeps 7 = .ok (.aload_n 1, 1) := by decide +kernel
theorem dX8_seeps_8 : decode cX8_seeps 8 = .ok (.iload_n 2, 1) := by decide +kernel
theorem dX8_seeps_9 : decode cX8_seeps 9 = .ok (.invokespecial 20, 3) := by decide +kernel
theorem dX8_seeps_12 : decode cX8_seeps 12 = .ok (.bipush 17, 2) := by decide +kernel
theorem dX8_seeps_14 : decode cX8_seeps 14 = .ok (.ixor, 1) := by decide +kernel
theorem dX8_seeps_15 : decode cX8_seeps 15 = .ok (.ireturn, 1) := by decide +kernel
theorem dX9_init_0 : decode cX9_init 0 = .ok (.aload_n 0, 1) := by decide +kernel
theorem dX9_init_1 : decode cX9_init 1 = .ok (.invokespecial 1, 3) := by decide +kernel
theorem dX9_init_4 : decode cX9_init 4 = .ok (.return_, 1) := by decide +kernel
theorem dX9_leak_0 : decode cX9_leak 0 = .ok (.iconst 1, 1) := by decide +kernel
theorem dX9_leak_1 : decode cX9_leak 1 = .ok (.ireturn, 1) := by decide +kernel
theorem dX9_lift_0 : decode cX9_lift 0 = .ok (.iconst 0, 1) := by decide +kernel
theorem dX9_lift_1 : decode cX9_lift 1 = .ok (.ireturn, 1) := by decide +kernel
theorem dX9_rolls_0 : decode cX9_rolls 0 = .ok (.aload_n 1, 1) := by decide +kernel
theorem dX9_rolls_1 : decode cX9_rolls 1 = .ok (.bipush 20, 2) := by decide +kernel
theorem dX9_rolls_3 : decode cX9_rolls 3 = .ok (.invokevirtual 7, 3) := by decide +kernel
theorem dX9_rolls_6 : decode cX9_rolls 6 = .ok (.aload_n 0, 1) := by decide +kernel
theorem dX9_rolls_7 : decode cX9_rolls 7 = .ok (.aload_n 1, 1) := by decide +kernel
theorem dX9_rolls_8 : decode cX9_rolls 8 = .ok (.iload_n 2, 1) := by decide +kernel
theorem dX9_rolls_9 : decode cX9_rolls 9 = .ok (.invokespecial 13, 3) := by decide +kernel
theorem dX9_rolls_12 : decode cX9_rolls 12 = .ok (.bipush 16, 2) := by decide +kernel
theorem dX9_rolls_14 : decode cX9_rolls 14 = .ok (.iadd, 1) := by decide +kernel
theorem dX9_rolls_15 : decode cX9_rolls 15 = .ok (.ireturn, 1) := by decide +kernel
theorem dX5_init_0 : decode cX5_init 0 = .ok (.aload_n 0, 1) := by decide +kernel
theorem dX5_init_1 : decode cX5_init 1 = .ok (.invokespecial 3, 3) := by decide +kernel
theorem dX5_init_4 : decode cX5_init 4 = .ok (.aload_n 0, 1) := by decide +kernel
theorem dX5_init_5 : decode cX5_init 5 = .ok (.iconst 5, 1) := by decide +kernel
theorem dX5_init_6 : decode cX5_init 6 = .ok (.anewarray 9, 3) := by decide +kernel
theorem dX5_init_9 : decode cX5_init 9 = .ok (.dup, 1) := by decide +kernel
theorem dX5_init_10 : decode cX5_init 10 = .ok (.iconst 0, 1) := by decide +kernel
theorem dX5_init_11 : decode cX5_init 11 = .ok (.new 9, 3) := by decide +kernel
theorem dX5_init_14 : decode cX5_init 14 = .ok (.dup, 1) := by decide +kernel
theorem dX5_init_15 : decode cX5_init 15 = .ok (.invokespecial 11, 3) := by decide +kernel
theorem dX5_init_18 : decode cX5_init 18 = .ok (.aastore, 1) := by decide +kernel
theorem dX5_init_19 : decode cX5_init 19 = .ok (.dup, 1) := by decide +kernel
theorem dX5_init_20 : decode cX5_init 20 = .ok (.iconst 1, 1) := by decide +kernel
theorem dX5_init_21 : decode cX5_init 21 = .ok (.new 9, 3) := by decide +kernel
theorem dX5_init_24 : decode cX5_init 24 = .ok (.dup, 1) := by decide +kernel
theorem dX5_init_25 : decode cX5_init 25 = .ok (.invokespecial 11, 3) := by decide +kernel
theorem dX5_init_28 : decode cX5_init 28 = .ok (.aastore, 1) := by decide +kernel
theorem dX5_init_29 : decode cX5_init 29 = .ok (.dup, 1) := by decide +kernel
theorem dX5_init_30 : decode cX5_init 30 = .ok (.iconst 2, 1) := by decide +kernel
theorem dX5_init_31 : decode cX5_init 31 = .ok (.new 9, 3) := by decide +kernel
theorem dX5_init_34 : decode cX5_init 34 = .ok (.dup, 1) := by decide +kernel
theorem dX5_init_35 : decode cX5_init 35 = .ok (.invokespecial 11, 3) := by decide +kernel
theorem dX5_init_38 : decode cX5_init 38 = .ok (.aastore, 1) := by decide +kernel
theorem dX5_init_39 : decode cX5_init 39 = .ok (.dup, 1) := by decide +kernel
theorem dX5_init_40 : decode cX5_init 40 = .ok (.iconst 3, 1) := by decide +kernel
theorem dX5_init_41 : decode cX5_init 41 = .ok (.new 9, 3) := by decide +kernel
theorem dX5_init_44 : decode cX5_init 44 = .ok (.dup, 1) := by decide +kernel
theorem dX5_init_45 : decode cX5_init 45 = .ok (.invokespecial 11, 3) := by decide +kernel
theorem dX5_init_48 : decode cX5_init 48 = .ok (.aastore, 1) := by decide +kernel
theorem dX5_init_49 : decode cX5_init 49 = .ok (.dup, 1) := by decide +kernel
theorem dX5_init_50 : decode cX5_init 50 = .ok (.iconst 4, 1) := by decide +kernel
theorem dX5_init_51 : decode cX5_init 51 = .ok (.new 9, 3) := by decide +kernel
theorem dX5_init_54 : decode cX5_init 54 = .ok (.dup, 1) := by decide +kernel
theorem dX5_init_55 : decode cX5_init 55 = .ok (.invokespecial 11, 3) := by decide +kernel
theorem dX5_init_58 : decode cX5_init 58 = .ok (.aastore, 1) := by decide +kernel
theorem dX5_init_59 : decode cX5_init 59 = .ok (.putfield 12, 3) := by decide +kernel
theorem dX5_init_62 : decode cX5_init 62 = .ok (.aload_n 0, 1) := by decide +kernel
theorem dX5_init_63 : decode cX5_init 63 = .ok (.iconst 4, 1) := by decide +kernel
theorem dX5_init_64 : decode cX5_init 64 = .ok (.newarray .int, 2) := by decide +kernel
theorem dX5_init_66 : decode cX5_init 66 = .ok (.putfield 18, 3) := by decide +kernel
theorem dX5_init_69 : decode cX5_init 69 = .ok (.aload_n 0, 1) := by decide +kernel
theorem dX5_init_70 : decode cX5_init 70 = .ok (.iconst 4, 1) := by decide +kernel
theorem dX5_init_71 : decode cX5_init 71 = .ok (.newarray .int, 2) := by decide +kernel
theorem dX5_init_73 : decode cX5_init 73 = .ok (.putfield 22, 3) := by decide +kernel
theorem dX5_init_76 : decode cX5_init 76 = .ok (.aload_n 0, 1) := by decide +kernel
theorem dX5_init_77 : decode cX5_init 77 = .ok (.aload_n 1, 1) := by decide +kernel
theorem dX5_init_78 : decode cX5_init 78 = .ok (.putfield 25, 3) := by decide +kernel
theorem dX5_init_81 : decode cX5_init 81 = .ok (.return_, 1) := by decide +kernel
theorem dX5_lengthOf_0 : decode cX5_lengthOf 0 = .ok (.iconst 0, 1) := by decide +kernel
theorem dX5_lengthOf_1 : decode cX5_lengthOf 1 = .ok (.iload_n 1, 1) := by decide +kernel
theorem dX5_lengthOf_2 : decode cX5_lengthOf 2 = .ok (.aload_n 0, 1) := by decide +kernel
theorem dX5_lengthOf_3 : decode cX5_lengthOf 3 = .ok (.getfield 25, 3) := by decide +kernel
theorem dX5_lengthOf_6 : decode cX5_lengthOf 6 = .ok (.getfield 29, 3) := by decide +kernel
theorem dX5_lengthOf_9 : decode cX5_lengthOf 9 = .ok (.aload_n 0, 1) := by decide +kernel
theorem dX5_lengthOf_10 : decode cX5_lengthOf 10 = .ok (.getfield 25, 3) := by decide +kernel
theorem dX5_lengthOf_13 : decode cX5_lengthOf 13 = .ok (.getfield 35, 3) := by decide +kernel
theorem dX5_lengthOf_16 : decode cX5_lengthOf 16 = .ok (.getfield 39, 3) := by decide +kernel
theorem dX5_lengthOf_19 : decode cX5_lengthOf 19 = .ok (.isub, 1) := by decide +kernel
theorem dX5_lengthOf_20 : decode cX5_lengthOf 20 = .ok (.invokestatic 42, 3) := by decide +kernel
theorem dX5_lengthOf_23 : decode cX5_lengthOf 23 = .ok (.invokestatic 48, 3) := by decide +kernel
theorem dX5_lengthOf_26 : decode cX5_lengthOf 26 = .ok (.ireturn, 1) := by decide +kernel
theorem dX5_begin_0 : decode cX5_begin 0 = .ok (.aload_n 0, 1) := by decide +kernel
theorem dX5_begin_1 : decode cX5_begin 1 = .ok (.iconst 4, 1) := by decide +kernel
theorem dX5_begin_2 : decode cX5_begin 2 = .ok (.aload_n 0, 1) := by decide +kernel
theorem dX5_begin_3 : decode cX5_begin 3 = .ok (.iload_n 1, 1) := by decide +kernel
theorem dX5_begin_4 : decode cX5_begin 4 = .ok (.invokevirtual 51, 3) := by decide +kernel
theorem dX5_begin_7 : decode cX5_begin 7 = .ok (.invokestatic 42, 3) := by decide +kernel
theorem dX5_begin_10 : decode cX5_begin 10 = .ok (.putfield 55, 3) := by decide +kernel
theorem dX5_begin_13 : decode cX5_begin 13 = .ok (.aload_n 0, 1) := by decide +kernel
theorem dX5_begin_14 : decode cX5_begin 14 = .ok (.getfield 12, 3) := by decide +kernel
theorem dX5_begin_17 : decode cX5_begin 17 = .ok (.iconst 0, 1) := by decide +kernel
theorem dX5_begin_18 : decode cX5_begin 18 = .ok (.aaload, 1) := by decide +kernel
theorem dX5_begin_19 : decode cX5_begin 19 = .ok (.aload_n 0, 1) := by decide +kernel
theorem dX5_begin_20 : decode cX5_begin 20 = .ok (.getfield 25, 3) := by decide +kernel
theorem dX5_begin_23 : decode cX5_begin 23 = .ok (.getfield 35, 3) := by decide +kernel
theorem dX5_begin_26 : decode cX5_begin 26 = .ok (.invokevirtual 58, 3) := by decide +kernel
theorem dX5_begin_29 : decode cX5_begin 29 = .ok (.return_, 1) := by decide +kernel
theorem dX5_lookAhead_0 : decode cX5_lookAhead 0 = .ok (.aload_n 0, 1) := by decide +kernel
theorem dX5_lookAhead_1 : decode cX5_lookAhead 1 = .ok (.iload_n 1, 1) := by decide +kernel
theorem dX5_lookAhead_2 : decode cX5_lookAhead 2 = .ok (.invokevirtual 62, 3) := by decide +kernel
theorem dX5_lookAhead_5 : decode cX5_lookAhead 5 = .ok (.aload_n 0, 1) := by decide +kernel
theorem dX5_lookAhead_6 : decode cX5_lookAhead 6 = .ok (.iload_n 2, 1) := by decide +kernel
theorem dX5_lookAhead_7 : decode cX5_lookAhead 7 = .ok (.putfield 66, 3) := by decide +kernel
theorem dX5_lookAhead_10 : decode cX5_lookAhead 10 = .ok (.aload_n 0, 1) := by decide +kernel
theorem dX5_lookAhead_11 : decode cX5_lookAhead 11 = .ok (.iconst 0, 1) := by decide +kernel
theorem dX5_lookAhead_12 : decode cX5_lookAhead 12 = .ok (.putfield 69, 3) := by decide +kernel
theorem dX5_lookAhead_15 : decode cX5_lookAhead 15 = .ok (.aload_n 0, 1) := by decide +kernel
theorem dX5_lookAhead_16 : decode cX5_lookAhead 16 = .ok (.bipush (-3), 2) := by decide +kernel
theorem dX5_lookAhead_18 : decode cX5_lookAhead 18 = .ok (.putfield 72, 3) := by decide +kernel
theorem dX5_lookAhead_21 : decode cX5_lookAhead 21 = .ok (.aload_n 0, 1) := by decide +kernel
theorem dX5_lookAhead_22 : decode cX5_lookAhead 22 = .ok (.iconst 0, 1) := by decide +kernel
theorem dX5_lookAhead_23 : decode cX5_lookAhead 23 = .ok (.putfield 75, 3) := by decide +kernel
theorem dX5_lookAhead_26 : decode cX5_lookAhead 26 = .ok (.aload_n 0, 1) := by decide +kernel
theorem dX5_lookAhead_27 : decode cX5_lookAhead 27 = .ok (.iconst 0, 1) := by decide +kernel
theorem dX5_lookAhead_28 : decode cX5_lookAhead 28 = .ok (.iconst 0, 1) := by decide +kernel
theorem dX5_lookAhead_29 : decode cX5_lookAhead 29 = .ok (.iconst 0, 1) := by decide +kernel
theorem dX5_lookAhead_30 : decode cX5_lookAhead 30 = .ok (.invokevirtual 78, 3) := by decide +kernel
theorem dX5_lookAhead_33 : decode cX5_lookAhead 33 = .ok (.return_, 1) := by decide +kernel
theorem dX5_tryAll_0 : decode cX5_tryAll 0 = .ok (.iload_n 1, 1) := by decide +kernel
theorem dX5_tryAll_1 : decode cX5_tryAll 1 = .ok (.aload_n 0, 1) := by decide +kernel
theorem dX5_tryAll_2 : decode cX5_tryAll 2 = .ok (.getfield 55, 3) := by decide +kernel
theorem dX5_tryAll_5 : decode cX5_tryAll 5 = .ok (.if_icmp .lt 22, 3) := by decide +kernel
theorem dX5_tryAll_8 : decode cX5_tryAll 8 = .ok (.aload_n 0, 1) := by decide +kernel
theorem dX5_tryAll_9 : decode cX5_tryAll 9 = .ok (.iload_n 2, 1) := by decide +kernel
theorem dX5_tryAll_10 : decode cX5_tryAll 10 = .ok (.iload_n 3, 1) := by decide +kernel
theorem dX5_tryAll_11 : decode cX5_tryAll 11 = .ok (.aload_n 0, 1) := by decide +kernel
theorem dX5_tryAll_12 : decode cX5_tryAll 12 = .ok (.getfield 12, 3) := by decide +kernel
theorem dX5_tryAll_15 : decode cX5_tryAll 15 = .ok (.aload_n 0, 1) := by decide +kernel
theorem dX5_tryAll_16 : decode cX5_tryAll 16 = .ok (.getfield 55, 3) := by decide +kernel
theorem dX5_tryAll_19 : decode cX5_tryAll 19 = .ok (.aaload, 1) := by decide +kernel
theorem dX5_tryAll_20 : decode cX5_tryAll 20 = .ok (.getfield 82, 3) := by decide +kernel
theorem dX5_tryAll_23 : decode cX5_tryAll 23 = .ok (.invokevirtual 85, 3) := by decide +kernel
theorem dX5_tryAll_26 : decode cX5_tryAll 26 = .ok (.return_, 1) := by decide +kernel
theorem dX5_tryAll_27 : decode cX5_tryAll 27 = .ok (.aload_n 0, 1) := by decide +kernel
theorem dX5_tryAll_28 : decode cX5_tryAll 28 = .ok (.getfield 12, 3) := by decide +kernel
theorem dX5_tryAll_31 : decode cX5_tryAll 31 = .ok (.iload_n 1, 1) := by decide +kernel
theorem dX5_tryAll_32 : decode cX5_tryAll 32 = .ok (.iconst 1, 1) := by decide +kernel
theorem dX5_tryAll_33 : decode cX5_tryAll 33 = .ok (.iadd, 1) := by decide +kernel
theorem dX5_tryAll_34 : decode cX5_tryAll 34 = .ok (.aaload, 1) := by decide +kernel
theorem dX5_tryAll_35 : decode cX5_tryAll 35 = .ok (.astore 4, 2) := by decide +kernel
theorem dX5_tryAll_37 : decode cX5_tryAll 37 = .ok (.iconst 0, 1) := by decide +kernel
theorem dX5_tryAll_38 : decode cX5_tryAll 38 = .ok (.istore 5, 2) := by decide +kernel
theorem dX5_tryAll_40 : decode cX5_tryAll 40 = .ok (.iload 5, 2) := by decide +kernel
theorem dX5_tryAll_42 : decode cX5_tryAll 42 = .ok (.aload_n 0, 1) := by decide +kernel
theorem dX5_tryAll_43 : decode cX5_tryAll 43 = .ok (.getfield 25, 3) := by decide +kernel
theorem dX5_tryAll_46 : decode cX5_tryAll 46 = .ok (.getfield 88, 3) := by decide +kernel
theorem dX5_tryAll_49 : decode cX5_tryAll 49 = .ok (.if_icmp .gt 64, 3) := by decide +kernel
theorem dX5_tryAll_52 : decode cX5_tryAll 52 = .ok (.aload_n 0, 1) := by decide +kernel
theorem dX5_tryAll_53 : decode cX5_tryAll 53 = .ok (.getfield 18, 3) := by decide +kernel
theorem dX5_tryAll_56 : decode cX5_tryAll 56 = .ok (.iload_n 1, 1) := by decide +kernel
theorem dX5_tryAll_57 : decode cX5_tryAll 57 = .ok (.iload 5, 2) := by decide +kernel
theorem dX5_tryAll_59 : decode cX5_tryAll 59 = .ok (.iastore, 1) := by decide +kernel
theorem dX5_tryAll_60 : decode cX5_tryAll 60 = .ok (.aload 4, 2) := by decide +kernel
theorem dX5_tryAll_62 : decode cX5_tryAll 62 = .ok (.aload_n 0, 1) := by decide +kernel
theorem dX5_tryAll_63 : decode cX5_tryAll 63 = .ok (.getfield 12, 3) := by decide +kernel
theorem dX5_tryAll_66 : decode cX5_tryAll 66 = .ok (.iload_n 1, 1) := by decide +kernel
theorem dX5_tryAll_67 : decode cX5_tryAll 67 = .ok (.aaload, 1) := by decide +kernel
theorem dX5_tryAll_68 : decode cX5_tryAll 68 = .ok (.invokevirtual 58, 3) := by decide +kernel
theorem dX5_tryAll_71 : decode cX5_tryAll 71 = .ok (.aload_n 0, 1) := by decide +kernel
theorem dX5_tryAll_72 : decode cX5_tryAll 72 = .ok (.getfield 25, 3) := by decide +kernel
theorem dX5_tryAll_75 : decode cX5_tryAll 75 = .ok (.aload 4, 2) := by decide +kernel
theorem dX5_tryAll_77 : decode cX5_tryAll 77 = .ok (.iload 5, 2) := by decide +kernel
theorem dX5_tryAll_79 : decode cX5_tryAll 79 = .ok (.invokevirtual 91, 3) := by decide +kernel
theorem dX5_tryAll_82 : decode cX5_tryAll 82 = .ok (.istore 6, 2) := by decide +kernel
theorem dX5_tryAll_84 : decode cX5_tryAll 84 = .ok (.aload_n 0, 1) := by decide +kernel
theorem dX5_tryAll_85 : decode cX5_tryAll 85 = .ok (.iload_n 1, 1) := by decide +kernel
theorem dX5_tryAll_86 : decode cX5_tryAll 86 = .ok (.iconst 1, 1) := by decide +kernel
theorem dX5_tryAll_87 : decode cX5_tryAll 87 = .ok (.iadd, 1) := by decide +kernel
theorem dX5_tryAll_88 : decode cX5_tryAll 88 = .ok (.iload_n 2, 1) := by decide +kernel
theorem dX5_tryAll_89 : decode cX5_tryAll 89 = .ok (.iload 6, 2) := by decide +kernel
theorem dX5_tryAll_91 : decode cX5_tryAll 91 = .ok (.iadd, 1) := by decide +kernel
theorem dX5_tryAll_92 : decode cX5_tryAll 92 = .ok (.iload 5, 2) := by decide +kernel
theorem dX5_tryAll_94 : decode cX5_tryAll 94 = .ok (.ifCond .ne 7, 3) := by decide +kernel
theorem dX5_tryAll_97 : decode cX5_tryAll 97 = .ok (.iload_n 3, 1) := by decide +kernel
theorem dX5_tryAll_98 : decode cX5_tryAll 98 = .ok (.goto 6, 3) := by decide +kernel
theorem dX5_tryAll_101 : decode cX5_tryAll 101 = .ok (.iload_n 3, 1) := by decide +kernel
theorem dX5_tryAll_102 : decode cX5_tryAll 102 = .ok (.iconst 1, 1) := by decide +kernel
theorem dX5_tryAll_103 : decode cX5_tryAll 103 = .ok (.iadd, 1) := by decide +kernel
theorem dX5_tryAll_104 : decode cX5_tryAll 104 = .ok (.invokevirtual 78, 3) := by decide +kernel
theorem dX5_tryAll_107 : decode cX5_tryAll 107 = .ok (.iinc 5 1, 3) := by decide +kernel
theorem dX5_tryAll_110 : decode cX5_tryAll 110 = .ok (.goto (-70), 3) := by decide +kernel
theorem dX5_tryAll_113 : decode cX5_tryAll 113 = .ok (.return_, 1) := by decide +kernel
theorem dX5_weigh_0 : decode cX5_weigh 0 = .ok (.aload_n 0, 1) := by decide +kernel
theorem dX5_weigh_1 : decode cX5_weigh 1 = .ok (.getfield 69, 3) := by decide +kernel
theorem dX5_weigh_4 : decode cX5_weigh 4 = .ok (.ifCond .eq 11, 3) := by decide +kernel
theorem dX5_weigh_7 : decode cX5_weigh 7 = .ok (.iload_n 1, 1) := by decide +kernel
theorem dX5_weigh_8 : decode cX5_weigh 8 = .ok (.aload_n 0, 1) := by decide +kernel
theorem dX5_weigh_9 : decode cX5_weigh 9 = .ok (.getfield 95, 3) := by decide +kernel
theorem dX5_weigh_12 : decode cX5_weigh 12 = .ok (.if_icmp .le 45, 3) := by decide +kernel
theorem dX5_weigh_15 : decode cX5_weigh 15 = .ok (.aload_n 0, 1) := by decide +kernel
theorem dX5_weigh_16 : decode cX5_weigh 16 = .ok (.iload_n 1, 1) := by decide +kernel
theorem dX5_weigh_17 : decode cX5_weigh 17 = .ok (.putfield 95, 3) := by decide +kernel
theorem dX5_weigh_20 : decode cX5_weigh 20 = .ok (.aload_n 0, 1) := by decide +kernel
theorem dX5_weigh_21 : decode cX5_weigh 21 = .ok (.iconst 0, 1) := by decide +kernel
theorem dX5_weigh_22 : decode cX5_weigh 22 = .ok (.putfield 69, 3) := by decide +kernel
theorem dX5_weigh_25 : decode cX5_weigh 25 = .ok (.iconst 0, 1) := by decide +kernel
theorem dX5_weigh_26 : decode cX5_weigh 26 = .ok (.istore 4, 2) := by decide +kernel
theorem dX5_weigh_28 : decode cX5_weigh 28 = .ok (.iload 4, 2) := by decide +kernel
theorem dX5_weigh_30 : decode cX5_weigh 30 = .ok (.aload_n 0, 1) := by decide +kernel
theorem dX5_weigh_31 : decode cX5_weigh 31 = .ok (.getfield 55, 3) := by decide +kernel
theorem dX5_weigh_34 : decode cX5_weigh 34 = .ok (.if_icmp .ge 23, 3) := by decide +kernel
theorem dX5_weigh_37 : decode cX5_weigh 37 = .ok (.aload_n 0, 1) := by decide +kernel
theorem dX5_weigh_38 : decode cX5_weigh 38 = .ok (.getfield 22, 3) := by decide +kernel
theorem dX5_weigh_41 : decode cX5_weigh 41 = .ok (.iload 4, 2) := by decide +kernel
theorem dX5_weigh_43 : decode cX5_weigh 43 = .ok (.aload_n 0, 1) := by decide +kernel
theorem dX5_weigh_44 : decode cX5_weigh 44 = .ok (.getfield 18, 3) := by decide +kernel
theorem dX5_weigh_47 : decode cX5_weigh 47 = .ok (.iload 4, 2) := by decide +kernel
theorem dX5_weigh_49 : decode cX5_weigh 49 = .ok (.iaload, 1) := by decide +kernel
theorem dX5_weigh_50 : decode cX5_weigh 50 = .ok (.iastore, 1) := by decide +kernel
theorem dX5_weigh_51 : decode cX5_weigh 51 = .ok (.iinc 4 1, 3) := by decide +kernel
theorem dX5_weigh_54 : decode cX5_weigh 54 = .ok (.goto (-26), 3) := by decide +kernel
theorem dX5_weigh_57 : decode cX5_weigh 57 = .ok (.iload_n 1, 1) := by decide +kernel
theorem dX5_weigh_58 : decode cX5_weigh 58 = .ok (.aload_n 0, 1) := by decide +kernel
theorem dX5_weigh_59 : decode cX5_weigh 59 = .ok (.getfield 95, 3) := by decide +kernel
theorem dX5_weigh_62 : decode cX5_weigh 62 = .ok (.if_icmp .ne 13, 3) := by decide +kernel
theorem dX5_weigh_65 : decode cX5_weigh 65 = .ok (.aload_n 0, 1) := by decide +kernel
theorem dX5_weigh_66 : decode cX5_weigh 66 = .ok (.dup, 1) := by decide +kernel
theorem dX5_weigh_67 : decode cX5_weigh 67 = .ok (.getfield 69, 3) := by decide +kernel
theorem dX5_weigh_70 : decode cX5_weigh 70 = .ok (.iconst 1, 1) := by decide +kernel
theorem dX5_weigh_71 : decode cX5_weigh 71 = .ok (.iadd, 1) := by decide +kernel
theorem dX5_weigh_72 : decode cX5_weigh 72 = .ok (.putfield 69, 3) := by decide +kernel
theorem dX5_weigh_75 : decode cX5_weigh 75 = .ok (.aload_n 0, 1) := by decide +kernel
theorem dX5_weigh_76 : decode cX5_weigh 76 = .ok (.dup, 1) := by decide +kernel
theorem dX5_weigh_77 : decode cX5_weigh 77 = .ok (.getfield 75, 3) := by decide +kernel
theorem dX5_weigh_80 : decode cX5_weigh 80 = .ok (.iload_n 3, 1) := by decide +kernel
theorem dX5_weigh_81 : decode cX5_weigh 81 = .ok (.ior, 1) := by decide +kernel
theorem dX5_weigh_82 : decode cX5_weigh 82 = .ok (.putfield 75, 3) := by decide +kernel
theorem dX5_weigh_85 : decode cX5_weigh 85 = .ok (.aload_n 0, 1) := by decide +kernel
theorem dX5_weigh_86 : decode cX5_weigh 86 = .ok (.getfield 66, 3) := by decide +kernel
theorem dX5_weigh_89 : decode cX5_weigh 89 = .ok (.iload_n 3, 1) := by decide +kernel
theorem dX5_weigh_90 : decode cX5_weigh 90 = .ok (.iconst (-1), 1) := by decide +kernel
theorem dX5_weigh_91 : decode cX5_weigh 91 = .ok (.ixor, 1) := by decide +kernel
theorem dX5_weigh_92 : decode cX5_weigh 92 = .ok (.iand, 1) := by decide +kernel
theorem dX5_weigh_93 : decode cX5_weigh 93 = .ok (.ifCond .ne 23, 3) := by decide +kernel
theorem dX5_weigh_96 : decode cX5_weigh 96 = .ok (.aload_n 0, 1) := by decide +kernel
theorem dX5_weigh_97 : decode cX5_weigh 97 = .ok (.getfield 72, 3) := by decide +kernel
theorem dX5_weigh_100 : decode cX5_weigh 100 = .ok (.ifCond .lt 11, 3) := by decide +kernel
theorem dX5_weigh_103 : decode cX5_weigh 103 = .ok (.iload_n 2, 1) := by decide +kernel
theorem dX5_weigh_104 : decode cX5_weigh 104 = .ok (.aload_n 0, 1) := by decide +kernel
theorem dX5_weigh_105 : decode cX5_weigh 105 = .ok (.getfield 72, 3) := by decide +kernel
theorem dX5_weigh_108 : decode cX5_weigh 108 = .ok (.if_icmp .ge 8, 3) := by decide +kernel
theorem dX5_weigh_111 : decode cX5_weigh 111 = .ok (.aload_n 0, 1) := by decide +kernel
theorem dX5_weigh_112 : decode cX5_weigh 112 = .ok (.iload_n 2, 1) := by decide +kernel
theorem dX5_weigh_113 : decode cX5_weigh 113 = .ok (.putfield 72, 3) := by decide +kernel
theorem dX5_weigh_116 : decode cX5_weigh 116 = .ok (.return_, 1) := by decide +kernel
theorem dX5_gameOf_0 : decode cX5_gameOf 0 = .ok (.aload_n 0, 1) := by decide +kernel
theorem dX5_gameOf_1 : decode cX5_gameOf 1 = .ok (.iload_n 1, 1) := by decide +kernel
theorem dX5_gameOf_2 : decode cX5_gameOf 2 = .ok (.invokevirtual 62, 3) := by decide +kernel
theorem dX5_gameOf_5 : decode cX5_gameOf 5 = .ok (.aload_n 0, 1) := by decide +kernel
theorem dX5_gameOf_6 : decode cX5_gameOf 6 = .ok (.iconst 0, 1) := by decide +kernel
theorem dX5_gameOf_7 : decode cX5_gameOf 7 = .ok (.putfield 98, 3) := by decide +kernel
theorem dX5_gameOf_10 : decode cX5_gameOf 10 = .ok (.aload_n 0, 1) := by decide +kernel
theorem dX5_gameOf_11 : decode cX5_gameOf 11 = .ok (.iconst 0, 1) := by decide +kernel
theorem dX5_gameOf_12 : decode cX5_gameOf 12 = .ok (.invokevirtual 101, 3) := by decide +kernel
theorem dX5_gameOf_15 : decode cX5_gameOf 15 = .ok (.ireturn, 1) := by decide +kernel
theorem dX5_valueFrom_0 : decode cX5_valueFrom 0 = .ok (.iload_n 1, 1) := by decide +kernel
theorem dX5_valueFrom_1 : decode cX5_valueFrom 1 = .ok (.aload_n 0, 1) := by decide +kernel
theorem dX5_valueFrom_2 : decode cX5_valueFrom 2 = .ok (.getfield 55, 3) := by decide +kernel
theorem dX5_valueFrom_5 : decode cX5_valueFrom 5 = .ok (.if_icmp .lt 5, 3) := by decide +kernel
theorem dX5_valueFrom_8 : decode cX5_valueFrom 8 = .ok (.iconst 0, 1) := by decide +kernel
theorem dX5_valueFrom_9 : decode cX5_valueFrom 9 = .ok (.ireturn, 1) := by decide +kernel
theorem dX5_valueFrom_10 : decode cX5_valueFrom 10 = .ok (.aload_n 0, 1) := by decide +kernel
theorem dX5_valueFrom_11 : decode cX5_valueFrom 11 = .ok (.getfield 12, 3) := by decide +kernel
theorem dX5_valueFrom_14 : decode cX5_valueFrom 14 = .ok (.iload_n 1, 1) := by decide +kernel
theorem dX5_valueFrom_15 : decode cX5_valueFrom 15 = .ok (.iconst 1, 1) := by decide +kernel
theorem dX5_valueFrom_16 : decode cX5_valueFrom 16 = .ok (.iadd, 1) := by decide +kernel
theorem dX5_valueFrom_17 : decode cX5_valueFrom 17 = .ok (.aaload, 1) := by decide +kernel
theorem dX5_valueFrom_18 : decode cX5_valueFrom 18 = .ok (.astore_n 2, 1) := by decide +kernel
theorem dX5_valueFrom_19 : decode cX5_valueFrom 19 = .ok (.iconst 0, 1) := by decide +kernel
theorem dX5_valueFrom_20 : decode cX5_valueFrom 20 = .ok (.istore_n 3, 1) := by decide +kernel
theorem dX5_valueFrom_21 : decode cX5_valueFrom 21 = .ok (.iconst 0, 1) := by decide +kernel
theorem dX5_valueFrom_22 : decode cX5_valueFrom 22 = .ok (.istore 4, 2) := by decide +kernel
theorem dX5_valueFrom_24 : decode cX5_valueFrom 24 = .ok (.iconst 0, 1) := by decide +kernel
theorem dX5_valueFrom_25 : decode cX5_valueFrom 25 = .ok (.istore 5, 2) := by decide +kernel
theorem dX5_valueFrom_27 : decode cX5_valueFrom 27 = .ok (.iload 5, 2) := by decide +kernel
theorem dX5_valueFrom_29 : decode cX5_valueFrom 29 = .ok (.aload_n 0, 1) := by decide +kernel
theorem dX5_valueFrom_30 : decode cX5_valueFrom 30 = .ok (.getfield 25, 3) := by decide +kernel
theorem dX5_valueFrom_33 : decode cX5_valueFrom 33 = .ok (.getfield 88, 3) := by decide +kernel
theorem dX5_valueFrom_36 : decode cX5_valueFrom 36 = .ok (.if_icmp .gt 93, 3) := by decide +kernel
theorem dX5_valueFrom_39 : decode cX5_valueFrom 39 = .ok (.aload_n 2, 1) := by decide +kernel
theorem dX5_valueFrom_40 : decode cX5_valueFrom 40 = .ok (.aload_n 0, 1) := by decide +kernel
theorem dX5_valueFrom_41 : decode cX5_valueFrom 41 = .ok (.getfield 12, 3) := by decide +kernel
theorem dX5_valueFrom_44 : decode cX5_valueFrom 44 = .ok (.iload_n 1, 1) := by decide +kernel
theorem dX5_valueFrom_45 : decode cX5_valueFrom 45 = .ok (.aaload, 1) := by decide +kernel
theorem dX5_valueFrom_46 : decode cX5_valueFrom 46 = .ok (.invokevirtual 58, 3) := by decide +kernel
theorem dX5_valueFrom_49 : decode cX5_valueFrom 49 = .ok (.aload_n 0, 1) := by decide +kernel
theorem dX5_valueFrom_50 : decode cX5_valueFrom 50 = .ok (.getfield 25, 3) := by decide +kernel
theorem dX5_valueFrom_53 : decode cX5_valueFrom 53 = .ok (.aload_n 2, 1) := by decide +kernel
theorem dX5_valueFrom_54 : decode cX5_valueFrom 54 = .ok (.iload 5, 2) := by decide +kernel
theorem dX5_valueFrom_56 : decode cX5_valueFrom 56 = .ok (.invokevirtual 91, 3) := by decide +kernel
theorem dX5_valueFrom_59 : decode cX5_valueFrom 59 = .ok (.istore 6, 2) := by decide +kernel
theorem dX5_valueFrom_61 : decode cX5_valueFrom 61 = .ok (.iload 6, 2) := by decide +kernel
theorem dX5_valueFrom_63 : decode cX5_valueFrom 63 = .ok (.aload_n 0, 1) := by decide +kernel
theorem dX5_valueFrom_64 : decode cX5_valueFrom 64 = .ok (.iload_n 1, 1) := by decide +kernel
theorem dX5_valueFrom_65 : decode cX5_valueFrom 65 = .ok (.iconst 1, 1) := by decide +kernel
theorem dX5_valueFrom_66 : decode cX5_valueFrom 66 = .ok (.iadd, 1) := by decide +kernel
theorem dX5_valueFrom_67 : decode cX5_valueFrom 67 = .ok (.invokevirtual 101, 3) := by decide +kernel
theorem dX5_valueFrom_70 : decode cX5_valueFrom 70 = .ok (.iadd, 1) := by decide +kernel
theorem dX5_valueFrom_71 : decode cX5_valueFrom 71 = .ok (.istore 6, 2) := by decide +kernel
theorem dX5_valueFrom_73 : decode cX5_valueFrom 73 = .ok (.iload_n 1, 1) := by decide +kernel
theorem dX5_valueFrom_74 : decode cX5_valueFrom 74 = .ok (.iconst 2, 1) := by decide +kernel
theorem dX5_valueFrom_75 : decode cX5_valueFrom 75 = .ok (.irem, 1) := by decide +kernel
theorem dX5_valueFrom_76 : decode cX5_valueFrom 76 = .ok (.ifCond .ne 17, 3) := by decide +kernel
theorem dX5_valueFrom_79 : decode cX5_valueFrom 79 = .ok (.iload 6, 2) := by decide +kernel
theorem dX5_valueFrom_81 : decode cX5_valueFrom 81 = .ok (.iload_n 3, 1) := by decide +kernel
theorem dX5_valueFrom_82 : decode cX5_valueFrom 82 = .ok (.if_icmp .le 7, 3) := by decide +kernel
theorem dX5_valueFrom_85 : decode cX5_valueFrom 85 = .ok (.iconst 1, 1) := by decide +kernel
theorem dX5_valueFrom_86 : decode cX5_valueFrom 86 = .ok (.goto 18, 3) := by decide +kernel
theorem dX5_valueFrom_89 : decode cX5_valueFrom 89 = .ok (.iconst 0, 1) := by decide +kernel
theorem dX5_valueFrom_90 : decode cX5_valueFrom 90 = .ok (.goto 14, 3) := by decide +kernel
theorem dX5_valueFrom_93 : decode cX5_valueFrom 93 = .ok (.iload 6, 2) := by decide +kernel
theorem dX5_valueFrom_95 : decode cX5_valueFrom 95 = .ok (.iload_n 3, 1) := by decide +kernel
theorem dX5_valueFrom_96 : decode cX5_valueFrom 96 = .ok (.if_icmp .ge 7, 3) := by decide +kernel
theorem dX5_valueFrom_99 : decode cX5_valueFrom 99 = .ok (.iconst 1, 1) := by decide +kernel
theorem dX5_valueFrom_100 : decode cX5_valueFrom 100 = .ok (.goto 4, 3) := by decide +kernel
theorem dX5_valueFrom_103 : decode cX5_valueFrom 103 = .ok (.iconst 0, 1) := by decide +kernel
theorem dX5_valueFrom_104 : decode cX5_valueFrom 104 = .ok (.istore 7, 2) := by decide +kernel
theorem dX5_valueFrom_106 : decode cX5_valueFrom 106 = .ok (.iload 5, 2) := by decide +kernel
theorem dX5_valueFrom_108 : decode cX5_valueFrom 108 = .ok (.ifCond .eq 8, 3) := by decide +kernel
theorem dX5_valueFrom_111 : decode cX5_valueFrom 111 = .ok (.iload 7, 2) := by decide +kernel
theorem dX5_valueFrom_113 : decode cX5_valueFrom 113 = .ok (.ifCond .eq 10, 3) := by decide +kernel
theorem dX5_valueFrom_116 : decode cX5_valueFrom 116 = .ok (.iload 6, 2) := by decide +kernel
theorem dX5_valueFrom_118 : decode cX5_valueFrom 118 = .ok (.istore_n 3, 1) := by decide +kernel
theorem dX5_valueFrom_119 : decode cX5_valueFrom 119 = .ok (.iload 5, 2) := by decide +kernel
theorem dX5_valueFrom_121 : decode cX5_valueFrom 121 = .ok (.istore 4, 2) := by decide +kernel
theorem dX5_valueFrom_123 : decode cX5_valueFrom 123 = .ok (.iinc 5 1, 3) := by decide +kernel
theorem dX5_valueFrom_126 : decode cX5_valueFrom 126 = .ok (.goto (-99), 3) := by decide +kernel
theorem dX5_valueFrom_129 : decode cX5_valueFrom 129 = .ok (.iload_n 1, 1) := by decide +kernel
theorem dX5_valueFrom_130 : decode cX5_valueFrom 130 = .ok (.ifCond .ne 9, 3) := by decide +kernel
theorem dX5_valueFrom_133 : decode cX5_valueFrom 133 = .ok (.aload_n 0, 1) := by decide +kernel
theorem dX5_valueFrom_134 : decode cX5_valueFrom 134 = .ok (.iload 4, 2) := by decide +kernel
theorem dX5_valueFrom_136 : decode cX5_valueFrom 136 = .ok (.putfield 98, 3) := by decide +kernel
theorem dX5_valueFrom_139 : decode cX5_valueFrom 139 = .ok (.iload_n 3, 1) := by decide +kernel
theorem dX5_valueFrom_140 : decode cX5_valueFrom 140 = .ok (.ireturn, 1) := by decide +kernel
theorem dX6_init_0 : decode cX6_init 0 = .ok (.aload_n 0, 1) := by decide +kernel
theorem dX6_init_1 : decode cX6_init 1 = .ok (.invokespecial 3, 3) := by decide +kernel
theorem dX6_init_4 : decode cX6_init 4 = .ok (.aload_n 0, 1) := by decide +kernel
theorem dX6_init_5 : decode cX6_init 5 = .ok (.bipush 8, 2) := by decide +kernel
theorem dX6_init_7 : decode cX6_init 7 = .ok (.newarray .int, 2) := by decide +kernel
theorem dX6_init_9 : decode cX6_init 9 = .ok (.putfield 9, 3) := by decide +kernel
theorem dX6_init_12 : decode cX6_init 12 = .ok (.aload_n 0, 1) := by decide +kernel
theorem dX6_init_13 : decode cX6_init 13 = .ok (.bipush 8, 2) := by decide +kernel
theorem dX6_init_15 : decode cX6_init 15 = .ok (.newarray .int, 2) := by decide +kernel
theorem dX6_init_17 : decode cX6_init 17 = .ok (.putfield 15, 3) := by decide +kernel
theorem dX6_init_20 : decode cX6_init 20 = .ok (.aload_n 0, 1) := by decide +kernel
theorem dX6_init_21 : decode cX6_init 21 = .ok (.bipush 9, 2) := by decide +kernel
theorem dX6_init_23 : decode cX6_init 23 = .ok (.newarray .int, 2) := by decide +kernel
theorem dX6_init_25 : decode cX6_init 25 = .ok (.putfield 18, 3) := by decide +kernel
theorem dX6_init_28 : decode cX6_init 28 = .ok (.aload_n 0, 1) := by decide +kernel
theorem dX6_init_29 : decode cX6_init 29 = .ok (.sipush 200, 3) := by decide +kernel
theorem dX6_init_32 : decode cX6_init 32 = .ok (.newarray .int, 2) := by decide +kernel
theorem dX6_init_34 : decode cX6_init 34 = .ok (.putfield 21, 3) := by decide +kernel
theorem dX6_init_37 : decode cX6_init 37 = .ok (.aload_n 0, 1) := by decide +kernel
theorem dX6_init_38 : decode cX6_init 38 = .ok (.iconst 5, 1) := by decide +kernel
theorem dX6_init_39 : decode cX6_init 39 = .ok (.newarray .int, 2) := by decide +kernel
theorem dX6_init_41 : decode cX6_init 41 = .ok (.putfield 24, 3) := by decide +kernel
theorem dX6_init_44 : decode cX6_init 44 = .ok (.aload_n 0, 1) := by decide +kernel
theorem dX6_init_45 : decode cX6_init 45 = .ok (.sipush 201, 3) := by decide +kernel
theorem dX6_init_48 : decode cX6_init 48 = .ok (.newarray .int, 2) := by decide +kernel
theorem dX6_init_50 : decode cX6_init 50 = .ok (.putfield 27, 3) := by decide +kernel
theorem dX6_init_53 : decode cX6_init 53 = .ok (.aload_n 0, 1) := by decide +kernel
theorem dX6_init_54 : decode cX6_init 54 = .ok (.sipush 201, 3) := by decide +kernel
theorem dX6_init_57 : decode cX6_init 57 = .ok (.newarray .int, 2) := by decide +kernel
theorem dX6_init_59 : decode cX6_init 59 = .ok (.putfield 30, 3) := by decide +kernel
theorem dX6_init_62 : decode cX6_init 62 = .ok (.return_, 1) := by decide +kernel
theorem dX6_take_0 : decode cX6_take 0 = .ok (.aload_n 0, 1) := by decide +kernel
theorem dX6_take_1 : decode cX6_take 1 = .ok (.aload_n 1, 1) := by decide +kernel
theorem dX6_take_2 : decode cX6_take 2 = .ok (.getfield 33, 3) := by decide +kernel
theorem dX6_take_5 : decode cX6_take 5 = .ok (.putfield 33, 3) := by decide +kernel
theorem dX6_take_8 : decode cX6_take 8 = .ok (.aload_n 0, 1) := by decide +kernel
theorem dX6_take_9 : decode cX6_take 9 = .ok (.aload_n 1, 1) := by decide +kernel
theorem dX6_take_10 : decode cX6_take 10 = .ok (.getfield 37, 3) := by decide +kernel
theorem dX6_take_13 : decode cX6_take 13 = .ok (.putfield 37, 3) := by decide +kernel
theorem dX6_take_16 : decode cX6_take 16 = .ok (.aload_n 1, 1) := by decide +kernel
theorem dX6_take_17 : decode cX6_take 17 = .ok (.getfield 9, 3) := by decide +kernel
theorem dX6_take_20 : decode cX6_take 20 = .ok (.iconst 0, 1) := by decide +kernel
theorem dX6_take_21 : decode cX6_take 21 = .ok (.aload_n 0, 1) := by decide +kernel
theorem dX6_take_22 : decode cX6_take 22 = .ok (.getfield 9, 3) := by decide +kernel
theorem dX6_take_25 : decode cX6_take 25 = .ok (.iconst 0, 1) := by decide +kernel
theorem dX6_take_26 : decode cX6_take 26 = .ok (.bipush 8, 2) := by decide +kernel
theorem dX6_take_28 : decode cX6_take 28 = .ok (.invokestatic 40, 3) := by decide +kernel
theorem dX6_take_31 : decode cX6_take 31 = .ok (.aload_n 1, 1) := by decide +kernel
theorem dX6_take_32 : decode cX6_take 32 = .ok (.getfield 15, 3) := by decide +kernel
theorem dX6_take_35 : decode cX6_take 35 = .ok (.iconst 0, 1) := by decide +kernel
theorem dX6_take_36 : decode cX6_take 36 = .ok (.aload_n 0, 1) := by decide +kernel
theorem dX6_take_37 : decode cX6_take 37 = .ok (.getfield 15, 3) := by decide +kernel
theorem dX6_take_40 : decode cX6_take 40 = .ok (.iconst 0, 1) := by decide +kernel
theorem dX6_take_41 : decode cX6_take 41 = .ok (.bipush 8, 2) := by decide +kernel
theorem dX6_take_43 : decode cX6_take 43 = .ok (.invokestatic 40, 3) := by decide +kernel
theorem dX6_take_46 : decode cX6_take 46 = .ok (.aload_n 1, 1) := by decide +kernel
theorem dX6_take_47 : decode cX6_take 47 = .ok (.getfield 18, 3) := by decide +kernel
theorem dX6_take_50 : decode cX6_take 50 = .ok (.iconst 0, 1) := by decide +kernel
theorem dX6_take_51 : decode cX6_take 51 = .ok (.aload_n 0, 1) := by decide +kernel
theorem dX6_take_52 : decode cX6_take 52 = .ok (.getfield 18, 3) := by decide +kernel
theorem dX6_take_55 : decode cX6_take 55 = .ok (.iconst 0, 1) := by decide +kernel
theorem dX6_take_56 : decode cX6_take 56 = .ok (.bipush 9, 2) := by decide +kernel
theorem dX6_take_58 : decode cX6_take 58 = .ok (.invokestatic 40, 3) := by decide +kernel
theorem dX6_take_61 : decode cX6_take 61 = .ok (.aload_n 1, 1) := by decide +kernel
theorem dX6_take_62 : decode cX6_take 62 = .ok (.getfield 21, 3) := by decide +kernel
theorem dX6_take_65 : decode cX6_take 65 = .ok (.iconst 0, 1) := by decide +kernel
theorem dX6_take_66 : decode cX6_take 66 = .ok (.aload_n 0, 1) := by decide +kernel
theorem dX6_take_67 : decode cX6_take 67 = .ok (.getfield 21, 3) := by decide +kernel
theorem dX6_take_70 : decode cX6_take 70 = .ok (.iconst 0, 1) := by decide +kernel
theorem dX6_take_71 : decode cX6_take 71 = .ok (.aload_n 0, 1) := by decide +kernel
theorem dX6_take_72 : decode cX6_take 72 = .ok (.getfield 37, 3) := by decide +kernel
theorem dX6_take_75 : decode cX6_take 75 = .ok (.invokestatic 40, 3) := by decide +kernel
theorem dX6_take_78 : decode cX6_take 78 = .ok (.return_, 1) := by decide +kernel
theorem dX6_willOf_0 : decode cX6_willOf 0 = .ok (.aload_n 0, 1) := by decide +kernel
theorem dX6_willOf_1 : decode cX6_willOf 1 = .ok (.getfield 24, 3) := by decide +kernel
theorem dX6_willOf_4 : decode cX6_willOf 4 = .ok (.iconst 0, 1) := by decide +kernel
theorem dX6_willOf_5 : decode cX6_willOf 5 = .ok (.aload_n 2, 1) := by decide +kernel
theorem dX6_willOf_6 : decode cX6_willOf 6 = .ok (.getfield 46, 3) := by decide +kernel
theorem dX6_willOf_9 : decode cX6_willOf 9 = .ok (.iastore, 1) := by decide +kernel
theorem dX6_willOf_10 : decode cX6_willOf 10 = .ok (.aload_n 0, 1) := by decide +kernel
theorem dX6_willOf_11 : decode cX6_willOf 11 = .ok (.getfield 24, 3) := by decide +kernel
theorem dX6_willOf_14 : decode cX6_willOf 14 = .ok (.iconst 1, 1) := by decide +kernel
theorem dX6_willOf_15 : decode cX6_willOf 15 = .ok (.aload_n 2, 1) := by decide +kernel
theorem dX6_willOf_16 : decode cX6_willOf 16 = .ok (.getfield 51, 3) := by decide +kernel
theorem dX6_willOf_19 : decode cX6_willOf 19 = .ok (.iload_n 3, 1) := by decide +kernel
theorem dX6_willOf_20 : decode cX6_willOf 20 = .ok (.iaload, 1) := by decide +kernel
theorem dX6_willOf_21 : decode cX6_willOf 21 = .ok (.iastore, 1) := by decide +kernel
theorem dX6_willOf_22 : decode cX6_willOf 22 = .ok (.aload_n 0, 1) := by decide +kernel
theorem dX6_willOf_23 : decode cX6_willOf 23 = .ok (.getfield 24, 3) := by decide +kernel
theorem dX6_willOf_26 : decode cX6_willOf 26 = .ok (.iconst 2, 1) := by decide +kernel
theorem dX6_willOf_27 : decode cX6_willOf 27 = .ok (.aload_n 2, 1) := by decide +kernel
theorem dX6_willOf_28 : decode cX6_willOf 28 = .ok (.getfield 54, 3) := by decide +kernel
theorem dX6_willOf_31 : decode cX6_willOf 31 = .ok (.iload_n 3, 1) := by decide +kernel
theorem dX6_willOf_32 : decode cX6_willOf 32 = .ok (.iaload, 1) := by decide +kernel
theorem dX6_willOf_33 : decode cX6_willOf 33 = .ok (.iastore, 1) := by decide +kernel
theorem dX6_willOf_34 : decode cX6_willOf 34 = .ok (.aload_n 0, 1) := by decide +kernel
theorem dX6_willOf_35 : decode cX6_willOf 35 = .ok (.getfield 24, 3) := by decide +kernel
theorem dX6_willOf_38 : decode cX6_willOf 38 = .ok (.iconst 3, 1) := by decide +kernel
theorem dX6_willOf_39 : decode cX6_willOf 39 = .ok (.iload 4, 2) := by decide +kernel
theorem dX6_willOf_41 : decode cX6_willOf 41 = .ok (.iastore, 1) := by decide +kernel
theorem dX6_willOf_42 : decode cX6_willOf 42 = .ok (.aload_n 0, 1) := by decide +kernel
theorem dX6_willOf_43 : decode cX6_willOf 43 = .ok (.getfield 24, 3) := by decide +kernel
theorem dX6_willOf_46 : decode cX6_willOf 46 = .ok (.iconst 4, 1) := by decide +kernel
theorem dX6_willOf_47 : decode cX6_willOf 47 = .ok (.iload_n 3, 1) := by decide +kernel
theorem dX6_willOf_48 : decode cX6_willOf 48 = .ok (.iastore, 1) := by decide +kernel
theorem dX6_willOf_49 : decode cX6_willOf 49 = .ok (.iconst 0, 1) := by decide +kernel
theorem dX6_willOf_50 : decode cX6_willOf 50 = .ok (.istore 5, 2) := by decide +kernel
theorem dX6_willOf_52 : decode cX6_willOf 52 = .ok (.iload 5, 2) := by decide +kernel
theorem dX6_willOf_54 : decode cX6_willOf 54 = .ok (.aload_n 0, 1) := by decide +kernel
theorem dX6_willOf_55 : decode cX6_willOf 55 = .ok (.getfield 33, 3) := by decide +kernel
theorem dX6_willOf_58 : decode cX6_willOf 58 = .ok (.if_icmp .ge 40, 3) := by decide +kernel
theorem dX6_willOf_61 : decode cX6_willOf 61 = .ok (.iload_n 1, 1) := by decide +kernel
theorem dX6_willOf_62 : decode cX6_willOf 62 = .ok (.aload_n 0, 1) := by decide +kernel
theorem dX6_willOf_63 : decode cX6_willOf 63 = .ok (.getfield 9, 3) := by decide +kernel
theorem dX6_willOf_66 : decode cX6_willOf 66 = .ok (.iload 5, 2) := by decide +kernel
theorem dX6_willOf_68 : decode cX6_willOf 68 = .ok (.iaload, 1) := by decide +kernel
theorem dX6_willOf_69 : decode cX6_willOf 69 = .ok (.invokestatic 57, 3) := by decide +kernel
theorem dX6_willOf_72 : decode cX6_willOf 72 = .ok (.ifCond .eq 20, 3) := by decide +kernel
theorem dX6_willOf_75 : decode cX6_willOf 75 = .ok (.aload_n 0, 1) := by decide +kernel
theorem dX6_willOf_76 : decode cX6_willOf 76 = .ok (.iload 5, 2) := by decide +kernel
theorem dX6_willOf_78 : decode cX6_willOf 78 = .ok (.invokevirtual 63, 3) := by decide +kernel
theorem dX6_willOf_81 : decode cX6_willOf 81 = .ok (.ifCond .eq 11, 3) := by decide +kernel
theorem dX6_willOf_84 : decode cX6_willOf 84 = .ok (.aload_n 0, 1) := by decide +kernel
theorem dX6_willOf_85 : decode cX6_willOf 85 = .ok (.getfield 15, 3) := by decide +kernel
theorem dX6_willOf_88 : decode cX6_willOf 88 = .ok (.iload 5, 2) := by decide +kernel
theorem dX6_willOf_90 : decode cX6_willOf 90 = .ok (.iaload, 1) := by decide +kernel
theorem dX6_willOf_91 : decode cX6_willOf 91 = .ok (.ireturn, 1) := by decide +kernel
theorem dX6_willOf_92 : decode cX6_willOf 92 = .ok (.iinc 5 1, 3) := by decide +kernel
theorem dX6_willOf_95 : decode cX6_willOf 95 = .ok (.goto (-43), 3) := by decide +kernel
theorem dX6_willOf_98 : decode cX6_willOf 98 = .ok (.iconst 0, 1) := by decide +kernel
theorem dX6_willOf_99 : decode cX6_willOf 99 = .ok (.ireturn, 1) := by decide +kernel
theorem dX6_holds_0 : decode cX6_holds 0 = .ok (.iconst 1, 1) := by decide +kernel
theorem dX6_holds_1 : decode cX6_holds 1 = .ok (.istore_n 2, 1) := by decide +kernel
theorem dX6_holds_2 : decode cX6_holds 2 = .ok (.aload_n 0, 1) := by decide +kernel
theorem dX6_holds_3 : decode cX6_holds 3 = .ok (.getfield 18, 3) := by decide +kernel
theorem dX6_holds_6 : decode cX6_holds 6 = .ok (.iload_n 1, 1) := by decide +kernel
theorem dX6_holds_7 : decode cX6_holds 7 = .ok (.iaload, 1) := by decide +kernel
theorem dX6_holds_8 : decode cX6_holds 8 = .ok (.istore_n 3, 1) := by decide +kernel
theorem dX6_holds_9 : decode cX6_holds 9 = .ok (.iload_n 3, 1) := by decide +kernel
theorem dX6_holds_10 : decode cX6_holds 10 = .ok (.aload_n 0, 1) := by decide +kernel
theorem dX6_holds_11 : decode cX6_holds 11 = .ok (.getfield 18, 3) := by decide +kernel
theorem dX6_holds_14 : decode cX6_holds 14 = .ok (.iload_n 1, 1) := by decide +kernel
theorem dX6_holds_15 : decode cX6_holds 15 = .ok (.iconst 1, 1) := by decide +kernel
theorem dX6_holds_16 : decode cX6_holds 16 = .ok (.iadd, 1) := by decide +kernel
theorem dX6_holds_17 : decode cX6_holds 17 = .ok (.iaload, 1) := by decide +kernel
theorem dX6_holds_18 : decode cX6_holds 18 = .ok (.if_icmp .ge 86, 3) := by decide +kernel
theorem dX6_holds_21 : decode cX6_holds 21 = .ok (.aload_n 0, 1) := by decide +kernel
theorem dX6_holds_22 : decode cX6_holds 22 = .ok (.getfield 21, 3) := by decide +kernel
theorem dX6_holds_25 : decode cX6_holds 25 = .ok (.iload_n 3, 1) := by decide +kernel
theorem dX6_holds_26 : decode cX6_holds 26 = .ok (.iaload, 1) := by decide +kernel
theorem dX6_holds_27 : decode cX6_holds 27 = .ok (.istore 4, 2) := by decide +kernel
theorem dX6_holds_29 : decode cX6_holds 29 = .ok (.iload 4, 2) := by decide +kernel
theorem dX6_holds_31 : decode cX6_holds 31 = .ok (.iconst (-1), 1) := by decide +kernel
theorem dX6_holds_32 : decode cX6_holds 32 = .ok (.if_icmp .ne 10, 3) := by decide +kernel
theorem dX6_holds_35 : decode cX6_holds 35 = .ok (.iload_n 2, 1) := by decide +kernel
theorem dX6_holds_36 : decode cX6_holds 36 = .ok (.iconst 1, 1) := by decide +kernel
theorem dX6_holds_37 : decode cX6_holds 37 = .ok (.ixor, 1) := by decide +kernel
theorem dX6_holds_38 : decode cX6_holds 38 = .ok (.istore_n 2, 1) := by decide +kernel
theorem dX6_holds_39 : decode cX6_holds 39 = .ok (.goto 59, 3) := by decide +kernel
theorem dX6_holds_42 : decode cX6_holds 42 = .ok (.iload 4, 2) := by decide +kernel
theorem dX6_holds_44 : decode cX6_holds 44 = .ok (.bipush (-2), 2) := by decide +kernel
theorem dX6_holds_46 : decode cX6_holds 46 = .ok (.if_icmp .ne 15, 3) := by decide +kernel
theorem dX6_holds_49 : decode cX6_holds 49 = .ok (.iload_n 2, 1) := by decide +kernel
theorem dX6_holds_50 : decode cX6_holds 50 = .ok (.iconst 1, 1) := by decide +kernel
theorem dX6_holds_51 : decode cX6_holds 51 = .ok (.ishr, 1) := by decide +kernel
theorem dX6_holds_52 : decode cX6_holds 52 = .ok (.iload_n 2, 1) := by decide +kernel
theorem dX6_holds_53 : decode cX6_holds 53 = .ok (.bipush (-2), 2) := by decide +kernel
theorem dX6_holds_55 : decode cX6_holds 55 = .ok (.ior, 1) := by decide +kernel
theorem dX6_holds_56 : decode cX6_holds 56 = .ok (.iand, 1) := by decide +kernel
theorem dX6_holds_57 : decode cX6_holds 57 = .ok (.istore_n 2, 1) := by decide +kernel
theorem dX6_holds_58 : decode cX6_holds 58 = .ok (.goto 40, 3) := by decide +kernel
theorem dX6_holds_61 : decode cX6_holds 61 = .ok (.iload 4, 2) := by decide +kernel
theorem dX6_holds_63 : decode cX6_holds 63 = .ok (.bipush (-3), 2) := by decide +kernel
theorem dX6_holds_65 : decode cX6_holds 65 = .ok (.if_icmp .ne 14, 3) := by decide +kernel
theorem dX6_holds_68 : decode cX6_holds 68 = .ok (.iload_n 2, 1) := by decide +kernel
theorem dX6_holds_69 : decode cX6_holds 69 = .ok (.iconst 1, 1) := by decide +kernel
theorem dX6_holds_70 : decode cX6_holds 70 = .ok (.ishr, 1) := by decide +kernel
theorem dX6_holds_71 : decode cX6_holds 71 = .ok (.iload_n 2, 1) := by decide +kernel
theorem dX6_holds_72 : decode cX6_holds 72 = .ok (.iconst 1, 1) := by decide +kernel
theorem dX6_holds_73 : decode cX6_holds 73 = .ok (.iand, 1) := by decide +kernel
theorem dX6_holds_74 : decode cX6_holds 74 = .ok (.ior, 1) := by decide +kernel
theorem dX6_holds_75 : decode cX6_holds 75 = .ok (.istore_n 2, 1) := by decide +kernel
theorem dX6_holds_76 : decode cX6_holds 76 = .ok (.goto 22, 3) := by decide +kernel
theorem dX6_holds_79 : decode cX6_holds 79 = .ok (.iload_n 2, 1) := by decide +kernel
theorem dX6_holds_80 : decode cX6_holds 80 = .ok (.iconst 1, 1) := by decide +kernel
theorem dX6_holds_81 : decode cX6_holds 81 = .ok (.ishl, 1) := by decide +kernel
theorem dX6_holds_82 : decode cX6_holds 82 = .ok (.aload_n 0, 1) := by decide +kernel
theorem dX6_holds_83 : decode cX6_holds 83 = .ok (.iload 4, 2) := by decide +kernel
theorem dX6_holds_85 : decode cX6_holds 85 = .ok (.invokevirtual 67, 3) := by decide +kernel
theorem dX6_holds_88 : decode cX6_holds 88 = .ok (.ifCond .eq 7, 3) := by decide +kernel
theorem dX6_holds_91 : decode cX6_holds 91 = .ok (.iconst 1, 1) := by decide +kernel
theorem dX6_holds_92 : decode cX6_holds 92 = .ok (.goto 4, 3) := by decide +kernel
theorem dX6_holds_95 : decode cX6_holds 95 = .ok (.iconst 0, 1) := by decide +kernel
theorem dX6_holds_96 : decode cX6_holds 96 = .ok (.ior, 1) := by decide +kernel
theorem dX6_holds_97 : decode cX6_holds 97 = .ok (.istore_n 2, 1) := by decide +kernel
theorem dX6_holds_98 : decode cX6_holds 98 = .ok (.iinc 3 1, 3) := by decide +kernel
theorem dX6_holds_101 : decode cX6_holds 101 = .ok (.goto (-92), 3) := by decide +kernel
theorem dX6_holds_104 : decode cX6_holds 104 = .ok (.iload_n 2, 1) := by decide +kernel
theorem dX6_holds_105 : decode cX6_holds 105 = .ok (.iconst 1, 1) := by decide +kernel
theorem dX6_holds_106 : decode cX6_holds 106 = .ok (.iand, 1) := by decide +kernel
theorem dX6_holds_107 : decode cX6_holds 107 = .ok (.iconst 1, 1) := by decide +kernel
theorem dX6_holds_108 : decode cX6_holds 108 = .ok (.if_icmp .ne 7, 3) := by decide +kernel
theorem dX6_holds_111 : decode cX6_holds 111 = .ok (.iconst 1, 1) := by decide +kernel
theorem dX6_holds_112 : decode cX6_holds 112 = .ok (.goto 4, 3) := by decide +kernel
theorem dX6_holds_115 : decode cX6_holds 115 = .ok (.iconst 0, 1) := by decide +kernel
theorem dX6_holds_116 : decode cX6_holds 116 = .ok (.ireturn, 1) := by decide +kernel
theorem dX6_compares_0 : decode cX6_compares 0 = .ok (.iload_n 1, 1) := by decide +kernel
theorem dX6_compares_1 : decode cX6_compares 1 = .ok (.bipush 14, 2) := by decide +kernel
theorem dX6_compares_3 : decode cX6_compares 3 = .ok (.ishr, 1) := by decide +kernel
theorem dX6_compares_4 : decode cX6_compares 4 = .ok (.sipush 16383, 3) := by decide +kernel
theorem dX6_compares_7 : decode cX6_compares 7 = .ok (.iand, 1) := by decide +kernel
theorem dX6_compares_8 : decode cX6_compares 8 = .ok (.istore_n 2, 1) := by decide +kernel
theorem dX6_compares_9 : decode cX6_compares 9 = .ok (.iload_n 1, 1) := by decide +kernel
theorem dX6_compares_10 : decode cX6_compares 10 = .ok (.sipush 16383, 3) := by decide +kernel
theorem dX6_compares_13 : decode cX6_compares 13 = .ok (.iand, 1) := by decide +kernel
theorem dX6_compares_14 : decode cX6_compares 14 = .ok (.istore_n 3, 1) := by decide +kernel
theorem dX6_compares_15 : decode cX6_compares 15 = .ok (.iload_n 2, 1) := by decide +kernel
theorem dX6_compares_16 : decode cX6_compares 16 = .ok (.sipush 10000, 3) := by decide +kernel
theorem dX6_compares_19 : decode cX6_compares 19 = .ok (.if_icmp .lt 14, 3) := by decide +kernel
theorem dX6_compares_22 : decode cX6_compares 22 = .ok (.aload_n 0, 1) := by decide +kernel
theorem dX6_compares_23 : decode cX6_compares 23 = .ok (.getfield 24, 3) := by decide +kernel
theorem dX6_compares_26 : decode cX6_compares 26 = .ok (.iload_n 2, 1) := by decide +kernel
theorem dX6_compares_27 : decode cX6_compares 27 = .ok (.sipush 10000, 3) := by decide +kernel
theorem dX6_compares_30 : decode cX6_compares 30 = .ok (.isub, 1) := by decide +kernel
theorem dX6_compares_31 : decode cX6_compares 31 = .ok (.iaload, 1) := by decide +kernel
theorem dX6_compares_32 : decode cX6_compares 32 = .ok (.istore_n 2, 1) := by decide +kernel
theorem dX6_compares_33 : decode cX6_compares 33 = .ok (.iload_n 3, 1) := by decide +kernel
theorem dX6_compares_34 : decode cX6_compares 34 = .ok (.sipush 10000, 3) := by decide +kernel
theorem dX6_compares_37 : decode cX6_compares 37 = .ok (.if_icmp .lt 14, 3) := by decide +kernel
theorem dX6_compares_40 : decode cX6_compares 40 = .ok (.aload_n 0, 1) := by decide +kernel
theorem dX6_compares_41 : decode cX6_compares 41 = .ok (.getfield 24, 3) := by decide +kernel
theorem dX6_compares_44 : decode cX6_compares 44 = .ok (.iload_n 3, 1) := by decide +kernel
theorem dX6_compares_45 : decode cX6_compares 45 = .ok (.sipush 10000, 3) := by decide +kernel
theorem dX6_compares_48 : decode cX6_compares 48 = .ok (.isub, 1) := by decide +kernel
theorem dX6_compares_49 : decode cX6_compares 49 = .ok (.iaload, 1) := by decide +kernel
theorem dX6_compares_50 : decode cX6_compares 50 = .ok (.istore_n 3, 1) := by decide +kernel
theorem dX6_compares_51 : decode cX6_compares 51 = .ok (.iload_n 1, 1) := by decide +kernel
theorem dX6_compares_52 : decode cX6_compares 52 = .ok (.bipush 28, 2) := by decide +kernel
theorem dX6_compares_54 : decode cX6_compares 54 = .ok (.ishr, 1) := by decide +kernel
theorem dX6_compares_55 : decode cX6_compares 55 = .ok (.istore 4, 2) := by decide +kernel
theorem dX6_compares_57 : decode cX6_compares 57 = .ok (.iload 4, 2) := by decide +kernel
theorem dX6_compares_59 : decode cX6_compares 59 = .ok (.ifCond .ne 14, 3) := by decide +kernel
theorem dX6_compares_62 : decode cX6_compares 62 = .ok (.iload_n 2, 1) := by decide +kernel
theorem dX6_compares_63 : decode cX6_compares 63 = .ok (.iload_n 3, 1) := by decide +kernel
theorem dX6_compares_64 : decode cX6_compares 64 = .ok (.if_icmp .ge 7, 3) := by decide +kernel
theorem dX6_compares_67 : decode cX6_compares 67 = .ok (.iconst 1, 1) := by decide +kernel
theorem dX6_compares_68 : decode cX6_compares 68 = .ok (.goto 4, 3) := by decide +kernel
theorem dX6_compares_71 : decode cX6_compares 71 = .ok (.iconst 0, 1) := by decide +kernel
theorem dX6_compares_72 : decode cX6_compares 72 = .ok (.ireturn, 1) := by decide +kernel
theorem dX6_compares_73 : decode cX6_compares 73 = .ok (.iload 4, 2) := by decide +kernel
theorem dX6_compares_75 : decode cX6_compares 75 = .ok (.iconst 1, 1) := by decide +kernel
theorem dX6_compares_76 : decode cX6_compares 76 = .ok (.if_icmp .ne 16, 3) := by decide +kernel
theorem dX6_compares_79 : decode cX6_compares 79 = .ok (.iload_n 2, 1) := by decide +kernel
theorem dX6_compares_80 : decode cX6_compares 80 = .ok (.iload_n 3, 1) := by decide +kernel
theorem dX6_compares_81 : decode cX6_compares 81 = .ok (.if_icmp .ne 7, 3) := by decide +kernel
theorem dX6_compares_84 : decode cX6_compares 84 = .ok (.iconst 1, 1) := by decide +kernel
theorem dX6_compares_85 : decode cX6_compares 85 = .ok (.goto 17, 3) := by decide +kernel
theorem dX6_compares_88 : decode cX6_compares 88 = .ok (.iconst 0, 1) := by decide +kernel
theorem dX6_compares_89 : decode cX6_compares 89 = .ok (.goto 13, 3) := by decide +kernel
theorem dX6_compares_92 : decode cX6_compares 92 = .ok (.iload_n 2, 1) := by decide +kernel
theorem dX6_compares_93 : decode cX6_compares 93 = .ok (.iload_n 3, 1) := by decide +kernel
theorem dX6_compares_94 : decode cX6_compares 94 = .ok (.if_icmp .le 7, 3) := by decide +kernel
theorem dX6_compares_97 : decode cX6_compares 97 = .ok (.iconst 1, 1) := by decide +kernel
theorem dX6_compares_98 : decode cX6_compares 98 = .ok (.goto 4, 3) := by decide +kernel
theorem dX6_compares_101 : decode cX6_compares 101 = .ok (.iconst 0, 1) := by decide +kernel
theorem dX6_compares_102 : decode cX6_compares 102 = .ok (.ireturn, 1) := by decide +kernel
theorem dX6_read_0 : decode cX6_read 0 = .ok (.aload_n 0, 1) := by decide +kernel
theorem dX6_read_1 : decode cX6_read 1 = .ok (.aload_n 1, 1) := by decide +kernel
theorem dX6_read_2 : decode cX6_read 2 = .ok (.iload_n 2, 1) := by decide +kernel
theorem dX6_read_3 : decode cX6_read 3 = .ok (.invokevirtual 70, 3) := by decide +kernel
theorem dX6_read_6 : decode cX6_read 6 = .ok (.aload_n 0, 1) := by decide +kernel
theorem dX6_read_7 : decode cX6_read 7 = .ok (.iconst 0, 1) := by decide +kernel
theorem dX6_read_8 : decode cX6_read 8 = .ok (.putfield 33, 3) := by decide +kernel
theorem dX6_read_11 : decode cX6_read 11 = .ok (.aload_n 0, 1) := by decide +kernel
theorem dX6_read_12 : decode cX6_read 12 = .ok (.iconst 0, 1) := by decide +kernel
theorem dX6_read_13 : decode cX6_read 13 = .ok (.putfield 37, 3) := by decide +kernel
theorem dX6_read_16 : decode cX6_read 16 = .ok (.aload_n 0, 1) := by decide +kernel
theorem dX6_read_17 : decode cX6_read 17 = .ok (.iconst 0, 1) := by decide +kernel
theorem dX6_read_18 : decode cX6_read 18 = .ok (.putfield 74, 3) := by decide +kernel
theorem dX6_read_21 : decode cX6_read 21 = .ok (.aload_n 0, 1) := by decide +kernel
theorem dX6_read_22 : decode cX6_read 22 = .ok (.iconst (-1), 1) := by decide +kernel
theorem dX6_read_23 : decode cX6_read 23 = .ok (.putfield 77, 3) := by decide +kernel
theorem dX6_read_26 : decode cX6_read 26 = .ok (.iconst 0, 1) := by decide +kernel
theorem dX6_read_27 : decode cX6_read 27 = .ok (.istore_n 3, 1) := by decide +kernel
theorem dX6_read_28 : decode cX6_read 28 = .ok (.iload_n 3, 1) := by decide +kernel
theorem dX6_read_29 : decode cX6_read 29 = .ok (.bipush 8, 2) := by decide +kernel
theorem dX6_read_31 : decode cX6_read 31 = .ok (.if_icmp .gt 33, 3) := by decide +kernel
theorem dX6_read_34 : decode cX6_read 34 = .ok (.aload_n 0, 1) := by decide +kernel
theorem dX6_read_35 : decode cX6_read 35 = .ok (.getfield 77, 3) := by decide +kernel
theorem dX6_read_38 : decode cX6_read 38 = .ok (.ifCond .ge 26, 3) := by decide +kernel
theorem dX6_read_41 : decode cX6_read 41 = .ok (.aload_n 0, 1) := by decide +kernel
theorem dX6_read_42 : decode cX6_read 42 = .ok (.getfield 27, 3) := by decide +kernel
theorem dX6_read_45 : decode cX6_read 45 = .ok (.aload_n 0, 1) := by decide +kernel
theorem dX6_read_46 : decode cX6_read 46 = .ok (.getfield 74, 3) := by decide +kernel
theorem dX6_read_49 : decode cX6_read 49 = .ok (.iaload, 1) := by decide +kernel
theorem dX6_read_50 : decode cX6_read 50 = .ok (.iconst (-1), 1) := by decide +kernel
theorem dX6_read_51 : decode cX6_read 51 = .ok (.if_icmp .eq 13, 3) := by decide +kernel
theorem dX6_read_54 : decode cX6_read 54 = .ok (.aload_n 0, 1) := by decide +kernel
theorem dX6_read_55 : decode cX6_read 55 = .ok (.invokevirtual 80, 3) := by decide +kernel
theorem dX6_read_58 : decode cX6_read 58 = .ok (.iinc 3 1, 3) := by decide +kernel
theorem dX6_read_61 : decode cX6_read 61 = .ok (.goto (-33), 3) := by decide +kernel
theorem dX6_read_64 : decode cX6_read 64 = .ok (.aload_n 0, 1) := by decide +kernel
theorem dX6_read_65 : decode cX6_read 65 = .ok (.getfield 77, 3) := by decide +kernel
theorem dX6_read_68 : decode cX6_read 68 = .ok (.ireturn, 1) := by decide +kernel
theorem dX6_readRule_0 : decode cX6_readRule 0 = .ok (.aload_n 0, 1) := by decide +kernel
theorem dX6_readRule_1 : decode cX6_readRule 1 = .ok (.getfield 27, 3) := by decide +kernel
theorem dX6_readRule_4 : decode cX6_readRule 4 = .ok (.aload_n 0, 1) := by decide +kernel
theorem dX6_readRule_5 : decode cX6_readRule 5 = .ok (.getfield 74, 3) := by decide +kernel
theorem dX6_readRule_8 : decode cX6_readRule 8 = .ok (.iaload, 1) := by decide +kernel
theorem dX6_readRule_9 : decode cX6_readRule 9 = .ok (.istore_n 1, 1) := by decide +kernel
theorem dX6_readRule_10 : decode cX6_readRule 10 = .ok (.aload_n 0, 1) := by decide +kernel
theorem dX6_readRule_11 : decode cX6_readRule 11 = .ok (.getfield 33, 3) := by decide +kernel
theorem dX6_readRule_14 : decode cX6_readRule 14 = .ok (.bipush 8, 2) := by decide +kernel
theorem dX6_readRule_16 : decode cX6_readRule 16 = .ok (.if_icmp .ge 12, 3) := by decide +kernel
theorem dX6_readRule_19 : decode cX6_readRule 19 = .ok (.iload_n 1, 1) := by decide +kernel
theorem dX6_readRule_20 : decode cX6_readRule 20 = .ok (.ifCond .lt 8, 3) := by decide +kernel
theorem dX6_readRule_23 : decode cX6_readRule 23 = .ok (.iload_n 1, 1) := by decide +kernel
theorem dX6_readRule_24 : decode cX6_readRule 24 = .ok (.iconst 5, 1) := by decide +kernel
theorem dX6_readRule_25 : decode cX6_readRule 25 = .ok (.if_icmp .le 17, 3) := by decide +kernel
theorem dX6_readRule_28 : decode cX6_readRule 28 = .ok (.aload_n 0, 1) := by decide +kernel
theorem dX6_readRule_29 : decode cX6_readRule 29 = .ok (.aload_n 0, 1) := by decide +kernel
theorem dX6_readRule_30 : decode cX6_readRule 30 = .ok (.getfield 30, 3) := by decide +kernel
theorem dX6_readRule_33 : decode cX6_readRule 33 = .ok (.aload_n 0, 1) := by decide +kernel
theorem dX6_readRule_34 : decode cX6_readRule 34 = .ok (.getfield 74, 3) := by decide +kernel
theorem dX6_readRule_37 : decode cX6_readRule 37 = .ok (.iaload, 1) := by decide +kernel
theorem dX6_readRule_38 : decode cX6_readRule 38 = .ok (.putfield 77, 3) := by decide +kernel
theorem dX6_readRule_41 : decode cX6_readRule 41 = .ok (.return_, 1) := by decide +kernel
theorem dX6_readRule_42 : decode cX6_readRule 42 = .ok (.aload_n 0, 1) := by decide +kernel
theorem dX6_readRule_43 : decode cX6_readRule 43 = .ok (.dup, 1) := by decide +kernel
theorem dX6_readRule_44 : decode cX6_readRule 44 = .ok (.getfield 74, 3) := by decide +kernel
theorem dX6_readRule_47 : decode cX6_readRule 47 = .ok (.iconst 1, 1) := by decide +kernel
theorem dX6_readRule_48 : decode cX6_readRule 48 = .ok (.iadd, 1) := by decide +kernel
theorem dX6_readRule_49 : decode cX6_readRule 49 = .ok (.putfield 74, 3) := by decide +kernel
theorem dX6_readRule_52 : decode cX6_readRule 52 = .ok (.aload_n 0, 1) := by decide +kernel
theorem dX6_readRule_53 : decode cX6_readRule 53 = .ok (.getfield 9, 3) := by decide +kernel
theorem dX6_readRule_56 : decode cX6_readRule 56 = .ok (.aload_n 0, 1) := by decide +kernel
theorem dX6_readRule_57 : decode cX6_readRule 57 = .ok (.getfield 33, 3) := by decide +kernel
theorem dX6_readRule_60 : decode cX6_readRule 60 = .ok (.iload_n 1, 1) := by decide +kernel
theorem dX6_readRule_61 : decode cX6_readRule 61 = .ok (.iastore, 1) := by decide +kernel
theorem dX6_readRule_62 : decode cX6_readRule 62 = .ok (.aload_n 0, 1) := by decide +kernel
theorem dX6_readRule_63 : decode cX6_readRule 63 = .ok (.getfield 18, 3) := by decide +kernel
theorem dX6_readRule_66 : decode cX6_readRule 66 = .ok (.aload_n 0, 1) := by decide +kernel
theorem dX6_readRule_67 : decode cX6_readRule 67 = .ok (.getfield 33, 3) := by decide +kernel
theorem dX6_readRule_70 : decode cX6_readRule 70 = .ok (.aload_n 0, 1) := by decide +kernel
theorem dX6_readRule_71 : decode cX6_readRule 71 = .ok (.getfield 37, 3) := by decide +kernel
theorem dX6_readRule_74 : decode cX6_readRule 74 = .ok (.iastore, 1) := by decide +kernel
theorem dX6_readRule_75 : decode cX6_readRule 75 = .ok (.aload_n 0, 1) := by decide +kernel
theorem dX6_readRule_76 : decode cX6_readRule 76 = .ok (.getfield 27, 3) := by decide +kernel
theorem dX6_readRule_79 : decode cX6_readRule 79 = .ok (.aload_n 0, 1) := by decide +kernel
theorem dX6_readRule_80 : decode cX6_readRule 80 = .ok (.getfield 74, 3) := by decide +kernel
theorem dX6_readRule_83 : decode cX6_readRule 83 = .ok (.iaload, 1) := by decide +kernel
theorem dX6_readRule_84 : decode cX6_readRule 84 = .ok (.bipush 9, 2) := by decide +kernel
theorem dX6_readRule_86 : decode cX6_readRule 86 = .ok (.if_icmp .ne 18, 3) := by decide +kernel
theorem dX6_readRule_89 : decode cX6_readRule 89 = .ok (.aload_n 0, 1) := by decide +kernel
theorem dX6_readRule_90 : decode cX6_readRule 90 = .ok (.dup, 1) := by decide +kernel
theorem dX6_readRule_91 : decode cX6_readRule 91 = .ok (.getfield 74, 3) := by decide +kernel
theorem dX6_readRule_94 : decode cX6_readRule 94 = .ok (.iconst 1, 1) := by decide +kernel
theorem dX6_readRule_95 : decode cX6_readRule 95 = .ok (.iadd, 1) := by decide +kernel
theorem dX6_readRule_96 : decode cX6_readRule 96 = .ok (.putfield 74, 3) := by decide +kernel
theorem dX6_readRule_99 : decode cX6_readRule 99 = .ok (.aload_n 0, 1) := by decide +kernel
theorem dX6_readRule_100 : decode cX6_readRule 100 = .ok (.iconst 0, 1) := by decide +kernel
theorem dX6_readRule_101 : decode cX6_readRule 101 = .ok (.invokevirtual 83, 3) := by decide +kernel
theorem dX6_readRule_104 : decode cX6_readRule 104 = .ok (.aload_n 0, 1) := by decide +kernel
theorem dX6_readRule_105 : decode cX6_readRule 105 = .ok (.bipush 6, 2) := by decide +kernel
theorem dX6_readRule_107 : decode cX6_readRule 107 = .ok (.bipush 8, 2) := by decide +kernel
theorem dX6_readRule_109 : decode cX6_readRule 109 = .ok (.invokevirtual 87, 3) := by decide +kernel
theorem dX6_readRule_112 : decode cX6_readRule 112 = .ok (.istore_n 2, 1) := by decide +kernel
theorem dX6_readRule_113 : decode cX6_readRule 113 = .ok (.aload_n 0, 1) := by decide +kernel
theorem dX6_readRule_114 : decode cX6_readRule 114 = .ok (.bipush 20, 2) := by decide +kernel
theorem dX6_readRule_116 : decode cX6_readRule 116 = .ok (.bipush 20, 2) := by decide +kernel
theorem dX6_readRule_118 : decode cX6_readRule 118 = .ok (.invokevirtual 87, 3) := by decide +kernel
theorem dX6_readRule_121 : decode cX6_readRule 121 = .ok (.pop, 1) := by decide +kernel
theorem dX6_readRule_122 : decode cX6_readRule 122 = .ok (.aload_n 0, 1) := by decide +kernel
theorem dX6_readRule_123 : decode cX6_readRule 123 = .ok (.getfield 77, 3) := by decide +kernel
theorem dX6_readRule_126 : decode cX6_readRule 126 = .ok (.ifCond .lt 4, 3) := by decide +kernel
theorem dX6_readRule_129 : decode cX6_readRule 129 = .ok (.return_, 1) := by decide +kernel
theorem dX6_readRule_130 : decode cX6_readRule 130 = .ok (.aload_n 0, 1) := by decide +kernel
theorem dX6_readRule_131 : decode cX6_readRule 131 = .ok (.getfield 15, 3) := by decide +kernel
theorem dX6_readRule_134 : decode cX6_readRule 134 = .ok (.aload_n 0, 1) := by decide +kernel
theorem dX6_readRule_135 : decode cX6_readRule 135 = .ok (.getfield 33, 3) := by decide +kernel
theorem dX6_readRule_138 : decode cX6_readRule 138 = .ok (.iload_n 2, 1) := by decide +kernel
theorem dX6_readRule_139 : decode cX6_readRule 139 = .ok (.bipush 6, 2) := by decide +kernel
theorem dX6_readRule_141 : decode cX6_readRule 141 = .ok (.isub, 1) := by decide +kernel
theorem dX6_readRule_142 : decode cX6_readRule 142 = .ok (.iastore, 1) := by decide +kernel
theorem dX6_readRule_143 : decode cX6_readRule 143 = .ok (.aload_n 0, 1) := by decide +kernel
theorem dX6_readRule_144 : decode cX6_readRule 144 = .ok (.dup, 1) := by decide +kernel
theorem dX6_readRule_145 : decode cX6_readRule 145 = .ok (.getfield 33, 3) := by decide +kernel
theorem dX6_readRule_148 : decode cX6_readRule 148 = .ok (.iconst 1, 1) := by decide +kernel
theorem dX6_readRule_149 : decode cX6_readRule 149 = .ok (.iadd, 1) := by decide +kernel
theorem dX6_readRule_150 : decode cX6_readRule 150 = .ok (.putfield 33, 3) := by decide +kernel
theorem dX6_readRule_153 : decode cX6_readRule 153 = .ok (.aload_n 0, 1) := by decide +kernel
theorem dX6_readRule_154 : decode cX6_readRule 154 = .ok (.getfield 18, 3) := by decide +kernel
theorem dX6_readRule_157 : decode cX6_readRule 157 = .ok (.aload_n 0, 1) := by decide +kernel
theorem dX6_readRule_158 : decode cX6_readRule 158 = .ok (.getfield 33, 3) := by decide +kernel
theorem dX6_readRule_161 : decode cX6_readRule 161 = .ok (.aload_n 0, 1) := by decide +kernel
theorem dX6_readRule_162 : decode cX6_readRule 162 = .ok (.getfield 37, 3) := by decide +kernel
theorem dX6_readRule_165 : decode cX6_readRule 165 = .ok (.iastore, 1) := by decide +kernel
theorem dX6_readRule_166 : decode cX6_readRule 166 = .ok (.return_, 1) := by decide +kernel
theorem dX6_readCondition_0 : decode cX6_readCondition 0 = .ok (.aload_n 0, 1) := by decide +kernel
theorem dX6_readCondition_1 : decode cX6_readCondition 1 = .ok (.iload_n 1, 1) := by decide +kernel
theorem dX6_readCondition_2 : decode cX6_readCondition 2 = .ok (.invokevirtual 91, 3) := by decide +kernel
theorem dX6_readCondition_5 : decode cX6_readCondition 5 = .ok (.iconst 0, 1) := by decide +kernel
theorem dX6_readCondition_6 : decode cX6_readCondition 6 = .ok (.istore_n 2, 1) := by decide +kernel
theorem dX6_readCondition_7 : decode cX6_readCondition 7 = .ok (.iload_n 2, 1) := by decide +kernel
theorem dX6_readCondition_8 : decode cX6_readCondition 8 = .ok (.sipush 200, 3) := by decide +kernel
theorem dX6_readCondition_11 : decode cX6_readCondition 11 = .ok (.if_icmp .ge 51, 3) := by decide +kernel
theorem dX6_readCondition_14 : decode cX6_readCondition 14 = .ok (.aload_n 0, 1) := by decide +kernel
theorem dX6_readCondition_15 : decode cX6_readCondition 15 = .ok (.getfield 77, 3) := by decide +kernel
theorem dX6_readCondition_18 : decode cX6_readCondition 18 = .ok (.ifCond .ge 44, 3) := by decide +kernel
theorem dX6_readCondition_21 : decode cX6_readCondition 21 = .ok (.aload_n 0, 1) := by decide +kernel
theorem dX6_readCondition_22 : decode cX6_readCondition 22 = .ok (.getfield 27, 3) := by decide +kernel
theorem dX6_readCondition_25 : decode cX6_readCondition 25 = .ok (.aload_n 0, 1) := by decide +kernel
theorem dX6_readCondition_26 : decode cX6_readCondition 26 = .ok (.getfield 74, 3) := by decide +kernel
theorem dX6_readCondition_29 : decode cX6_readCondition 29 = .ok (.iaload, 1) := by decide +kernel
theorem dX6_readCondition_30 : decode cX6_readCondition 30 = .ok (.bipush 10, 2) := by decide +kernel
theorem dX6_readCondition_32 : decode cX6_readCondition 32 = .ok (.if_icmp .ne 30, 3) := by decide +kernel
theorem dX6_readCondition_35 : decode cX6_readCondition 35 = .ok (.aload_n 0, 1) := by decide +kernel
theorem dX6_readCondition_36 : decode cX6_readCondition 36 = .ok (.dup, 1) := by decide +kernel
theorem dX6_readCondition_37 : decode cX6_readCondition 37 = .ok (.getfield 74, 3) := by decide +kernel
theorem dX6_readCondition_40 : decode cX6_readCondition 40 = .ok (.iconst 1, 1) := by decide +kernel
theorem dX6_readCondition_41 : decode cX6_readCondition 41 = .ok (.iadd, 1) := by decide +kernel
theorem dX6_readCondition_42 : decode cX6_readCondition 42 = .ok (.putfield 74, 3) := by decide +kernel
theorem dX6_readCondition_45 : decode cX6_readCondition 45 = .ok (.aload_n 0, 1) := by decide +kernel
theorem dX6_readCondition_46 : decode cX6_readCondition 46 = .ok (.iload_n 1, 1) := by decide +kernel
theorem dX6_readCondition_47 : decode cX6_readCondition 47 = .ok (.invokevirtual 91, 3) := by decide +kernel
theorem dX6_readCondition_50 : decode cX6_readCondition 50 = .ok (.aload_n 0, 1) := by decide +kernel
theorem dX6_readCondition_51 : decode cX6_readCondition 51 = .ok (.bipush (-3), 2) := by decide +kernel
theorem dX6_readCondition_53 : decode cX6_readCondition 53 = .ok (.invokevirtual 94, 3) := by decide +kernel
theorem dX6_readCondition_56 : decode cX6_readCondition 56 = .ok (.iinc 2 1, 3) := by decide +kernel
theorem dX6_readCondition_59 : decode cX6_readCondition 59 = .ok (.goto (-52), 3) := by decide +kernel
theorem dX6_readCondition_62 : decode cX6_readCondition 62 = .ok (.return_, 1) := by decide +kernel
theorem dX6_readAll_0 : decode cX6_readAll 0 = .ok (.aload_n 0, 1) := by decide +kernel
theorem dX6_readAll_1 : decode cX6_readAll 1 = .ok (.iload_n 1, 1) := by decide +kernel
theorem dX6_readAll_2 : decode cX6_readAll 2 = .ok (.invokevirtual 97, 3) := by decide +kernel
theorem dX6_readAll_5 : decode cX6_readAll 5 = .ok (.iconst 0, 1) := by decide +kernel
theorem dX6_readAll_6 : decode cX6_readAll 6 = .ok (.istore_n 2, 1) := by decide +kernel
theorem dX6_readAll_7 : decode cX6_readAll 7 = .ok (.iload_n 2, 1) := by decide +kernel
theorem dX6_readAll_8 : decode cX6_readAll 8 = .ok (.sipush 200, 3) := by decide +kernel
theorem dX6_readAll_11 : decode cX6_readAll 11 = .ok (.if_icmp .ge 51, 3) := by decide +kernel
theorem dX6_readAll_14 : decode cX6_readAll 14 = .ok (.aload_n 0, 1) := by decide +kernel
theorem dX6_readAll_15 : decode cX6_readAll 15 = .ok (.getfield 77, 3) := by decide +kernel
theorem dX6_readAll_18 : decode cX6_readAll 18 = .ok (.ifCond .ge 44, 3) := by decide +kernel
theorem dX6_readAll_21 : decode cX6_readAll 21 = .ok (.aload_n 0, 1) := by decide +kernel
theorem dX6_readAll_22 : decode cX6_readAll 22 = .ok (.getfield 27, 3) := by decide +kernel
theorem dX6_readAll_25 : decode cX6_readAll 25 = .ok (.aload_n 0, 1) := by decide +kernel
theorem dX6_readAll_26 : decode cX6_readAll 26 = .ok (.getfield 74, 3) := by decide +kernel
theorem dX6_readAll_29 : decode cX6_readAll 29 = .ok (.iaload, 1) := by decide +kernel
theorem dX6_readAll_30 : decode cX6_readAll 30 = .ok (.bipush 11, 2) := by decide +kernel
theorem dX6_readAll_32 : decode cX6_readAll 32 = .ok (.if_icmp .ne 30, 3) := by decide +kernel
theorem dX6_readAll_35 : decode cX6_readAll 35 = .ok (.aload_n 0, 1) := by decide +kernel
theorem dX6_readAll_36 : decode cX6_readAll 36 = .ok (.dup, 1) := by decide +kernel
theorem dX6_readAll_37 : decode cX6_readAll 37 = .ok (.getfield 74, 3) := by decide +kernel
theorem dX6_readAll_40 : decode cX6_readAll 40 = .ok (.iconst 1, 1) := by decide +kernel
theorem dX6_readAll_41 : decode cX6_readAll 41 = .ok (.iadd, 1) := by decide +kernel
theorem dX6_readAll_42 : decode cX6_readAll 42 = .ok (.putfield 74, 3) := by decide +kernel
theorem dX6_readAll_45 : decode cX6_readAll 45 = .ok (.aload_n 0, 1) := by decide +kernel
theorem dX6_readAll_46 : decode cX6_readAll 46 = .ok (.iload_n 1, 1) := by decide +kernel
theorem dX6_readAll_47 : decode cX6_readAll 47 = .ok (.invokevirtual 97, 3) := by decide +kernel
theorem dX6_readAll_50 : decode cX6_readAll 50 = .ok (.aload_n 0, 1) := by decide +kernel
theorem dX6_readAll_51 : decode cX6_readAll 51 = .ok (.bipush (-2), 2) := by decide +kernel
theorem dX6_readAll_53 : decode cX6_readAll 53 = .ok (.invokevirtual 94, 3) := by decide +kernel
theorem dX6_readAll_56 : decode cX6_readAll 56 = .ok (.iinc 2 1, 3) := by decide +kernel
theorem dX6_readAll_59 : decode cX6_readAll 59 = .ok (.goto (-52), 3) := by decide +kernel
theorem dX6_readAll_62 : decode cX6_readAll 62 = .ok (.return_, 1) := by decide +kernel
theorem dX6_readOne_0 : decode cX6_readOne 0 = .ok (.iconst 0, 1) := by decide +kernel
theorem dX6_readOne_1 : decode cX6_readOne 1 = .ok (.istore_n 2, 1) := by decide +kernel
theorem dX6_readOne_2 : decode cX6_readOne 2 = .ok (.iconst 0, 1) := by decide +kernel
theorem dX6_readOne_3 : decode cX6_readOne 3 = .ok (.istore_n 3, 1) := by decide +kernel
theorem dX6_readOne_4 : decode cX6_readOne 4 = .ok (.iload_n 3, 1) := by decide +kernel
theorem dX6_readOne_5 : decode cX6_readOne 5 = .ok (.sipush 200, 3) := by decide +kernel
theorem dX6_readOne_8 : decode cX6_readOne 8 = .ok (.if_icmp .ge 50, 3) := by decide +kernel
theorem dX6_readOne_11 : decode cX6_readOne 11 = .ok (.aload_n 0, 1) := by decide +kernel
theorem dX6_readOne_12 : decode cX6_readOne 12 = .ok (.getfield 77, 3) := by decide +kernel
theorem dX6_readOne_15 : decode cX6_readOne 15 = .ok (.ifCond .ge 43, 3) := by decide +kernel
theorem dX6_readOne_18 : decode cX6_readOne 18 = .ok (.aload_n 0, 1) := by decide +kernel
theorem dX6_readOne_19 : decode cX6_readOne 19 = .ok (.getfield 27, 3) := by decide +kernel
theorem dX6_readOne_22 : decode cX6_readOne 22 = .ok (.aload_n 0, 1) := by decide +kernel
theorem dX6_readOne_23 : decode cX6_readOne 23 = .ok (.getfield 74, 3) := by decide +kernel
theorem dX6_readOne_26 : decode cX6_readOne 26 = .ok (.iaload, 1) := by decide +kernel
theorem dX6_readOne_27 : decode cX6_readOne 27 = .ok (.bipush 12, 2) := by decide +kernel
theorem dX6_readOne_29 : decode cX6_readOne 29 = .ok (.if_icmp .ne 29, 3) := by decide +kernel
theorem dX6_readOne_32 : decode cX6_readOne 32 = .ok (.aload_n 0, 1) := by decide +kernel
theorem dX6_readOne_33 : decode cX6_readOne 33 = .ok (.dup, 1) := by decide +kernel
theorem dX6_readOne_34 : decode cX6_readOne 34 = .ok (.getfield 74, 3) := by decide +kernel
theorem dX6_readOne_37 : decode cX6_readOne 37 = .ok (.iconst 1, 1) := by decide +kernel
theorem dX6_readOne_38 : decode cX6_readOne 38 = .ok (.iadd, 1) := by decide +kernel
theorem dX6_readOne_39 : decode cX6_readOne 39 = .ok (.putfield 74, 3) := by decide +kernel
theorem dX6_readOne_42 : decode cX6_readOne 42 = .ok (.iload_n 2, 1) := by decide +kernel
theorem dX6_readOne_43 : decode cX6_readOne 43 = .ok (.ifCond .ne 7, 3) := by decide +kernel
theorem dX6_readOne_46 : decode cX6_readOne 46 = .ok (.iconst 1, 1) := by decide +kernel
theorem dX6_readOne_47 : decode cX6_readOne 47 = .ok (.goto 4, 3) := by decide +kernel
theorem dX6_readOne_50 : decode cX6_readOne 50 = .ok (.iconst 0, 1) := by decide +kernel
theorem dX6_readOne_51 : decode cX6_readOne 51 = .ok (.istore_n 2, 1) := by decide +kernel
theorem dX6_readOne_52 : decode cX6_readOne 52 = .ok (.iinc 3 1, 3) := by decide +kernel
theorem dX6_readOne_55 : decode cX6_readOne 55 = .ok (.goto (-51), 3) := by decide +kernel
theorem dX6_readOne_58 : decode cX6_readOne 58 = .ok (.aload_n 0, 1) := by decide +kernel
theorem dX6_readOne_59 : decode cX6_readOne 59 = .ok (.getfield 27, 3) := by decide +kernel
theorem dX6_readOne_62 : decode cX6_readOne 62 = .ok (.aload_n 0, 1) := by decide +kernel
theorem dX6_readOne_63 : decode cX6_readOne 63 = .ok (.getfield 74, 3) := by decide +kernel
theorem dX6_readOne_66 : decode cX6_readOne 66 = .ok (.iaload, 1) := by decide +kernel
theorem dX6_readOne_67 : decode cX6_readOne 67 = .ok (.bipush 18, 2) := by decide +kernel
theorem dX6_readOne_69 : decode cX6_readOne 69 = .ok (.if_icmp .eq 47, 3) := by decide +kernel
theorem dX6_readOne_72 : decode cX6_readOne 72 = .ok (.aload_n 0, 1) := by decide +kernel
theorem dX6_readOne_73 : decode cX6_readOne 73 = .ok (.invokevirtual 100, 3) := by decide +kernel
theorem dX6_readOne_76 : decode cX6_readOne 76 = .ok (.istore_n 3, 1) := by decide +kernel
theorem dX6_readOne_77 : decode cX6_readOne 77 = .ok (.aload_n 0, 1) := by decide +kernel
theorem dX6_readOne_78 : decode cX6_readOne 78 = .ok (.bipush 21, 2) := by decide +kernel
theorem dX6_readOne_80 : decode cX6_readOne 80 = .ok (.bipush 23, 2) := by decide +kernel
theorem dX6_readOne_82 : decode cX6_readOne 82 = .ok (.invokevirtual 87, 3) := by decide +kernel
theorem dX6_readOne_85 : decode cX6_readOne 85 = .ok (.bipush 21, 2) := by decide +kernel
theorem dX6_readOne_87 : decode cX6_readOne 87 = .ok (.isub, 1) := by decide +kernel
theorem dX6_readOne_88 : decode cX6_readOne 88 = .ok (.istore 4, 2) := by decide +kernel
theorem dX6_readOne_90 : decode cX6_readOne 90 = .ok (.aload_n 0, 1) := by decide +kernel
theorem dX6_readOne_91 : decode cX6_readOne 91 = .ok (.invokevirtual 100, 3) := by decide +kernel
theorem dX6_readOne_94 : decode cX6_readOne 94 = .ok (.istore 5, 2) := by decide +kernel
theorem dX6_readOne_96 : decode cX6_readOne 96 = .ok (.aload_n 0, 1) := by decide +kernel
theorem dX6_readOne_97 : decode cX6_readOne 97 = .ok (.iload 4, 2) := by decide +kernel
theorem dX6_readOne_99 : decode cX6_readOne 99 = .ok (.bipush 28, 2) := by decide +kernel
theorem dX6_readOne_101 : decode cX6_readOne 101 = .ok (.ishl, 1) := by decide +kernel
theorem dX6_readOne_102 : decode cX6_readOne 102 = .ok (.iload_n 3, 1) := by decide +kernel
theorem dX6_readOne_103 : decode cX6_readOne 103 = .ok (.bipush 14, 2) := by decide +kernel
theorem dX6_readOne_105 : decode cX6_readOne 105 = .ok (.ishl, 1) := by decide +kernel
theorem dX6_readOne_106 : decode cX6_readOne 106 = .ok (.ior, 1) := by decide +kernel
theorem dX6_readOne_107 : decode cX6_readOne 107 = .ok (.iload 5, 2) := by decide +kernel
theorem dX6_readOne_109 : decode cX6_readOne 109 = .ok (.ior, 1) := by decide +kernel
theorem dX6_readOne_110 : decode cX6_readOne 110 = .ok (.invokevirtual 94, 3) := by decide +kernel
theorem dX6_readOne_113 : decode cX6_readOne 113 = .ok (.goto 57, 3) := by decide +kernel
theorem dX6_readOne_116 : decode cX6_readOne 116 = .ok (.iload_n 1, 1) := by decide +kernel
theorem dX6_readOne_117 : decode cX6_readOne 117 = .ok (.iconst 3, 1) := by decide +kernel
theorem dX6_readOne_118 : decode cX6_readOne 118 = .ok (.if_icmp .lt 26, 3) := by decide +kernel
theorem dX6_readOne_121 : decode cX6_readOne 121 = .ok (.aload_n 0, 1) := by decide +kernel
theorem dX6_readOne_122 : decode cX6_readOne 122 = .ok (.getfield 77, 3) := by decide +kernel
theorem dX6_readOne_125 : decode cX6_readOne 125 = .ok (.ifCond .ge 45, 3) := by decide +kernel
theorem dX6_readOne_128 : decode cX6_readOne 128 = .ok (.aload_n 0, 1) := by decide +kernel
theorem dX6_readOne_129 : decode cX6_readOne 129 = .ok (.aload_n 0, 1) := by decide +kernel
theorem dX6_readOne_130 : decode cX6_readOne 130 = .ok (.getfield 30, 3) := by decide +kernel
theorem dX6_readOne_133 : decode cX6_readOne 133 = .ok (.aload_n 0, 1) := by decide +kernel
theorem dX6_readOne_134 : decode cX6_readOne 134 = .ok (.getfield 74, 3) := by decide +kernel
theorem dX6_readOne_137 : decode cX6_readOne 137 = .ok (.iaload, 1) := by decide +kernel
theorem dX6_readOne_138 : decode cX6_readOne 138 = .ok (.putfield 77, 3) := by decide +kernel
theorem dX6_readOne_141 : decode cX6_readOne 141 = .ok (.goto 29, 3) := by decide +kernel
theorem dX6_readOne_144 : decode cX6_readOne 144 = .ok (.aload_n 0, 1) := by decide +kernel
theorem dX6_readOne_145 : decode cX6_readOne 145 = .ok (.dup, 1) := by decide +kernel
theorem dX6_readOne_146 : decode cX6_readOne 146 = .ok (.getfield 74, 3) := by decide +kernel
theorem dX6_readOne_149 : decode cX6_readOne 149 = .ok (.iconst 1, 1) := by decide +kernel
theorem dX6_readOne_150 : decode cX6_readOne 150 = .ok (.iadd, 1) := by decide +kernel
theorem dX6_readOne_151 : decode cX6_readOne 151 = .ok (.putfield 74, 3) := by decide +kernel
theorem dX6_readOne_154 : decode cX6_readOne 154 = .ok (.aload_n 0, 1) := by decide +kernel
theorem dX6_readOne_155 : decode cX6_readOne 155 = .ok (.iload_n 1, 1) := by decide +kernel
theorem dX6_readOne_156 : decode cX6_readOne 156 = .ok (.iconst 1, 1) := by decide +kernel
theorem dX6_readOne_157 : decode cX6_readOne 157 = .ok (.iadd, 1) := by decide +kernel
theorem dX6_readOne_158 : decode cX6_readOne 158 = .ok (.invokevirtual 83, 3) := by decide +kernel
theorem dX6_readOne_161 : decode cX6_readOne 161 = .ok (.aload_n 0, 1) := by decide +kernel
theorem dX6_readOne_162 : decode cX6_readOne 162 = .ok (.bipush 19, 2) := by decide +kernel
theorem dX6_readOne_164 : decode cX6_readOne 164 = .ok (.bipush 19, 2) := by decide +kernel
theorem dX6_readOne_166 : decode cX6_readOne 166 = .ok (.invokevirtual 87, 3) := by decide +kernel
theorem dX6_readOne_169 : decode cX6_readOne 169 = .ok (.pop, 1) := by decide +kernel
theorem dX6_readOne_170 : decode cX6_readOne 170 = .ok (.iload_n 2, 1) := by decide +kernel
theorem dX6_readOne_171 : decode cX6_readOne 171 = .ok (.ifCond .eq 8, 3) := by decide +kernel
theorem dX6_readOne_174 : decode cX6_readOne 174 = .ok (.aload_n 0, 1) := by decide +kernel
theorem dX6_readOne_175 : decode cX6_readOne 175 = .ok (.iconst (-1), 1) := by decide +kernel
theorem dX6_readOne_176 : decode cX6_readOne 176 = .ok (.invokevirtual 94, 3) := by decide +kernel
theorem dX6_readOne_179 : decode cX6_readOne 179 = .ok (.return_, 1) := by decide +kernel
theorem dX6_readValue_0 : decode cX6_readValue 0 = .ok (.aload_n 0, 1) := by decide +kernel
theorem dX6_readValue_1 : decode cX6_readValue 1 = .ok (.getfield 27, 3) := by decide +kernel
theorem dX6_readValue_4 : decode cX6_readValue 4 = .ok (.aload_n 0, 1) := by decide +kernel
theorem dX6_readValue_5 : decode cX6_readValue 5 = .ok (.getfield 74, 3) := by decide +kernel
theorem dX6_readValue_8 : decode cX6_readValue 8 = .ok (.iaload, 1) := by decide +kernel
theorem dX6_readValue_9 : decode cX6_readValue 9 = .ok (.bipush 100, 2) := by decide +kernel
theorem dX6_readValue_11 : decode cX6_readValue 11 = .ok (.if_icmp .lt 16, 3) := by decide +kernel
theorem dX6_readValue_14 : decode cX6_readValue 14 = .ok (.aload_n 0, 1) := by decide +kernel
theorem dX6_readValue_15 : decode cX6_readValue 15 = .ok (.bipush 100, 2) := by decide +kernel
theorem dX6_readValue_17 : decode cX6_readValue 17 = .ok (.sipush 10099, 3) := by decide +kernel
theorem dX6_readValue_20 : decode cX6_readValue 20 = .ok (.invokevirtual 87, 3) := by decide +kernel
theorem dX6_readValue_23 : decode cX6_readValue 23 = .ok (.bipush 100, 2) := by decide +kernel
theorem dX6_readValue_25 : decode cX6_readValue 25 = .ok (.isub, 1) := by decide +kernel
theorem dX6_readValue_26 : decode cX6_readValue 26 = .ok (.ireturn, 1) := by decide +kernel
theorem dX6_readValue_27 : decode cX6_readValue 27 = .ok (.aload_n 0, 1) := by decide +kernel
theorem dX6_readValue_28 : decode cX6_readValue 28 = .ok (.bipush 13, 2) := by decide +kernel
theorem dX6_readValue_30 : decode cX6_readValue 30 = .ok (.bipush 17, 2) := by decide +kernel
theorem dX6_readValue_32 : decode cX6_readValue 32 = .ok (.invokevirtual 87, 3) := by decide +kernel
theorem dX6_readValue_35 : decode cX6_readValue 35 = .ok (.bipush 13, 2) := by decide +kernel
theorem dX6_readValue_37 : decode cX6_readValue 37 = .ok (.isub, 1) := by decide +kernel
theorem dX6_readValue_38 : decode cX6_readValue 38 = .ok (.sipush 10000, 3) := by decide +kernel
theorem dX6_readValue_41 : decode cX6_readValue 41 = .ok (.iadd, 1) := by decide +kernel
theorem dX6_readValue_42 : decode cX6_readValue 42 = .ok (.ireturn, 1) := by decide +kernel
theorem dX6_expect_0 : decode cX6_expect 0 = .ok (.aload_n 0, 1) := by decide +kernel
theorem dX6_expect_1 : decode cX6_expect 1 = .ok (.getfield 27, 3) := by decide +kernel
theorem dX6_expect_4 : decode cX6_expect 4 = .ok (.aload_n 0, 1) := by decide +kernel
theorem dX6_expect_5 : decode cX6_expect 5 = .ok (.getfield 74, 3) := by decide +kernel
theorem dX6_expect_8 : decode cX6_expect 8 = .ok (.iaload, 1) := by decide +kernel
theorem dX6_expect_9 : decode cX6_expect 9 = .ok (.istore_n 3, 1) := by decide +kernel
theorem dX6_expect_10 : decode cX6_expect 10 = .ok (.aload_n 0, 1) := by decide +kernel
theorem dX6_expect_11 : decode cX6_expect 11 = .ok (.getfield 77, 3) := by decide +kernel
theorem dX6_expect_14 : decode cX6_expect 14 = .ok (.ifCond .lt 5, 3) := by decide +kernel
theorem dX6_expect_17 : decode cX6_expect 17 = .ok (.iload_n 1, 1) := by decide +kernel
theorem dX6_expect_18 : decode cX6_expect 18 = .ok (.ireturn, 1) := by decide +kernel
theorem dX6_expect_19 : decode cX6_expect 19 = .ok (.iload_n 3, 1) := by decide +kernel
theorem dX6_expect_20 : decode cX6_expect 20 = .ok (.iload_n 1, 1) := by decide +kernel
theorem dX6_expect_21 : decode cX6_expect 21 = .ok (.if_icmp .lt 8, 3) := by decide +kernel
theorem dX6_expect_24 : decode cX6_expect 24 = .ok (.iload_n 3, 1) := by decide +kernel
theorem dX6_expect_25 : decode cX6_expect 25 = .ok (.iload_n 2, 1) := by decide +kernel
theorem dX6_expect_26 : decode cX6_expect 26 = .ok (.if_icmp .le 18, 3) := by decide +kernel
theorem dX6_expect_29 : decode cX6_expect 29 = .ok (.aload_n 0, 1) := by decide +kernel
theorem dX6_expect_30 : decode cX6_expect 30 = .ok (.aload_n 0, 1) := by decide +kernel
theorem dX6_expect_31 : decode cX6_expect 31 = .ok (.getfield 30, 3) := by decide +kernel
theorem dX6_expect_34 : decode cX6_expect 34 = .ok (.aload_n 0, 1) := by decide +kernel
theorem dX6_expect_35 : decode cX6_expect 35 = .ok (.getfield 74, 3) := by decide +kernel
theorem dX6_expect_38 : decode cX6_expect 38 = .ok (.iaload, 1) := by decide +kernel
theorem dX6_expect_39 : decode cX6_expect 39 = .ok (.putfield 77, 3) := by decide +kernel
theorem dX6_expect_42 : decode cX6_expect 42 = .ok (.iload_n 1, 1) := by decide +kernel
theorem dX6_expect_43 : decode cX6_expect 43 = .ok (.ireturn, 1) := by decide +kernel
theorem dX6_expect_44 : decode cX6_expect 44 = .ok (.aload_n 0, 1) := by decide +kernel
theorem dX6_expect_45 : decode cX6_expect 45 = .ok (.dup, 1) := by decide +kernel
theorem dX6_expect_46 : decode cX6_expect 46 = .ok (.getfield 74, 3) := by decide +kernel
theorem dX6_expect_49 : decode cX6_expect 49 = .ok (.iconst 1, 1) := by decide +kernel
theorem dX6_expect_50 : decode cX6_expect 50 = .ok (.iadd, 1) := by decide +kernel
theorem dX6_expect_51 : decode cX6_expect 51 = .ok (.putfield 74, 3) := by decide +kernel
theorem dX6_expect_54 : decode cX6_expect 54 = .ok (.iload_n 3, 1) := by decide +kernel
theorem dX6_expect_55 : decode cX6_expect 55 = .ok (.ireturn, 1) := by decide +kernel
theorem dX6_emit_0 : decode cX6_emit 0 = .ok (.aload_n 0, 1) := by decide +kernel
theorem dX6_emit_1 : decode cX6_emit 1 = .ok (.getfield 77, 3) := by decide +kernel
theorem dX6_emit_4 : decode cX6_emit 4 = .ok (.ifCond .ge 13, 3) := by decide +kernel
theorem dX6_emit_7 : decode cX6_emit 7 = .ok (.aload_n 0, 1) := by decide +kernel
theorem dX6_emit_8 : decode cX6_emit 8 = .ok (.getfield 37, 3) := by decide +kernel
theorem dX6_emit_11 : decode cX6_emit 11 = .ok (.sipush 200, 3) := by decide +kernel
theorem dX6_emit_14 : decode cX6_emit 14 = .ok (.if_icmp .lt 4, 3) := by decide +kernel
theorem dX6_emit_17 : decode cX6_emit 17 = .ok (.return_, 1) := by decide +kernel
theorem dX6_emit_18 : decode cX6_emit 18 = .ok (.aload_n 0, 1) := by decide +kernel
theorem dX6_emit_19 : decode cX6_emit 19 = .ok (.getfield 21, 3) := by decide +kernel
theorem dX6_emit_22 : decode cX6_emit 22 = .ok (.aload_n 0, 1) := by decide +kernel
theorem dX6_emit_23 : decode cX6_emit 23 = .ok (.getfield 37, 3) := by decide +kernel
theorem dX6_emit_26 : decode cX6_emit 26 = .ok (.iload_n 1, 1) := by decide +kernel
theorem dX6_emit_27 : decode cX6_emit 27 = .ok (.iastore, 1) := by decide +kernel
theorem dX6_emit_28 : decode cX6_emit 28 = .ok (.aload_n 0, 1) := by decide +kernel
theorem dX6_emit_29 : decode cX6_emit 29 = .ok (.dup, 1) := by decide +kernel
theorem dX6_emit_30 : decode cX6_emit 30 = .ok (.getfield 37, 3) := by decide +kernel
theorem dX6_emit_33 : decode cX6_emit 33 = .ok (.iconst 1, 1) := by decide +kernel
theorem dX6_emit_34 : decode cX6_emit 34 = .ok (.iadd, 1) := by decide +kernel
theorem dX6_emit_35 : decode cX6_emit 35 = .ok (.putfield 37, 3) := by decide +kernel
theorem dX6_emit_38 : decode cX6_emit 38 = .ok (.return_, 1) := by decide +kernel
theorem dX6_part_0 : decode cX6_part 0 = .ok (.iconst 0, 1) := by decide +kernel
theorem dX6_part_1 : decode cX6_part 1 = .ok (.istore_n 3, 1) := by decide +kernel
theorem dX6_part_2 : decode cX6_part 2 = .ok (.iconst 0, 1) := by decide +kernel
theorem dX6_part_3 : decode cX6_part 3 = .ok (.istore 4, 2) := by decide +kernel
theorem dX6_part_5 : decode cX6_part 5 = .ok (.iconst 0, 1) := by decide +kernel
theorem dX6_part_6 : decode cX6_part 6 = .ok (.istore 5, 2) := by decide +kernel
theorem dX6_part_8 : decode cX6_part 8 = .ok (.iload 5, 2) := by decide +kernel
theorem dX6_part_10 : decode cX6_part 10 = .ok (.sipush 200, 3) := by decide +kernel
theorem dX6_part_13 : decode cX6_part 13 = .ok (.if_icmp .ge 62, 3) := by decide +kernel
theorem dX6_part_16 : decode cX6_part 16 = .ok (.iload 4, 2) := by decide +kernel
theorem dX6_part_18 : decode cX6_part 18 = .ok (.iload_n 2, 1) := by decide +kernel
theorem dX6_part_19 : decode cX6_part 19 = .ok (.if_icmp .ge 56, 3) := by decide +kernel
theorem dX6_part_22 : decode cX6_part 22 = .ok (.aload_n 1, 1) := by decide +kernel
theorem dX6_part_23 : decode cX6_part 23 = .ok (.iload 4, 2) := by decide +kernel
theorem dX6_part_25 : decode cX6_part 25 = .ok (.iload_n 2, 1) := by decide +kernel
theorem dX6_part_26 : decode cX6_part 26 = .ok (.invokestatic 104, 3) := by decide +kernel
theorem dX6_part_29 : decode cX6_part 29 = .ok (.istore 6, 2) := by decide +kernel
theorem dX6_part_31 : decode cX6_part 31 = .ok (.aload_n 1, 1) := by decide +kernel
theorem dX6_part_32 : decode cX6_part 32 = .ok (.iload 4, 2) := by decide +kernel
theorem dX6_part_34 : decode cX6_part 34 = .ok (.baload, 1) := by decide +kernel
theorem dX6_part_35 : decode cX6_part 35 = .ok (.bipush 32, 2) := by decide +kernel
theorem dX6_part_37 : decode cX6_part 37 = .ok (.if_icmp .eq 28, 3) := by decide +kernel
theorem dX6_part_40 : decode cX6_part 40 = .ok (.aload_n 0, 1) := by decide +kernel
theorem dX6_part_41 : decode cX6_part 41 = .ok (.getfield 30, 3) := by decide +kernel
theorem dX6_part_44 : decode cX6_part 44 = .ok (.iload_n 3, 1) := by decide +kernel
theorem dX6_part_45 : decode cX6_part 45 = .ok (.iload 4, 2) := by decide +kernel
theorem dX6_part_47 : decode cX6_part 47 = .ok (.iastore, 1) := by decide +kernel
theorem dX6_part_48 : decode cX6_part 48 = .ok (.aload_n 0, 1) := by decide +kernel
theorem dX6_part_49 : decode cX6_part 49 = .ok (.getfield 27, 3) := by decide +kernel
theorem dX6_part_52 : decode cX6_part 52 = .ok (.iload_n 3, 1) := by decide +kernel
theorem dX6_part_53 : decode cX6_part 53 = .ok (.aload_n 1, 1) := by decide +kernel
theorem dX6_part_54 : decode cX6_part 54 = .ok (.iload 4, 2) := by decide +kernel
theorem dX6_part_56 : decode cX6_part 56 = .ok (.iload 6, 2) := by decide +kernel
theorem dX6_part_58 : decode cX6_part 58 = .ok (.invokestatic 108, 3) := by decide +kernel
theorem dX6_part_61 : decode cX6_part 61 = .ok (.iastore, 1) := by decide +kernel
theorem dX6_part_62 : decode cX6_part 62 = .ok (.iinc 3 1, 3) := by decide +kernel
theorem dX6_part_65 : decode cX6_part 65 = .ok (.iload 6, 2) := by decide +kernel
theorem dX6_part_67 : decode cX6_part 67 = .ok (.istore 4, 2) := by decide +kernel
theorem dX6_part_69 : decode cX6_part 69 = .ok (.iinc 5 1, 3) := by decide +kernel
theorem dX6_part_72 : decode cX6_part 72 = .ok (.goto (-64), 3) := by decide +kernel
theorem dX6_part_75 : decode cX6_part 75 = .ok (.aload_n 0, 1) := by decide +kernel
theorem dX6_part_76 : decode cX6_part 76 = .ok (.getfield 30, 3) := by decide +kernel
theorem dX6_part_79 : decode cX6_part 79 = .ok (.iload_n 3, 1) := by decide +kernel
theorem dX6_part_80 : decode cX6_part 80 = .ok (.iload_n 2, 1) := by decide +kernel
theorem dX6_part_81 : decode cX6_part 81 = .ok (.iastore, 1) := by decide +kernel
theorem dX6_part_82 : decode cX6_part 82 = .ok (.aload_n 0, 1) := by decide +kernel
theorem dX6_part_83 : decode cX6_part 83 = .ok (.getfield 27, 3) := by decide +kernel
theorem dX6_part_86 : decode cX6_part 86 = .ok (.iload_n 3, 1) := by decide +kernel
theorem dX6_part_87 : decode cX6_part 87 = .ok (.iconst (-1), 1) := by decide +kernel
theorem dX6_part_88 : decode cX6_part 88 = .ok (.iastore, 1) := by decide +kernel
theorem dX6_part_89 : decode cX6_part 89 = .ok (.return_, 1) := by decide +kernel
theorem dX6_endOf_0 : decode cX6_endOf 0 = .ok (.aload_n 0, 1) := by decide +kernel
theorem dX6_endOf_1 : decode cX6_endOf 1 = .ok (.iload_n 1, 1) := by decide +kernel
theorem dX6_endOf_2 : decode cX6_endOf 2 = .ok (.baload, 1) := by decide +kernel
theorem dX6_endOf_3 : decode cX6_endOf 3 = .ok (.invokestatic 111, 3) := by decide +kernel
theorem dX6_endOf_6 : decode cX6_endOf 6 = .ok (.istore_n 3, 1) := by decide +kernel
theorem dX6_endOf_7 : decode cX6_endOf 7 = .ok (.iload_n 3, 1) := by decide +kernel
theorem dX6_endOf_8 : decode cX6_endOf 8 = .ok (.ifCond .ne 16, 3) := by decide +kernel
theorem dX6_endOf_11 : decode cX6_endOf 11 = .ok (.aload_n 0, 1) := by decide +kernel
theorem dX6_endOf_12 : decode cX6_endOf 12 = .ok (.iload_n 1, 1) := by decide +kernel
theorem dX6_endOf_13 : decode cX6_endOf 13 = .ok (.baload, 1) := by decide +kernel
theorem dX6_endOf_14 : decode cX6_endOf 14 = .ok (.invokestatic 114, 3) := by decide +kernel
theorem dX6_endOf_17 : decode cX6_endOf 17 = .ok (.ifCond .ne 7, 3) := by decide +kernel
theorem dX6_endOf_20 : decode cX6_endOf 20 = .ok (.iload_n 1, 1) := by decide +kernel
theorem dX6_endOf_21 : decode cX6_endOf 21 = .ok (.iconst 1, 1) := by decide +kernel
theorem dX6_endOf_22 : decode cX6_endOf 22 = .ok (.iadd, 1) := by decide +kernel
theorem dX6_endOf_23 : decode cX6_endOf 23 = .ok (.ireturn, 1) := by decide +kernel
theorem dX6_endOf_24 : decode cX6_endOf 24 = .ok (.iload_n 1, 1) := by decide +kernel
theorem dX6_endOf_25 : decode cX6_endOf 25 = .ok (.iconst 1, 1) := by decide +kernel
theorem dX6_endOf_26 : decode cX6_endOf 26 = .ok (.iadd, 1) := by decide +kernel
theorem dX6_endOf_27 : decode cX6_endOf 27 = .ok (.istore 4, 2) := by decide +kernel
theorem dX6_endOf_29 : decode cX6_endOf 29 = .ok (.iload 4, 2) := by decide +kernel
theorem dX6_endOf_31 : decode cX6_endOf 31 = .ok (.iload_n 2, 1) := by decide +kernel
theorem dX6_endOf_32 : decode cX6_endOf 32 = .ok (.if_icmp .ge 36, 3) := by decide +kernel
theorem dX6_endOf_35 : decode cX6_endOf 35 = .ok (.iload_n 3, 1) := by decide +kernel
theorem dX6_endOf_36 : decode cX6_endOf 36 = .ok (.ifCond .eq 16, 3) := by decide +kernel
theorem dX6_endOf_39 : decode cX6_endOf 39 = .ok (.aload_n 0, 1) := by decide +kernel
theorem dX6_endOf_40 : decode cX6_endOf 40 = .ok (.iload 4, 2) := by decide +kernel
theorem dX6_endOf_42 : decode cX6_endOf 42 = .ok (.baload, 1) := by decide +kernel
theorem dX6_endOf_43 : decode cX6_endOf 43 = .ok (.invokestatic 111, 3) := by decide +kernel
theorem dX6_endOf_46 : decode cX6_endOf 46 = .ok (.ifCond .eq 22, 3) := by decide +kernel
theorem dX6_endOf_49 : decode cX6_endOf 49 = .ok (.goto 13, 3) := by decide +kernel
theorem dX6_endOf_52 : decode cX6_endOf 52 = .ok (.aload_n 0, 1) := by decide +kernel
theorem dX6_endOf_53 : decode cX6_endOf 53 = .ok (.iload 4, 2) := by decide +kernel
theorem dX6_endOf_55 : decode cX6_endOf 55 = .ok (.baload, 1) := by decide +kernel
theorem dX6_endOf_56 : decode cX6_endOf 56 = .ok (.invokestatic 114, 3) := by decide +kernel
theorem dX6_endOf_59 : decode cX6_endOf 59 = .ok (.ifCond .eq 9, 3) := by decide +kernel
theorem dX6_endOf_62 : decode cX6_endOf 62 = .ok (.iinc 4 1, 3) := by decide +kernel
theorem dX6_endOf_65 : decode cX6_endOf 65 = .ok (.goto (-36), 3) := by decide +kernel
theorem dX6_endOf_68 : decode cX6_endOf 68 = .ok (.iload 4, 2) := by decide +kernel
theorem dX6_endOf_70 : decode cX6_endOf 70 = .ok (.ireturn, 1) := by decide +kernel
theorem dX6_isLetter_0 : decode cX6_isLetter 0 = .ok (.iload_n 0, 1) := by decide +kernel
theorem dX6_isLetter_1 : decode cX6_isLetter 1 = .ok (.bipush 97, 2) := by decide +kernel
theorem dX6_isLetter_3 : decode cX6_isLetter 3 = .ok (.if_icmp .lt 13, 3) := by decide +kernel
theorem dX6_isLetter_6 : decode cX6_isLetter 6 = .ok (.iload_n 0, 1) := by decide +kernel
theorem dX6_isLetter_7 : decode cX6_isLetter 7 = .ok (.bipush 122, 2) := by decide +kernel
theorem dX6_isLetter_9 : decode cX6_isLetter 9 = .ok (.if_icmp .gt 7, 3) := by decide +kernel
theorem dX6_isLetter_12 : decode cX6_isLetter 12 = .ok (.iconst 1, 1) := by decide +kernel
theorem dX6_isLetter_13 : decode cX6_isLetter 13 = .ok (.goto 4, 3) := by decide +kernel
theorem dX6_isLetter_16 : decode cX6_isLetter 16 = .ok (.iconst 0, 1) := by decide +kernel
theorem dX6_isLetter_17 : decode cX6_isLetter 17 = .ok (.ireturn, 1) := by decide +kernel
theorem dX6_isDigit_0 : decode cX6_isDigit 0 = .ok (.iload_n 0, 1) := by decide +kernel
theorem dX6_isDigit_1 : decode cX6_isDigit 1 = .ok (.bipush 48, 2) := by decide +kernel
theorem dX6_isDigit_3 : decode cX6_isDigit 3 = .ok (.if_icmp .lt 13, 3) := by decide +kernel
theorem dX6_isDigit_6 : decode cX6_isDigit 6 = .ok (.iload_n 0, 1) := by decide +kernel
theorem dX6_isDigit_7 : decode cX6_isDigit 7 = .ok (.bipush 57, 2) := by decide +kernel
theorem dX6_isDigit_9 : decode cX6_isDigit 9 = .ok (.if_icmp .gt 7, 3) := by decide +kernel
theorem dX6_isDigit_12 : decode cX6_isDigit 12 = .ok (.iconst 1, 1) := by decide +kernel
theorem dX6_isDigit_13 : decode cX6_isDigit 13 = .ok (.goto 4, 3) := by decide +kernel
theorem dX6_isDigit_16 : decode cX6_isDigit 16 = .ok (.iconst 0, 1) := by decide +kernel
theorem dX6_isDigit_17 : decode cX6_isDigit 17 = .ok (.ireturn, 1) := by decide +kernel
theorem dX6_tokenOf_0 : decode cX6_tokenOf 0 = .ok (.aload_n 0, 1) := by decide +kernel
theorem dX6_tokenOf_1 : decode cX6_tokenOf 1 = .ok (.iload_n 1, 1) := by decide +kernel
theorem dX6_tokenOf_2 : decode cX6_tokenOf 2 = .ok (.baload, 1) := by decide +kernel
theorem dX6_tokenOf_3 : decode cX6_tokenOf 3 = .ok (.invokestatic 114, 3) := by decide +kernel
theorem dX6_tokenOf_6 : decode cX6_tokenOf 6 = .ok (.ifCond .ne 10, 3) := by decide +kernel
theorem dX6_tokenOf_9 : decode cX6_tokenOf 9 = .ok (.aload_n 0, 1) := by decide +kernel
theorem dX6_tokenOf_10 : decode cX6_tokenOf 10 = .ok (.iload_n 1, 1) := by decide +kernel
theorem dX6_tokenOf_11 : decode cX6_tokenOf 11 = .ok (.iload_n 2, 1) := by decide +kernel
theorem dX6_tokenOf_12 : decode cX6_tokenOf 12 = .ok (.invokestatic 117, 3) := by decide +kernel
theorem dX6_tokenOf_15 : decode cX6_tokenOf 15 = .ok (.ireturn, 1) := by decide +kernel
theorem dX6_tokenOf_16 : decode cX6_tokenOf 16 = .ok (.iload_n 2, 1) := by decide +kernel
theorem dX6_tokenOf_17 : decode cX6_tokenOf 17 = .ok (.iload_n 1, 1) := by decide +kernel
theorem dX6_tokenOf_18 : decode cX6_tokenOf 18 = .ok (.isub, 1) := by decide +kernel
theorem dX6_tokenOf_19 : decode cX6_tokenOf 19 = .ok (.iconst 4, 1) := by decide +kernel
theorem dX6_tokenOf_20 : decode cX6_tokenOf 20 = .ok (.if_icmp .le 6, 3) := by decide +kernel
theorem dX6_tokenOf_23 : decode cX6_tokenOf 23 = .ok (.bipush (-2), 2) := by decide +kernel
theorem dX6_tokenOf_25 : decode cX6_tokenOf 25 = .ok (.ireturn, 1) := by decide +kernel
theorem dX6_tokenOf_26 : decode cX6_tokenOf 26 = .ok (.iconst 0, 1) := by decide +kernel
theorem dX6_tokenOf_27 : decode cX6_tokenOf 27 = .ok (.istore_n 3, 1) := by decide +kernel
theorem dX6_tokenOf_28 : decode cX6_tokenOf 28 = .ok (.iload_n 1, 1) := by decide +kernel
theorem dX6_tokenOf_29 : decode cX6_tokenOf 29 = .ok (.istore 4, 2) := by decide +kernel
theorem dX6_tokenOf_31 : decode cX6_tokenOf 31 = .ok (.iload 4, 2) := by decide +kernel
theorem dX6_tokenOf_33 : decode cX6_tokenOf 33 = .ok (.iload_n 2, 1) := by decide +kernel
theorem dX6_tokenOf_34 : decode cX6_tokenOf 34 = .ok (.if_icmp .ge 22, 3) := by decide +kernel
theorem dX6_tokenOf_37 : decode cX6_tokenOf 37 = .ok (.iload_n 3, 1) := by decide +kernel
theorem dX6_tokenOf_38 : decode cX6_tokenOf 38 = .ok (.bipush 10, 2) := by decide +kernel
theorem dX6_tokenOf_40 : decode cX6_tokenOf 40 = .ok (.imul, 1) := by decide +kernel
theorem dX6_tokenOf_41 : decode cX6_tokenOf 41 = .ok (.aload_n 0, 1) := by decide +kernel
theorem dX6_tokenOf_42 : decode cX6_tokenOf 42 = .ok (.iload 4, 2) := by decide +kernel
theorem dX6_tokenOf_44 : decode cX6_tokenOf 44 = .ok (.baload, 1) := by decide +kernel
theorem dX6_tokenOf_45 : decode cX6_tokenOf 45 = .ok (.iadd, 1) := by decide +kernel
theorem dX6_tokenOf_46 : decode cX6_tokenOf 46 = .ok (.bipush 48, 2) := by decide +kernel
theorem dX6_tokenOf_48 : decode cX6_tokenOf 48 = .ok (.isub, 1) := by decide +kernel
theorem dX6_tokenOf_49 : decode cX6_tokenOf 49 = .ok (.istore_n 3, 1) := by decide +kernel
theorem dX6_tokenOf_50 : decode cX6_tokenOf 50 = .ok (.iinc 4 1, 3) := by decide +kernel
theorem dX6_tokenOf_53 : decode cX6_tokenOf 53 = .ok (.goto (-22), 3) := by decide +kernel
theorem dX6_tokenOf_56 : decode cX6_tokenOf 56 = .ok (.bipush 100, 2) := by decide +kernel
theorem dX6_tokenOf_58 : decode cX6_tokenOf 58 = .ok (.iload_n 3, 1) := by decide +kernel
theorem dX6_tokenOf_59 : decode cX6_tokenOf 59 = .ok (.iadd, 1) := by decide +kernel
theorem dX6_tokenOf_60 : decode cX6_tokenOf 60 = .ok (.ireturn, 1) := by decide +kernel
theorem dX6_wordOf_0 : decode cX6_wordOf 0 = .ok (.iconst 0, 1) := by decide +kernel
theorem dX6_wordOf_1 : decode cX6_wordOf 1 = .ok (.istore_n 3, 1) := by decide +kernel
theorem dX6_wordOf_2 : decode cX6_wordOf 2 = .ok (.iconst 0, 1) := by decide +kernel
theorem dX6_wordOf_3 : decode cX6_wordOf 3 = .ok (.istore 4, 2) := by decide +kernel
theorem dX6_wordOf_5 : decode cX6_wordOf 5 = .ok (.iconst 0, 1) := by decide +kernel
theorem dX6_wordOf_6 : decode cX6_wordOf 6 = .ok (.istore 5, 2) := by decide +kernel
theorem dX6_wordOf_8 : decode cX6_wordOf 8 = .ok (.iload 5, 2) := by decide +kernel
theorem dX6_wordOf_10 : decode cX6_wordOf 10 = .ok (.ldc 120, 2) := by decide +kernel
theorem dX6_wordOf_12 : decode cX6_wordOf 12 = .ok (.invokevirtual 122, 3) := by decide +kernel
theorem dX6_wordOf_15 : decode cX6_wordOf 15 = .ok (.if_icmp .ge 57, 3) := by decide +kernel
theorem dX6_wordOf_18 : decode cX6_wordOf 18 = .ok (.ldc 120, 2) := by decide +kernel
theorem dX6_wordOf_20 : decode cX6_wordOf 20 = .ok (.iload 5, 2) := by decide +kernel
theorem dX6_wordOf_22 : decode cX6_wordOf 22 = .ok (.invokevirtual 127, 3) := by decide +kernel
theorem dX6_wordOf_25 : decode cX6_wordOf 25 = .ok (.bipush 32, 2) := by decide +kernel
theorem dX6_wordOf_27 : decode cX6_wordOf 27 = .ok (.if_icmp .eq 6, 3) := by decide +kernel
theorem dX6_wordOf_30 : decode cX6_wordOf 30 = .ok (.goto 36, 3) := by decide +kernel
theorem dX6_wordOf_33 : decode cX6_wordOf 33 = .ok (.iload 5, 2) := by decide +kernel
theorem dX6_wordOf_35 : decode cX6_wordOf 35 = .ok (.iload 4, 2) := by decide +kernel
theorem dX6_wordOf_37 : decode cX6_wordOf 37 = .ok (.isub, 1) := by decide +kernel
theorem dX6_wordOf_38 : decode cX6_wordOf 38 = .ok (.iload_n 2, 1) := by decide +kernel
theorem dX6_wordOf_39 : decode cX6_wordOf 39 = .ok (.iload_n 1, 1) := by decide +kernel
theorem dX6_wordOf_40 : decode cX6_wordOf 40 = .ok (.isub, 1) := by decide +kernel
theorem dX6_wordOf_41 : decode cX6_wordOf 41 = .ok (.if_icmp .ne 16, 3) := by decide +kernel
theorem dX6_wordOf_44 : decode cX6_wordOf 44 = .ok (.iload 4, 2) := by decide +kernel
theorem dX6_wordOf_46 : decode cX6_wordOf 46 = .ok (.aload_n 0, 1) := by decide +kernel
theorem dX6_wordOf_47 : decode cX6_wordOf 47 = .ok (.iload_n 1, 1) := by decide +kernel
theorem dX6_wordOf_48 : decode cX6_wordOf 48 = .ok (.iload_n 2, 1) := by decide +kernel
theorem dX6_wordOf_49 : decode cX6_wordOf 49 = .ok (.invokestatic 131, 3) := by decide +kernel
theorem dX6_wordOf_52 : decode cX6_wordOf 52 = .ok (.ifCond .eq 5, 3) := by decide +kernel
theorem dX6_wordOf_55 : decode cX6_wordOf 55 = .ok (.iload_n 3, 1) := by decide +kernel
theorem dX6_wordOf_56 : decode cX6_wordOf 56 = .ok (.ireturn, 1) := by decide +kernel
theorem dX6_wordOf_57 : decode cX6_wordOf 57 = .ok (.iinc 3 1, 3) := by decide +kernel
theorem dX6_wordOf_60 : decode cX6_wordOf 60 = .ok (.iload 5, 2) := by decide +kernel
theorem dX6_wordOf_62 : decode cX6_wordOf 62 = .ok (.iconst 1, 1) := by decide +kernel
theorem dX6_wordOf_63 : decode cX6_wordOf 63 = .ok (.iadd, 1) := by decide +kernel
theorem dX6_wordOf_64 : decode cX6_wordOf 64 = .ok (.istore 4, 2) := by decide +kernel
theorem dX6_wordOf_66 : decode cX6_wordOf 66 = .ok (.iinc 5 1, 3) := by decide +kernel
theorem dX6_wordOf_69 : decode cX6_wordOf 69 = .ok (.goto (-61), 3) := by decide +kernel
theorem dX6_wordOf_72 : decode cX6_wordOf 72 = .ok (.bipush (-2), 2) := by decide +kernel
theorem dX6_wordOf_74 : decode cX6_wordOf 74 = .ok (.ireturn, 1) := by decide +kernel
theorem dX6_isWordAt_0 : decode cX6_isWordAt 0 = .ok (.iload_n 2, 1) := by decide +kernel
theorem dX6_isWordAt_1 : decode cX6_isWordAt 1 = .ok (.istore 4, 2) := by decide +kernel
theorem dX6_isWordAt_3 : decode cX6_isWordAt 3 = .ok (.iload 4, 2) := by decide +kernel
theorem dX6_isWordAt_5 : decode cX6_isWordAt 5 = .ok (.iload_n 3, 1) := by decide +kernel
theorem dX6_isWordAt_6 : decode cX6_isWordAt 6 = .ok (.if_icmp .ge 29, 3) := by decide +kernel
theorem dX6_isWordAt_9 : decode cX6_isWordAt 9 = .ok (.ldc 120, 2) := by decide +kernel
theorem dX6_isWordAt_11 : decode cX6_isWordAt 11 = .ok (.iload_n 0, 1) := by decide +kernel
theorem dX6_isWordAt_12 : decode cX6_isWordAt 12 = .ok (.iload 4, 2) := by decide +kernel
theorem dX6_isWordAt_14 : decode cX6_isWordAt 14 = .ok (.iadd, 1) := by decide +kernel
theorem dX6_isWordAt_15 : decode cX6_isWordAt 15 = .ok (.iload_n 2, 1) := by decide +kernel
theorem dX6_isWordAt_16 : decode cX6_isWordAt 16 = .ok (.isub, 1) := by decide +kernel
theorem dX6_isWordAt_17 : decode cX6_isWordAt 17 = .ok (.invokevirtual 127, 3) := by decide +kernel
theorem dX6_isWordAt_20 : decode cX6_isWordAt 20 = .ok (.aload_n 1, 1) := by decide +kernel
theorem dX6_isWordAt_21 : decode cX6_isWordAt 21 = .ok (.iload 4, 2) := by decide +kernel
theorem dX6_isWordAt_23 : decode cX6_isWordAt 23 = .ok (.baload, 1) := by decide +kernel
theorem dX6_isWordAt_24 : decode cX6_isWordAt 24 = .ok (.if_icmp .eq 5, 3) := by decide +kernel
theorem dX6_isWordAt_27 : decode cX6_isWordAt 27 = .ok (.iconst 0, 1) := by decide +kernel
theorem dX6_isWordAt_28 : decode cX6_isWordAt 28 = .ok (.ireturn, 1) := by decide +kernel
theorem dX6_isWordAt_29 : decode cX6_isWordAt 29 = .ok (.iinc 4 1, 3) := by decide +kernel
theorem dX6_isWordAt_32 : decode cX6_isWordAt 32 = .ok (.goto (-29), 3) := by decide +kernel
theorem dX6_isWordAt_35 : decode cX6_isWordAt 35 = .ok (.iconst 1, 1) := by decide +kernel
theorem dX6_isWordAt_36 : decode cX6_isWordAt 36 = .ok (.ireturn, 1) := by decide +kernel
theorem dJ0_length_8abf5_0 : decode cJ0_length_8abf5 0 = .ok (.aload_n 0, 1) := by decide +kernel
theorem dJ0_length_8abf5_1 : decode cJ0_length_8abf5 1 = .ok (.getfield 9, 3) := by decide +kernel
theorem dJ0_length_8abf5_4 : decode cJ0_length_8abf5 4 = .ok (.arraylength, 1) := by decide +kernel
theorem dJ0_length_8abf5_5 : decode cJ0_length_8abf5 5 = .ok (.aload_n 0, 1) := by decide +kernel
theorem dJ0_length_8abf5_6 : decode cJ0_length_8abf5 6 = .ok (.invokevirtual 335, 3) := by decide +kernel
theorem dJ0_length_8abf5_9 : decode cJ0_length_8abf5 9 = .ok (.ishr, 1) := by decide +kernel
theorem dJ0_length_8abf5_10 : decode cJ0_length_8abf5 10 = .ok (.ireturn, 1) := by decide +kernel
theorem dJ0_charAt_5068e_0 : decode cJ0_charAt_5068e 0 = .ok (.aload_n 0, 1) := by decide +kernel
theorem dJ0_charAt_5068e_1 : decode cJ0_charAt_5068e 1 = .ok (.invokevirtual 492, 3) := by decide +kernel
theorem dJ0_charAt_5068e_4 : decode cJ0_charAt_5068e 4 = .ok (.ifCond .eq 12, 3) := by decide +kernel
theorem dJ0_charAt_5068e_7 : decode cJ0_charAt_5068e 7 = .ok (.aload_n 0, 1) := by decide +kernel
theorem dJ0_charAt_5068e_8 : decode cJ0_charAt_5068e 8 = .ok (.getfield 9, 3) := by decide +kernel
theorem dJ0_charAt_5068e_11 : decode cJ0_charAt_5068e 11 = .ok (.iload_n 1, 1) := by decide +kernel
theorem dJ0_charAt_5068e_12 : decode cJ0_charAt_5068e 12 = .ok (.invokestatic 495, 3) := by decide +kernel
theorem dJ0_charAt_5068e_15 : decode cJ0_charAt_5068e 15 = .ok (.ireturn, 1) := by decide +kernel
theorem dJ0_charAt_5068e_16 : decode cJ0_charAt_5068e 16 = .ok (.aload_n 0, 1) := by decide +kernel
theorem dJ0_charAt_5068e_17 : decode cJ0_charAt_5068e 17 = .ok (.getfield 9, 3) := by decide +kernel
theorem dJ0_charAt_5068e_20 : decode cJ0_charAt_5068e 20 = .ok (.iload_n 1, 1) := by decide +kernel
theorem dJ0_charAt_5068e_21 : decode cJ0_charAt_5068e 21 = .ok (.invokestatic 498, 3) := by decide +kernel
theorem dJ0_charAt_5068e_24 : decode cJ0_charAt_5068e 24 = .ok (.ireturn, 1) := by decide +kernel
theorem dJ0_coder_7d493_0 : decode cJ0_coder_7d493 0 = .ok (.getstatic 38, 3) := by decide +kernel
theorem dJ0_coder_7d493_3 : decode cJ0_coder_7d493 3 = .ok (.ifCond .eq 10, 3) := by decide +kernel
theorem dJ0_coder_7d493_6 : decode cJ0_coder_7d493 6 = .ok (.aload_n 0, 1) := by decide +kernel
theorem dJ0_coder_7d493_7 : decode cJ0_coder_7d493 7 = .ok (.getfield 15, 3) := by decide +kernel
theorem dJ0_coder_7d493_10 : decode cJ0_coder_7d493 10 = .ok (.goto 4, 3) := by decide +kernel
theorem dJ0_coder_7d493_13 : decode cJ0_coder_7d493 13 = .ok (.iconst 1, 1) := by decide +kernel
theorem dJ0_coder_7d493_14 : decode cJ0_coder_7d493 14 = .ok (.ireturn, 1) := by decide +kernel
theorem dJ0_isLatin1_aae02_0 : decode cJ0_isLatin1_aae02 0 = .ok (.getstatic 38, 3) := by decide +kernel
theorem dJ0_isLatin1_aae02_3 : decode cJ0_isLatin1_aae02 3 = .ok (.ifCond .eq 14, 3) := by decide +kernel
theorem dJ0_isLatin1_aae02_6 : decode cJ0_isLatin1_aae02 6 = .ok (.aload_n 0, 1) := by decide +kernel
theorem dJ0_isLatin1_aae02_7 : decode cJ0_isLatin1_aae02 7 = .ok (.getfield 15, 3) := by decide +kernel
theorem dJ0_isLatin1_aae02_10 : decode cJ0_isLatin1_aae02 10 = .ok (.ifCond .ne 7, 3) := by decide +kernel
theorem dJ0_isLatin1_aae02_13 : decode cJ0_isLatin1_aae02 13 = .ok (.iconst 1, 1) := by decide +kernel
theorem dJ0_isLatin1_aae02_14 : decode cJ0_isLatin1_aae02 14 = .ok (.goto 4, 3) := by decide +kernel
theorem dJ0_isLatin1_aae02_17 : decode cJ0_isLatin1_aae02 17 = .ok (.iconst 0, 1) := by decide +kernel
theorem dJ0_isLatin1_aae02_18 : decode cJ0_isLatin1_aae02 18 = .ok (.ireturn, 1) := by decide +kernel
theorem dJ0_checkIndex_df160_0 : decode cJ0_checkIndex_df160 0 = .ok (.iload_n 0, 1) := by decide +kernel
theorem dJ0_checkIndex_df160_1 : decode cJ0_checkIndex_df160 1 = .ok (.iload_n 1, 1) := by decide +kernel
theorem dJ0_checkIndex_df160_2 : decode cJ0_checkIndex_df160 2 = .ok (.getstatic 1053, 3) := by decide +kernel
theorem dJ0_checkIndex_df160_5 : decode cJ0_checkIndex_df160 5 = .ok (.invokestatic 1059, 3) := by decide +kernel
theorem dJ0_checkIndex_df160_8 : decode cJ0_checkIndex_df160 8 = .ok (.pop, 1) := by decide +kernel
theorem dJ0_checkIndex_df160_9 : decode cJ0_checkIndex_df160 9 = .ok (.return_, 1) := by decide +kernel
theorem dJ1_charAt_3b067_0 : decode cJ1_charAt_3b067 0 = .ok (.iload_n 1, 1) := by decide +kernel
theorem dJ1_charAt_3b067_1 : decode cJ1_charAt_3b067 1 = .ok (.aload_n 0, 1) := by decide +kernel
theorem dJ1_charAt_3b067_2 : decode cJ1_charAt_3b067 2 = .ok (.arraylength, 1) := by decide +kernel
theorem dJ1_charAt_3b067_3 : decode cJ1_charAt_3b067 3 = .ok (.invokestatic 9, 3) := by decide +kernel
theorem dJ1_charAt_3b067_6 : decode cJ1_charAt_3b067 6 = .ok (.aload_n 0, 1) := by decide +kernel
theorem dJ1_charAt_3b067_7 : decode cJ1_charAt_3b067 7 = .ok (.iload_n 1, 1) := by decide +kernel
theorem dJ1_charAt_3b067_8 : decode cJ1_charAt_3b067 8 = .ok (.baload, 1) := by decide +kernel
theorem dJ1_charAt_3b067_9 : decode cJ1_charAt_3b067 9 = .ok (.sipush 255, 3) := by decide +kernel
theorem dJ1_charAt_3b067_12 : decode cJ1_charAt_3b067 12 = .ok (.iand, 1) := by decide +kernel
theorem dJ1_charAt_3b067_13 : decode cJ1_charAt_3b067 13 = .ok (.i2c, 1) := by decide +kernel
theorem dJ1_charAt_3b067_14 : decode cJ1_charAt_3b067 14 = .ok (.ireturn, 1) := by decide +kernel
theorem dJ2_getChar_3b067_0 : decode cJ2_getChar_3b067 0 = .ok (.getstatic 44, 3) := by decide +kernel
theorem dJ2_getChar_3b067_3 : decode cJ2_getChar_3b067 3 = .ok (.ifCond .ne 25, 3) := by decide +kernel
theorem dJ2_getChar_3b067_6 : decode cJ2_getChar_3b067 6 = .ok (.iload_n 1, 1) := by decide +kernel
theorem dJ2_getChar_3b067_7 : decode cJ2_getChar_3b067 7 = .ok (.ifCond .lt 11, 3) := by decide +kernel
theorem dJ2_getChar_3b067_10 : decode cJ2_getChar_3b067 10 = .ok (.iload_n 1, 1) := by decide +kernel
theorem dJ2_getChar_3b067_11 : decode cJ2_getChar_3b067 11 = .ok (.aload_n 0, 1) := by decide +kernel
theorem dJ2_getChar_3b067_12 : decode cJ2_getChar_3b067 12 = .ok (.invokestatic 48, 3) := by decide +kernel
theorem dJ2_getChar_3b067_15 : decode cJ2_getChar_3b067 15 = .ok (.if_icmp .lt 13, 3) := by decide +kernel
theorem dJ2_getChar_3b067_18 : decode cJ2_getChar_3b067 18 = .ok (.new 52, 3) := by decide +kernel
theorem dJ2_getChar_3b067_21 : decode cJ2_getChar_3b067 21 = .ok (.dup, 1) := by decide +kernel
theorem dJ2_getChar_3b067_22 : decode cJ2_getChar_3b067 22 = .ok (.ldc 54, 2) := by decide +kernel
theorem dJ2_getChar_3b067_24 : decode cJ2_getChar_3b067 24 = .ok (.invokespecial 56, 3) := by decide +kernel
theorem dJ2_getChar_3b067_27 : decode cJ2_getChar_3b067 27 = .ok (.athrow, 1) := by decide +kernel
theorem dJ2_getChar_3b067_28 : decode cJ2_getChar_3b067 28 = .ok (.iload_n 1, 1) := by decide +kernel
theorem dJ2_getChar_3b067_29 : decode cJ2_getChar_3b067 29 = .ok (.iconst 1, 1) := by decide +kernel
theorem dJ2_getChar_3b067_30 : decode cJ2_getChar_3b067 30 = .ok (.ishl, 1) := by decide +kernel
theorem dJ2_getChar_3b067_31 : decode cJ2_getChar_3b067 31 = .ok (.istore_n 1, 1) := by decide +kernel
theorem dJ2_getChar_3b067_32 : decode cJ2_getChar_3b067 32 = .ok (.aload_n 0, 1) := by decide +kernel
theorem dJ2_getChar_3b067_33 : decode cJ2_getChar_3b067 33 = .ok (.iload_n 1, 1) := by decide +kernel
theorem dJ2_getChar_3b067_34 : decode cJ2_getChar_3b067 34 = .ok (.iinc 1 1, 3) := by decide +kernel
theorem dJ2_getChar_3b067_37 : decode cJ2_getChar_3b067 37 = .ok (.baload, 1) := by decide +kernel
theorem dJ2_getChar_3b067_38 : decode cJ2_getChar_3b067 38 = .ok (.sipush 255, 3) := by decide +kernel
theorem dJ2_getChar_3b067_41 : decode cJ2_getChar_3b067 41 = .ok (.iand, 1) := by decide +kernel
theorem dJ2_getChar_3b067_42 : decode cJ2_getChar_3b067 42 = .ok (.getstatic 59, 3) := by decide +kernel
theorem dJ2_getChar_3b067_45 : decode cJ2_getChar_3b067 45 = .ok (.ishl, 1) := by decide +kernel
theorem dJ2_getChar_3b067_46 : decode cJ2_getChar_3b067 46 = .ok (.aload_n 0, 1) := by decide +kernel
theorem dJ2_getChar_3b067_47 : decode cJ2_getChar_3b067 47 = .ok (.iload_n 1, 1) := by decide +kernel
theorem dJ2_getChar_3b067_48 : decode cJ2_getChar_3b067 48 = .ok (.baload, 1) := by decide +kernel
theorem dJ2_getChar_3b067_49 : decode cJ2_getChar_3b067 49 = .ok (.sipush 255, 3) := by decide +kernel
theorem dJ2_getChar_3b067_52 : decode cJ2_getChar_3b067 52 = .ok (.iand, 1) := by decide +kernel
theorem dJ2_getChar_3b067_53 : decode cJ2_getChar_3b067 53 = .ok (.getstatic 63, 3) := by decide +kernel
theorem dJ2_getChar_3b067_56 : decode cJ2_getChar_3b067 56 = .ok (.ishl, 1) := by decide +kernel
theorem dJ2_getChar_3b067_57 : decode cJ2_getChar_3b067 57 = .ok (.ior, 1) := by decide +kernel
theorem dJ2_getChar_3b067_58 : decode cJ2_getChar_3b067 58 = .ok (.i2c, 1) := by decide +kernel
theorem dJ2_getChar_3b067_59 : decode cJ2_getChar_3b067 59 = .ok (.ireturn, 1) := by decide +kernel
theorem dJ2_length_9d52b_0 : decode cJ2_length_9d52b 0 = .ok (.aload_n 0, 1) := by decide +kernel
theorem dJ2_length_9d52b_1 : decode cJ2_length_9d52b 1 = .ok (.arraylength, 1) := by decide +kernel
theorem dJ2_length_9d52b_2 : decode cJ2_length_9d52b 2 = .ok (.iconst 1, 1) := by decide +kernel
theorem dJ2_length_9d52b_3 : decode cJ2_length_9d52b 3 = .ok (.ishr, 1) := by decide +kernel
theorem dJ2_length_9d52b_4 : decode cJ2_length_9d52b 4 = .ok (.ireturn, 1) := by decide +kernel
theorem dJ2_charAt_3b067_0 : decode cJ2_charAt_3b067 0 = .ok (.iload_n 1, 1) := by decide +kernel
theorem dJ2_charAt_3b067_1 : decode cJ2_charAt_3b067 1 = .ok (.aload_n 0, 1) := by decide +kernel
theorem dJ2_charAt_3b067_2 : decode cJ2_charAt_3b067 2 = .ok (.invokestatic 67, 3) := by decide +kernel
theorem dJ2_charAt_3b067_5 : decode cJ2_charAt_3b067 5 = .ok (.aload_n 0, 1) := by decide +kernel
theorem dJ2_charAt_3b067_6 : decode cJ2_charAt_3b067 6 = .ok (.iload_n 1, 1) := by decide +kernel
theorem dJ2_charAt_3b067_7 : decode cJ2_charAt_3b067 7 = .ok (.invokestatic 71, 3) := by decide +kernel
theorem dJ2_charAt_3b067_10 : decode cJ2_charAt_3b067 10 = .ok (.ireturn, 1) := by decide +kernel
theorem dJ2_checkIndex_2214a_0 : decode cJ2_checkIndex_2214a 0 = .ok (.iload_n 0, 1) := by decide +kernel
theorem dJ2_checkIndex_2214a_1 : decode cJ2_checkIndex_2214a 1 = .ok (.aload_n 1, 1) := by decide +kernel
theorem dJ2_checkIndex_2214a_2 : decode cJ2_checkIndex_2214a 2 = .ok (.invokestatic 48, 3) := by decide +kernel
theorem dJ2_checkIndex_2214a_5 : decode cJ2_checkIndex_2214a 5 = .ok (.invokestatic 414, 3) := by decide +kernel
theorem dJ2_checkIndex_2214a_8 : decode cJ2_checkIndex_2214a 8 = .ok (.return_, 1) := by decide +kernel
theorem dJ3_checkIndex_8e157_0 : decode cJ3_checkIndex_8e157 0 = .ok (.iload_n 0, 1) := by decide +kernel
theorem dJ3_checkIndex_8e157_1 : decode cJ3_checkIndex_8e157 1 = .ok (.ifCond .lt 8, 3) := by decide +kernel
theorem dJ3_checkIndex_8e157_4 : decode cJ3_checkIndex_8e157 4 = .ok (.iload_n 0, 1) := by decide +kernel
theorem dJ3_checkIndex_8e157_5 : decode cJ3_checkIndex_8e157 5 = .ok (.iload_n 1, 1) := by decide +kernel
theorem dJ3_checkIndex_8e157_6 : decode cJ3_checkIndex_8e157 6 = .ok (.if_icmp .lt 10, 3) := by decide +kernel
theorem dJ3_checkIndex_8e157_9 : decode cJ3_checkIndex_8e157 9 = .ok (.aload_n 2, 1) := by decide +kernel
theorem dJ3_checkIndex_8e157_10 : decode cJ3_checkIndex_8e157 10 = .ok (.iload_n 0, 1) := by decide +kernel
theorem dJ3_checkIndex_8e157_11 : decode cJ3_checkIndex_8e157 11 = .ok (.iload_n 1, 1) := by decide +kernel
theorem dJ3_checkIndex_8e157_12 : decode cJ3_checkIndex_8e157 12 = .ok (.invokestatic 95, 3) := by decide +kernel
theorem dJ3_checkIndex_8e157_15 : decode cJ3_checkIndex_8e157 15 = .ok (.athrow, 1) := by decide +kernel
theorem dJ3_checkIndex_8e157_16 : decode cJ3_checkIndex_8e157 16 = .ok (.iload_n 0, 1) := by decide +kernel
theorem dJ3_checkIndex_8e157_17 : decode cJ3_checkIndex_8e157 17 = .ok (.ireturn, 1) := by decide +kernel
theorem dJ6_numberOfTrailingZeros_0f7a4_0 : decode cJ6_numberOfTrailingZeros_0f7a4 0 = .ok (.iload_n 0, 1) := by decide +kernel
theorem dJ6_numberOfTrailingZeros_0f7a4_1 : decode cJ6_numberOfTrailingZeros_0f7a4 1 = .ok (.iconst (-1), 1) := by decide +kernel
theorem dJ6_numberOfTrailingZeros_0f7a4_2 : decode cJ6_numberOfTrailingZeros_0f7a4 2 = .ok (.ixor, 1) := by decide +kernel
theorem dJ6_numberOfTrailingZeros_0f7a4_3 : decode cJ6_numberOfTrailingZeros_0f7a4 3 = .ok (.iload_n 0, 1) := by decide +kernel
theorem dJ6_numberOfTrailingZeros_0f7a4_4 : decode cJ6_numberOfTrailingZeros_0f7a4 4 = .ok (.iconst 1, 1) := by decide +kernel
theorem dJ6_numberOfTrailingZeros_0f7a4_5 : decode cJ6_numberOfTrailingZeros_0f7a4 5 = .ok (.isub, 1) := by decide +kernel
theorem dJ6_numberOfTrailingZeros_0f7a4_6 : decode cJ6_numberOfTrailingZeros_0f7a4 6 = .ok (.iand, 1) := by decide +kernel
theorem dJ6_numberOfTrailingZeros_0f7a4_7 : decode cJ6_numberOfTrailingZeros_0f7a4 7 = .ok (.istore_n 0, 1) := by decide +kernel
theorem dJ6_numberOfTrailingZeros_0f7a4_8 : decode cJ6_numberOfTrailingZeros_0f7a4 8 = .ok (.iload_n 0, 1) := by decide +kernel
theorem dJ6_numberOfTrailingZeros_0f7a4_9 : decode cJ6_numberOfTrailingZeros_0f7a4 9 = .ok (.ifCond .gt 8, 3) := by decide +kernel
theorem dJ6_numberOfTrailingZeros_0f7a4_12 : decode cJ6_numberOfTrailingZeros_0f7a4 12 = .ok (.iload_n 0, 1) := by decide +kernel
theorem dJ6_numberOfTrailingZeros_0f7a4_13 : decode cJ6_numberOfTrailingZeros_0f7a4 13 = .ok (.bipush 32, 2) := by decide +kernel
theorem dJ6_numberOfTrailingZeros_0f7a4_15 : decode cJ6_numberOfTrailingZeros_0f7a4 15 = .ok (.iand, 1) := by decide +kernel
theorem dJ6_numberOfTrailingZeros_0f7a4_16 : decode cJ6_numberOfTrailingZeros_0f7a4 16 = .ok (.ireturn, 1) := by decide +kernel
theorem dJ6_numberOfTrailingZeros_0f7a4_17 : decode cJ6_numberOfTrailingZeros_0f7a4 17 = .ok (.iconst 1, 1) := by decide +kernel
theorem dJ6_numberOfTrailingZeros_0f7a4_18 : decode cJ6_numberOfTrailingZeros_0f7a4 18 = .ok (.istore_n 1, 1) := by decide +kernel
theorem dJ6_numberOfTrailingZeros_0f7a4_19 : decode cJ6_numberOfTrailingZeros_0f7a4 19 = .ok (.iload_n 0, 1) := by decide +kernel
theorem dJ6_numberOfTrailingZeros_0f7a4_20 : decode cJ6_numberOfTrailingZeros_0f7a4 20 = .ok (.ldc_w 264, 3) := by decide +kernel
theorem dJ6_numberOfTrailingZeros_0f7a4_23 : decode cJ6_numberOfTrailingZeros_0f7a4 23 = .ok (.if_icmp .le 11, 3) := by decide +kernel
theorem dJ6_numberOfTrailingZeros_0f7a4_26 : decode cJ6_numberOfTrailingZeros_0f7a4 26 = .ok (.iinc 1 16, 3) := by decide +kernel
theorem dJ6_numberOfTrailingZeros_0f7a4_29 : decode cJ6_numberOfTrailingZeros_0f7a4 29 = .ok (.iload_n 0, 1) := by decide +kernel
theorem dJ6_numberOfTrailingZeros_0f7a4_30 : decode cJ6_numberOfTrailingZeros_0f7a4 30 = .ok (.bipush 16, 2) := by decide +kernel
theorem dJ6_numberOfTrailingZeros_0f7a4_32 : decode cJ6_numberOfTrailingZeros_0f7a4 32 = .ok (.iushr, 1) := by decide +kernel
theorem dJ6_numberOfTrailingZeros_0f7a4_33 : decode cJ6_numberOfTrailingZeros_0f7a4 33 = .ok (.istore_n 0, 1) := by decide +kernel
theorem dJ6_numberOfTrailingZeros_0f7a4_34 : decode cJ6_numberOfTrailingZeros_0f7a4 34 = .ok (.iload_n 0, 1) := by decide +kernel
theorem dJ6_numberOfTrailingZeros_0f7a4_35 : decode cJ6_numberOfTrailingZeros_0f7a4 35 = .ok (.sipush 256, 3) := by decide +kernel
theorem dJ6_numberOfTrailingZeros_0f7a4_38 : decode cJ6_numberOfTrailingZeros_0f7a4 38 = .ok (.if_icmp .le 11, 3) := by decide +kernel
theorem dJ6_numberOfTrailingZeros_0f7a4_41 : decode cJ6_numberOfTrailingZeros_0f7a4 41 = .ok (.iinc 1 8, 3) := by decide +kernel
theorem dJ6_numberOfTrailingZeros_0f7a4_44 : decode cJ6_numberOfTrailingZeros_0f7a4 44 = .ok (.iload_n 0, 1) := by decide +kernel
theorem dJ6_numberOfTrailingZeros_0f7a4_45 : decode cJ6_numberOfTrailingZeros_0f7a4 45 = .ok (.bipush 8, 2) := by decide +kernel
theorem dJ6_numberOfTrailingZeros_0f7a4_47 : decode cJ6_numberOfTrailingZeros_0f7a4 47 = .ok (.iushr, 1) := by decide +kernel
theorem dJ6_numberOfTrailingZeros_0f7a4_48 : decode cJ6_numberOfTrailingZeros_0f7a4 48 = .ok (.istore_n 0, 1) := by decide +kernel
theorem dJ6_numberOfTrailingZeros_0f7a4_49 : decode cJ6_numberOfTrailingZeros_0f7a4 49 = .ok (.iload_n 0, 1) := by decide +kernel
theorem dJ6_numberOfTrailingZeros_0f7a4_50 : decode cJ6_numberOfTrailingZeros_0f7a4 50 = .ok (.bipush 16, 2) := by decide +kernel
theorem dJ6_numberOfTrailingZeros_0f7a4_52 : decode cJ6_numberOfTrailingZeros_0f7a4 52 = .ok (.if_icmp .le 10, 3) := by decide +kernel
theorem dJ6_numberOfTrailingZeros_0f7a4_55 : decode cJ6_numberOfTrailingZeros_0f7a4 55 = .ok (.iinc 1 4, 3) := by decide +kernel
theorem dJ6_numberOfTrailingZeros_0f7a4_58 : decode cJ6_numberOfTrailingZeros_0f7a4 58 = .ok (.iload_n 0, 1) := by decide +kernel
theorem dJ6_numberOfTrailingZeros_0f7a4_59 : decode cJ6_numberOfTrailingZeros_0f7a4 59 = .ok (.iconst 4, 1) := by decide +kernel
theorem dJ6_numberOfTrailingZeros_0f7a4_60 : decode cJ6_numberOfTrailingZeros_0f7a4 60 = .ok (.iushr, 1) := by decide +kernel
theorem dJ6_numberOfTrailingZeros_0f7a4_61 : decode cJ6_numberOfTrailingZeros_0f7a4 61 = .ok (.istore_n 0, 1) := by decide +kernel
theorem dJ6_numberOfTrailingZeros_0f7a4_62 : decode cJ6_numberOfTrailingZeros_0f7a4 62 = .ok (.iload_n 0, 1) := by decide +kernel
theorem dJ6_numberOfTrailingZeros_0f7a4_63 : decode cJ6_numberOfTrailingZeros_0f7a4 63 = .ok (.iconst 4, 1) := by decide +kernel
theorem dJ6_numberOfTrailingZeros_0f7a4_64 : decode cJ6_numberOfTrailingZeros_0f7a4 64 = .ok (.if_icmp .le 10, 3) := by decide +kernel
theorem dJ6_numberOfTrailingZeros_0f7a4_67 : decode cJ6_numberOfTrailingZeros_0f7a4 67 = .ok (.iinc 1 2, 3) := by decide +kernel
theorem dJ6_numberOfTrailingZeros_0f7a4_70 : decode cJ6_numberOfTrailingZeros_0f7a4 70 = .ok (.iload_n 0, 1) := by decide +kernel
theorem dJ6_numberOfTrailingZeros_0f7a4_71 : decode cJ6_numberOfTrailingZeros_0f7a4 71 = .ok (.iconst 2, 1) := by decide +kernel
theorem dJ6_numberOfTrailingZeros_0f7a4_72 : decode cJ6_numberOfTrailingZeros_0f7a4 72 = .ok (.iushr, 1) := by decide +kernel
theorem dJ6_numberOfTrailingZeros_0f7a4_73 : decode cJ6_numberOfTrailingZeros_0f7a4 73 = .ok (.istore_n 0, 1) := by decide +kernel
theorem dJ6_numberOfTrailingZeros_0f7a4_74 : decode cJ6_numberOfTrailingZeros_0f7a4 74 = .ok (.iload_n 1, 1) := by decide +kernel
theorem dJ6_numberOfTrailingZeros_0f7a4_75 : decode cJ6_numberOfTrailingZeros_0f7a4 75 = .ok (.iload_n 0, 1) := by decide +kernel
theorem dJ6_numberOfTrailingZeros_0f7a4_76 : decode cJ6_numberOfTrailingZeros_0f7a4 76 = .ok (.iconst 1, 1) := by decide +kernel
theorem dJ6_numberOfTrailingZeros_0f7a4_77 : decode cJ6_numberOfTrailingZeros_0f7a4 77 = .ok (.iushr, 1) := by decide +kernel
theorem dJ6_numberOfTrailingZeros_0f7a4_78 : decode cJ6_numberOfTrailingZeros_0f7a4 78 = .ok (.iadd, 1) := by decide +kernel
theorem dJ6_numberOfTrailingZeros_0f7a4_79 : decode cJ6_numberOfTrailingZeros_0f7a4 79 = .ok (.ireturn, 1) := by decide +kernel
theorem dJ6_bitCount_0f7a4_0 : decode cJ6_bitCount_0f7a4 0 = .ok (.iload_n 0, 1) := by decide +kernel
theorem dJ6_bitCount_0f7a4_1 : decode cJ6_bitCount_0f7a4 1 = .ok (.iload_n 0, 1) := by decide +kernel
theorem dJ6_bitCount_0f7a4_2 : decode cJ6_bitCount_0f7a4 2 = .ok (.iconst 1, 1) := by decide +kernel
theorem dJ6_bitCount_0f7a4_3 : decode cJ6_bitCount_0f7a4 3 = .ok (.iushr, 1) := by decide +kernel
theorem dJ6_bitCount_0f7a4_4 : decode cJ6_bitCount_0f7a4 4 = .ok (.ldc_w 265, 3) := by decide +kernel
theorem dJ6_bitCount_0f7a4_7 : decode cJ6_bitCount_0f7a4 7 = .ok (.iand, 1) := by decide +kernel
theorem dJ6_bitCount_0f7a4_8 : decode cJ6_bitCount_0f7a4 8 = .ok (.isub, 1) := by decide +kernel
theorem dJ6_bitCount_0f7a4_9 : decode cJ6_bitCount_0f7a4 9 = .ok (.istore_n 0, 1) := by decide +kernel
theorem dJ6_bitCount_0f7a4_10 : decode cJ6_bitCount_0f7a4 10 = .ok (.iload_n 0, 1) := by decide +kernel
theorem dJ6_bitCount_0f7a4_11 : decode cJ6_bitCount_0f7a4 11 = .ok (.ldc_w 266, 3) := by decide +kernel
theorem dJ6_bitCount_0f7a4_14 : decode cJ6_bitCount_0f7a4 14 = .ok (.iand, 1) := by decide +kernel
theorem dJ6_bitCount_0f7a4_15 : decode cJ6_bitCount_0f7a4 15 = .ok (.iload_n 0, 1) := by decide +kernel
theorem dJ6_bitCount_0f7a4_16 : decode cJ6_bitCount_0f7a4 16 = .ok (.iconst 2, 1) := by decide +kernel
theorem dJ6_bitCount_0f7a4_17 : decode cJ6_bitCount_0f7a4 17 = .ok (.iushr, 1) := by decide +kernel
theorem dJ6_bitCount_0f7a4_18 : decode cJ6_bitCount_0f7a4 18 = .ok (.ldc_w 266, 3) := by decide +kernel
theorem dJ6_bitCount_0f7a4_21 : decode cJ6_bitCount_0f7a4 21 = .ok (.iand, 1) := by decide +kernel
theorem dJ6_bitCount_0f7a4_22 : decode cJ6_bitCount_0f7a4 22 = .ok (.iadd, 1) := by decide +kernel
theorem dJ6_bitCount_0f7a4_23 : decode cJ6_bitCount_0f7a4 23 = .ok (.istore_n 0, 1) := by decide +kernel
theorem dJ6_bitCount_0f7a4_24 : decode cJ6_bitCount_0f7a4 24 = .ok (.iload_n 0, 1) := by decide +kernel
theorem dJ6_bitCount_0f7a4_25 : decode cJ6_bitCount_0f7a4 25 = .ok (.iload_n 0, 1) := by decide +kernel
theorem dJ6_bitCount_0f7a4_26 : decode cJ6_bitCount_0f7a4 26 = .ok (.iconst 4, 1) := by decide +kernel
theorem dJ6_bitCount_0f7a4_27 : decode cJ6_bitCount_0f7a4 27 = .ok (.iushr, 1) := by decide +kernel
theorem dJ6_bitCount_0f7a4_28 : decode cJ6_bitCount_0f7a4 28 = .ok (.iadd, 1) := by decide +kernel
theorem dJ6_bitCount_0f7a4_29 : decode cJ6_bitCount_0f7a4 29 = .ok (.ldc_w 267, 3) := by decide +kernel
theorem dJ6_bitCount_0f7a4_32 : decode cJ6_bitCount_0f7a4 32 = .ok (.iand, 1) := by decide +kernel
theorem dJ6_bitCount_0f7a4_33 : decode cJ6_bitCount_0f7a4 33 = .ok (.istore_n 0, 1) := by decide +kernel
theorem dJ6_bitCount_0f7a4_34 : decode cJ6_bitCount_0f7a4 34 = .ok (.iload_n 0, 1) := by decide +kernel
theorem dJ6_bitCount_0f7a4_35 : decode cJ6_bitCount_0f7a4 35 = .ok (.iload_n 0, 1) := by decide +kernel
theorem dJ6_bitCount_0f7a4_36 : decode cJ6_bitCount_0f7a4 36 = .ok (.bipush 8, 2) := by decide +kernel
theorem dJ6_bitCount_0f7a4_38 : decode cJ6_bitCount_0f7a4 38 = .ok (.iushr, 1) := by decide +kernel
theorem dJ6_bitCount_0f7a4_39 : decode cJ6_bitCount_0f7a4 39 = .ok (.iadd, 1) := by decide +kernel
theorem dJ6_bitCount_0f7a4_40 : decode cJ6_bitCount_0f7a4 40 = .ok (.istore_n 0, 1) := by decide +kernel
theorem dJ6_bitCount_0f7a4_41 : decode cJ6_bitCount_0f7a4 41 = .ok (.iload_n 0, 1) := by decide +kernel
theorem dJ6_bitCount_0f7a4_42 : decode cJ6_bitCount_0f7a4 42 = .ok (.iload_n 0, 1) := by decide +kernel
theorem dJ6_bitCount_0f7a4_43 : decode cJ6_bitCount_0f7a4 43 = .ok (.bipush 16, 2) := by decide +kernel
theorem dJ6_bitCount_0f7a4_45 : decode cJ6_bitCount_0f7a4 45 = .ok (.iushr, 1) := by decide +kernel
theorem dJ6_bitCount_0f7a4_46 : decode cJ6_bitCount_0f7a4 46 = .ok (.iadd, 1) := by decide +kernel
theorem dJ6_bitCount_0f7a4_47 : decode cJ6_bitCount_0f7a4 47 = .ok (.istore_n 0, 1) := by decide +kernel
theorem dJ6_bitCount_0f7a4_48 : decode cJ6_bitCount_0f7a4 48 = .ok (.iload_n 0, 1) := by decide +kernel
theorem dJ6_bitCount_0f7a4_49 : decode cJ6_bitCount_0f7a4 49 = .ok (.bipush 63, 2) := by decide +kernel
theorem dJ6_bitCount_0f7a4_51 : decode cJ6_bitCount_0f7a4 51 = .ok (.iand, 1) := by decide +kernel
theorem dJ6_bitCount_0f7a4_52 : decode cJ6_bitCount_0f7a4 52 = .ok (.ireturn, 1) := by decide +kernel
theorem dJ9_max_7cf53_0 : decode cJ9_max_7cf53 0 = .ok (.iload_n 0, 1) := by decide +kernel
theorem dJ9_max_7cf53_1 : decode cJ9_max_7cf53 1 = .ok (.iload_n 1, 1) := by decide +kernel
theorem dJ9_max_7cf53_2 : decode cJ9_max_7cf53 2 = .ok (.if_icmp .lt 7, 3) := by decide +kernel
theorem dJ9_max_7cf53_5 : decode cJ9_max_7cf53 5 = .ok (.iload_n 0, 1) := by decide +kernel
theorem dJ9_max_7cf53_6 : decode cJ9_max_7cf53 6 = .ok (.goto 4, 3) := by decide +kernel
theorem dJ9_max_7cf53_9 : decode cJ9_max_7cf53 9 = .ok (.iload_n 1, 1) := by decide +kernel
theorem dJ9_max_7cf53_10 : decode cJ9_max_7cf53 10 = .ok (.ireturn, 1) := by decide +kernel
theorem dJ9_min_7cf53_0 : decode cJ9_min_7cf53 0 = .ok (.iload_n 0, 1) := by decide +kernel
theorem dJ9_min_7cf53_1 : decode cJ9_min_7cf53 1 = .ok (.iload_n 1, 1) := by decide +kernel
theorem dJ9_min_7cf53_2 : decode cJ9_min_7cf53 2 = .ok (.if_icmp .gt 7, 3) := by decide +kernel
theorem dJ9_min_7cf53_5 : decode cJ9_min_7cf53 5 = .ok (.iload_n 0, 1) := by decide +kernel
theorem dJ9_min_7cf53_6 : decode cJ9_min_7cf53 6 = .ok (.goto 4, 3) := by decide +kernel
theorem dJ9_min_7cf53_9 : decode cJ9_min_7cf53 9 = .ok (.iload_n 1, 1) := by decide +kernel
theorem dJ9_min_7cf53_10 : decode cJ9_min_7cf53 10 = .ok (.ireturn, 1) := by decide +kernel
