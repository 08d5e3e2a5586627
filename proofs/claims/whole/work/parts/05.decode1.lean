theorem dX5_reach_1 : decode cX5_reach 1 = .ok (.bipush 32, 2) := by decide +kernel
theorem dX5_reach_3 : decode cX5_reach 3 = .ok (.invokestatic 51, 3) := by decide +kernel
theorem dX5_reach_6 : decode cX5_reach 6 = .ok (.iload_n 2, 1) := by decide +kernel
theorem dX5_reach_7 : decode cX5_reach 7 = .ok (.iconst (-1), 1) := by decide +kernel
theorem dX5_reach_8 : decode cX5_reach 8 = .ok (.if_icmp .eq 21, 3) := by decide +kernel
theorem dX5_reach_11 : decode cX5_reach 11 = .ok (.iload_n 2, 1) := by decide +kernel
theorem dX5_reach_12 : decode cX5_reach 12 = .ok (.bipush 32, 2) := by decide +kernel
theorem dX5_reach_14 : decode cX5_reach 14 = .ok (.invokestatic 51, 3) := by decide +kernel
theorem dX5_reach_17 : decode cX5_reach 17 = .ok (.aload_n 0, 1) := by decide +kernel
theorem dX5_reach_18 : decode cX5_reach 18 = .ok (.getfield 10, 3) := by decide +kernel
theorem dX5_reach_21 : decode cX5_reach 21 = .ok (.getfield 55, 3) := by decide +kernel
theorem dX5_reach_24 : decode cX5_reach 24 = .ok (.iload_n 2, 1) := by decide +kernel
theorem dX5_reach_25 : decode cX5_reach 25 = .ok (.baload, 1) := by decide +kernel
theorem dX5_reach_26 : decode cX5_reach 26 = .ok (.invokestatic 59, 3) := by decide +kernel
theorem dX5_reach_29 : decode cX5_reach 29 = .ok (.aload_n 0, 1) := by decide +kernel
theorem dX5_reach_30 : decode cX5_reach 30 = .ok (.getfield 10, 3) := by decide +kernel
theorem dX5_reach_33 : decode cX5_reach 33 = .ok (.getfield 55, 3) := by decide +kernel
theorem dX5_reach_36 : decode cX5_reach 36 = .ok (.iload_n 1, 1) := by decide +kernel
theorem dX5_reach_37 : decode cX5_reach 37 = .ok (.baload, 1) := by decide +kernel
theorem dX5_reach_38 : decode cX5_reach 38 = .ok (.invokestatic 63, 3) := by decide +kernel
theorem dX5_reach_41 : decode cX5_reach 41 = .ok (.iload_n 2, 1) := by decide +kernel
theorem dX5_reach_42 : decode cX5_reach 42 = .ok (.iconst (-1), 1) := by decide +kernel
theorem dX5_reach_43 : decode cX5_reach 43 = .ok (.if_icmp .ne 18, 3) := by decide +kernel
theorem dX5_reach_46 : decode cX5_reach 46 = .ok (.aload_n 0, 1) := by decide +kernel
theorem dX5_reach_47 : decode cX5_reach 47 = .ok (.getfield 10, 3) := by decide +kernel
theorem dX5_reach_50 : decode cX5_reach 50 = .ok (.getfield 66, 3) := by decide +kernel
theorem dX5_reach_53 : decode cX5_reach 53 = .ok (.iconst (-1), 1) := by decide +kernel
theorem dX5_reach_54 : decode cX5_reach 54 = .ok (.if_icmp .eq 7, 3) := by decide +kernel
theorem dX5_reach_57 : decode cX5_reach 57 = .ok (.iconst 1, 1) := by decide +kernel
theorem dX5_reach_58 : decode cX5_reach 58 = .ok (.goto 4, 3) := by decide +kernel
theorem dX5_reach_61 : decode cX5_reach 61 = .ok (.iconst 0, 1) := by decide +kernel
theorem dX5_reach_62 : decode cX5_reach 62 = .ok (.invokestatic 63, 3) := by decide +kernel
theorem dX5_reach_65 : decode cX5_reach 65 = .ok (.aload_n 0, 1) := by decide +kernel
theorem dX5_reach_66 : decode cX5_reach 66 = .ok (.getfield 10, 3) := by decide +kernel
theorem dX5_reach_69 : decode cX5_reach 69 = .ok (.iload_n 1, 1) := by decide +kernel
theorem dX5_reach_70 : decode cX5_reach 70 = .ok (.iload_n 2, 1) := by decide +kernel
theorem dX5_reach_71 : decode cX5_reach 71 = .ok (.invokevirtual 70, 3) := by decide +kernel
theorem dX5_reach_74 : decode cX5_reach 74 = .ok (.aload_n 0, 1) := by decide +kernel
theorem dX5_reach_75 : decode cX5_reach 75 = .ok (.iconst 1, 1) := by decide +kernel
theorem dX5_reach_76 : decode cX5_reach 76 = .ok (.putfield 47, 3) := by decide +kernel
theorem dX5_reach_79 : decode cX5_reach 79 = .ok (.return_, 1) := by decide +kernel
theorem dX5_checkNumber_0 : decode cX5_checkNumber 0 = .ok (.iload_n 0, 1) := by decide +kernel
theorem dX5_checkNumber_1 : decode cX5_checkNumber 1 = .ok (.ifCond .lt 8, 3) := by decide +kernel
theorem dX5_checkNumber_4 : decode cX5_checkNumber 4 = .ok (.iload_n 0, 1) := by decide +kernel
theorem dX5_checkNumber_5 : decode cX5_checkNumber 5 = .ok (.iload_n 1, 1) := by decide +kernel
theorem dX5_checkNumber_6 : decode cX5_checkNumber 6 = .ok (.if_icmp .lt 13, 3) := by decide +kernel
theorem dX5_checkNumber_9 : decode cX5_checkNumber 9 = .ok (.new 221, 3) := by decide +kernel
theorem dX5_checkNumber_12 : decode cX5_checkNumber 12 = .ok (.dup, 1) := by decide +kernel
theorem dX5_checkNumber_13 : decode cX5_checkNumber 13 = .ok (.ldc 223, 2) := by decide +kernel
theorem dX5_checkNumber_15 : decode cX5_checkNumber 15 = .ok (.invokespecial 225, 3) := by decide +kernel
theorem dX5_checkNumber_18 : decode cX5_checkNumber 18 = .ok (.athrow, 1) := by decide +kernel
theorem dX5_checkNumber_19 : decode cX5_checkNumber 19 = .ok (.return_, 1) := by decide +kernel
theorem dX5_checkThere_0 : decode cX5_checkThere 0 = .ok (.iload_n 0, 1) := by decide +kernel
theorem dX5_checkThere_1 : decode cX5_checkThere 1 = .ok (.ifCond .ne 13, 3) := by decide +kernel
theorem dX5_checkThere_4 : decode cX5_checkThere 4 = .ok (.new 226, 3) := by decide +kernel
theorem dX5_checkThere_7 : decode cX5_checkThere 7 = .ok (.dup, 1) := by decide +kernel
theorem dX5_checkThere_8 : decode cX5_checkThere 8 = .ok (.ldc 228, 2) := by decide +kernel
theorem dX5_checkThere_10 : decode cX5_checkThere 10 = .ok (.invokespecial 230, 3) := by decide +kernel
theorem dX5_checkThere_13 : decode cX5_checkThere 13 = .ok (.athrow, 1) := by decide +kernel
theorem dX5_checkThere_14 : decode cX5_checkThere 14 = .ok (.return_, 1) := by decide +kernel
theorem dX5_checkFree_0 : decode cX5_checkFree 0 = .ok (.iload_n 0, 1) := by decide +kernel
theorem dX5_checkFree_1 : decode cX5_checkFree 1 = .ok (.ifCond .eq 13, 3) := by decide +kernel
theorem dX5_checkFree_4 : decode cX5_checkFree 4 = .ok (.new 233, 3) := by decide +kernel
theorem dX5_checkFree_7 : decode cX5_checkFree 7 = .ok (.dup, 1) := by decide +kernel
theorem dX5_checkFree_8 : decode cX5_checkFree 8 = .ok (.ldc 235, 2) := by decide +kernel
theorem dX5_checkFree_10 : decode cX5_checkFree 10 = .ok (.invokespecial 237, 3) := by decide +kernel
theorem dX5_checkFree_13 : decode cX5_checkFree 13 = .ok (.athrow, 1) := by decide +kernel
theorem dX5_checkFree_14 : decode cX5_checkFree 14 = .ok (.return_, 1) := by decide +kernel
theorem dX4_add_0 : decode cX4_add 0 = .ok (.aload_n 0, 1) := by decide +kernel
theorem dX4_add_1 : decode cX4_add 1 = .ok (.getfield 9, 3) := by decide +kernel
theorem dX4_add_4 : decode cX4_add 4 = .ok (.iload_n 1, 1) := by decide +kernel
theorem dX4_add_5 : decode cX4_add 5 = .ok (.iconst 1, 1) := by decide +kernel
theorem dX4_add_6 : decode cX4_add 6 = .ok (.bastore, 1) := by decide +kernel
theorem dX4_add_7 : decode cX4_add 7 = .ok (.aload_n 0, 1) := by decide +kernel
theorem dX4_add_8 : decode cX4_add 8 = .ok (.getfield 15, 3) := by decide +kernel
theorem dX4_add_11 : decode cX4_add 11 = .ok (.iload_n 1, 1) := by decide +kernel
theorem dX4_add_12 : decode cX4_add 12 = .ok (.iload_n 2, 1) := by decide +kernel
theorem dX4_add_13 : decode cX4_add 13 = .ok (.iastore, 1) := by decide +kernel
theorem dX4_add_14 : decode cX4_add 14 = .ok (.iload_n 2, 1) := by decide +kernel
theorem dX4_add_15 : decode cX4_add 15 = .ok (.iconst (-1), 1) := by decide +kernel
theorem dX4_add_16 : decode cX4_add 16 = .ok (.if_icmp .ne 8, 3) := by decide +kernel
theorem dX4_add_19 : decode cX4_add 19 = .ok (.aload_n 0, 1) := by decide +kernel
theorem dX4_add_20 : decode cX4_add 20 = .ok (.iload_n 1, 1) := by decide +kernel
theorem dX4_add_21 : decode cX4_add 21 = .ok (.putfield 26, 3) := by decide +kernel
theorem dX4_add_24 : decode cX4_add 24 = .ok (.return_, 1) := by decide +kernel
theorem dL_reservoir_0 : decode cL_reservoir 0 = .ok (.aload_n 0, 1) := by decide +kernel
theorem dL_reservoir_1 : decode cL_reservoir 1 = .ok (.iload_n 1, 1) := by decide +kernel
theorem dL_reservoir_2 : decode cL_reservoir 2 = .ok (.iload_n 2, 1) := by decide +kernel
theorem dL_reservoir_3 : decode cL_reservoir 3 = .ok (.iload_n 3, 1) := by decide +kernel
theorem dL_reservoir_4 : decode cL_reservoir 4 = .ok (.invokevirtual 19, 3) := by decide +kernel
theorem dL_reservoir_7 : decode cL_reservoir 7 = .ok (.goto 19, 3) := by decide +kernel
theorem dL_reservoir_10 : decode cL_reservoir 10 = .ok (.astore 4, 2) := by decide +kernel
theorem dL_reservoir_12 : decode cL_reservoir 12 = .ok (.iconst 1, 1) := by decide +kernel
theorem dL_reservoir_13 : decode cL_reservoir 13 = .ok (.ireturn, 1) := by decide +kernel
theorem dL_reservoir_14 : decode cL_reservoir 14 = .ok (.astore 4, 2) := by decide +kernel
theorem dL_reservoir_16 : decode cL_reservoir 16 = .ok (.iconst 2, 1) := by decide +kernel
theorem dL_reservoir_17 : decode cL_reservoir 17 = .ok (.ireturn, 1) := by decide +kernel
theorem dL_reservoir_18 : decode cL_reservoir 18 = .ok (.astore 4, 2) := by decide +kernel
theorem dL_reservoir_20 : decode cL_reservoir 20 = .ok (.iconst 3, 1) := by decide +kernel
theorem dL_reservoir_21 : decode cL_reservoir 21 = .ok (.ireturn, 1) := by decide +kernel
theorem dL_reservoir_22 : decode cL_reservoir 22 = .ok (.astore 4, 2) := by decide +kernel
theorem dL_reservoir_24 : decode cL_reservoir 24 = .ok (.iconst 4, 1) := by decide +kernel
theorem dL_reservoir_25 : decode cL_reservoir 25 = .ok (.ireturn, 1) := by decide +kernel
theorem dL_reservoir_26 : decode cL_reservoir 26 = .ok (.iconst 0, 1) := by decide +kernel
theorem dL_reservoir_27 : decode cL_reservoir 27 = .ok (.ireturn, 1) := by decide +kernel
theorem dX5_reservoir_0 : decode cX5_reservoir 0 = .ok (.iload_n 1, 1) := by decide +kernel
theorem dX5_reservoir_1 : decode cX5_reservoir 1 = .ok (.bipush 8, 2) := by decide +kernel
theorem dX5_reservoir_3 : decode cX5_reservoir 3 = .ok (.invokestatic 51, 3) := by decide +kernel
theorem dX5_reservoir_6 : decode cX5_reservoir 6 = .ok (.iload_n 2, 1) := by decide +kernel
theorem dX5_reservoir_7 : decode cX5_reservoir 7 = .ok (.bipush 32, 2) := by decide +kernel
theorem dX5_reservoir_9 : decode cX5_reservoir 9 = .ok (.invokestatic 51, 3) := by decide +kernel
theorem dX5_reservoir_12 : decode cX5_reservoir 12 = .ok (.aload_n 0, 1) := by decide +kernel
theorem dX5_reservoir_13 : decode cX5_reservoir 13 = .ok (.getfield 10, 3) := by decide +kernel
theorem dX5_reservoir_16 : decode cX5_reservoir 16 = .ok (.getfield 55, 3) := by decide +kernel
theorem dX5_reservoir_19 : decode cX5_reservoir 19 = .ok (.iload_n 2, 1) := by decide +kernel
theorem dX5_reservoir_20 : decode cX5_reservoir 20 = .ok (.baload, 1) := by decide +kernel
theorem dX5_reservoir_21 : decode cX5_reservoir 21 = .ok (.invokestatic 59, 3) := by decide +kernel
theorem dX5_reservoir_24 : decode cX5_reservoir 24 = .ok (.iload_n 3, 1) := by decide +kernel
theorem dX5_reservoir_25 : decode cX5_reservoir 25 = .ok (.iconst 0, 1) := by decide +kernel
theorem dX5_reservoir_26 : decode cX5_reservoir 26 = .ok (.ldc 73, 2) := by decide +kernel
theorem dX5_reservoir_28 : decode cX5_reservoir 28 = .ok (.invokestatic 74, 3) := by decide +kernel
theorem dX5_reservoir_31 : decode cX5_reservoir 31 = .ok (.aload_n 0, 1) := by decide +kernel
theorem dX5_reservoir_32 : decode cX5_reservoir 32 = .ok (.getfield 19, 3) := by decide +kernel
theorem dX5_reservoir_35 : decode cX5_reservoir 35 = .ok (.getfield 78, 3) := by decide +kernel
theorem dX5_reservoir_38 : decode cX5_reservoir 38 = .ok (.iload_n 1, 1) := by decide +kernel
theorem dX5_reservoir_39 : decode cX5_reservoir 39 = .ok (.baload, 1) := by decide +kernel
theorem dX5_reservoir_40 : decode cX5_reservoir 40 = .ok (.invokestatic 63, 3) := by decide +kernel
theorem dX5_reservoir_43 : decode cX5_reservoir 43 = .ok (.aload_n 0, 1) := by decide +kernel
theorem dX5_reservoir_44 : decode cX5_reservoir 44 = .ok (.getfield 19, 3) := by decide +kernel
theorem dX5_reservoir_47 : decode cX5_reservoir 47 = .ok (.iload_n 1, 1) := by decide +kernel
theorem dX5_reservoir_48 : decode cX5_reservoir 48 = .ok (.iload_n 2, 1) := by decide +kernel
theorem dX5_reservoir_49 : decode cX5_reservoir 49 = .ok (.iload_n 3, 1) := by decide +kernel
theorem dX5_reservoir_50 : decode cX5_reservoir 50 = .ok (.invokevirtual 79, 3) := by decide +kernel
theorem dX5_reservoir_53 : decode cX5_reservoir 53 = .ok (.aload_n 0, 1) := by decide +kernel
theorem dX5_reservoir_54 : decode cX5_reservoir 54 = .ok (.iconst 1, 1) := by decide +kernel
theorem dX5_reservoir_55 : decode cX5_reservoir 55 = .ok (.putfield 47, 3) := by decide +kernel
theorem dX5_reservoir_58 : decode cX5_reservoir 58 = .ok (.return_, 1) := by decide +kernel
theorem dX5_checkBetween_0 : decode cX5_checkBetween 0 = .ok (.iload_n 0, 1) := by decide +kernel
theorem dX5_checkBetween_1 : decode cX5_checkBetween 1 = .ok (.iload_n 1, 1) := by decide +kernel
theorem dX5_checkBetween_2 : decode cX5_checkBetween 2 = .ok (.if_icmp .lt 8, 3) := by decide +kernel
theorem dX5_checkBetween_5 : decode cX5_checkBetween 5 = .ok (.iload_n 0, 1) := by decide +kernel
theorem dX5_checkBetween_6 : decode cX5_checkBetween 6 = .ok (.iload_n 2, 1) := by decide +kernel
theorem dX5_checkBetween_7 : decode cX5_checkBetween 7 = .ok (.if_icmp .le 13, 3) := by decide +kernel
theorem dX5_checkBetween_10 : decode cX5_checkBetween 10 = .ok (.new 214, 3) := by decide +kernel
theorem dX5_checkBetween_13 : decode cX5_checkBetween 13 = .ok (.dup, 1) := by decide +kernel
theorem dX5_checkBetween_14 : decode cX5_checkBetween 14 = .ok (.ldc 231, 2) := by decide +kernel
theorem dX5_checkBetween_16 : decode cX5_checkBetween 16 = .ok (.invokespecial 218, 3) := by decide +kernel
theorem dX5_checkBetween_19 : decode cX5_checkBetween 19 = .ok (.athrow, 1) := by decide +kernel
theorem dX5_checkBetween_20 : decode cX5_checkBetween 20 = .ok (.return_, 1) := by decide +kernel
theorem dX2_add_0 : decode cX2_add 0 = .ok (.aload_n 0, 1) := by decide +kernel
theorem dX2_add_1 : decode cX2_add 1 = .ok (.getfield 9, 3) := by decide +kernel
theorem dX2_add_4 : decode cX2_add 4 = .ok (.iload_n 1, 1) := by decide +kernel
theorem dX2_add_5 : decode cX2_add 5 = .ok (.iconst 1, 1) := by decide +kernel
theorem dX2_add_6 : decode cX2_add 6 = .ok (.bastore, 1) := by decide +kernel
theorem dX2_add_7 : decode cX2_add 7 = .ok (.aload_n 0, 1) := by decide +kernel
theorem dX2_add_8 : decode cX2_add 8 = .ok (.getfield 15, 3) := by decide +kernel
theorem dX2_add_11 : decode cX2_add 11 = .ok (.iload_n 1, 1) := by decide +kernel
theorem dX2_add_12 : decode cX2_add 12 = .ok (.iload_n 2, 1) := by decide +kernel
theorem dX2_add_13 : decode cX2_add 13 = .ok (.iastore, 1) := by decide +kernel
theorem dX2_add_14 : decode cX2_add 14 = .ok (.aload_n 0, 1) := by decide +kernel
theorem dX2_add_15 : decode cX2_add 15 = .ok (.getfield 19, 3) := by decide +kernel
theorem dX2_add_18 : decode cX2_add 18 = .ok (.iload_n 1, 1) := by decide +kernel
theorem dX2_add_19 : decode cX2_add 19 = .ok (.iload_n 3, 1) := by decide +kernel
theorem dX2_add_20 : decode cX2_add 20 = .ok (.iastore, 1) := by decide +kernel
theorem dX2_add_21 : decode cX2_add 21 = .ok (.return_, 1) := by decide +kernel
theorem dL_right_0 : decode cL_right 0 = .ok (.aload_n 0, 1) := by decide +kernel
theorem dL_right_1 : decode cL_right 1 = .ok (.iload_n 1, 1) := by decide +kernel
theorem dL_right_2 : decode cL_right 2 = .ok (.iload_n 2, 1) := by decide +kernel
theorem dL_right_3 : decode cL_right 3 = .ok (.iload_n 3, 1) := by decide +kernel
theorem dL_right_4 : decode cL_right 4 = .ok (.iload 4, 2) := by decide +kernel
theorem dL_right_6 : decode cL_right 6 = .ok (.iload 5, 2) := by decide +kernel
theorem dL_right_8 : decode cL_right 8 = .ok (.iload 6, 2) := by decide +kernel
theorem dL_right_10 : decode cL_right 10 = .ok (.invokevirtual 25, 3) := by decide +kernel
theorem dL_right_13 : decode cL_right 13 = .ok (.goto 19, 3) := by decide +kernel
theorem dL_right_16 : decode cL_right 16 = .ok (.astore 7, 2) := by decide +kernel
theorem dL_right_18 : decode cL_right 18 = .ok (.iconst 1, 1) := by decide +kernel
theorem dL_right_19 : decode cL_right 19 = .ok (.ireturn, 1) := by decide +kernel
theorem dL_right_20 : decode cL_right 20 = .ok (.astore 7, 2) := by decide +kernel
theorem dL_right_22 : decode cL_right 22 = .ok (.iconst 2, 1) := by decide +kernel
theorem dL_right_23 : decode cL_right 23 = .ok (.ireturn, 1) := by decide +kernel
theorem dL_right_24 : decode cL_right 24 = .ok (.astore 7, 2) := by decide +kernel
theorem dL_right_26 : decode cL_right 26 = .ok (.iconst 3, 1) := by decide +kernel
theorem dL_right_27 : decode cL_right 27 = .ok (.ireturn, 1) := by decide +kernel
theorem dL_right_28 : decode cL_right 28 = .ok (.astore 7, 2) := by decide +kernel
theorem dL_right_30 : decode cL_right 30 = .ok (.iconst 4, 1) := by decide +kernel
theorem dL_right_31 : decode cL_right 31 = .ok (.ireturn, 1) := by decide +kernel
theorem dL_right_32 : decode cL_right 32 = .ok (.iconst 0, 1) := by decide +kernel
theorem dL_right_33 : decode cL_right 33 = .ok (.ireturn, 1) := by decide +kernel
theorem dX5_right_0 : decode cX5_right 0 = .ok (.iload_n 1, 1) := by decide +kernel
theorem dX5_right_1 : decode cX5_right 1 = .ok (.bipush 40, 2) := by decide +kernel
theorem dX5_right_3 : decode cX5_right 3 = .ok (.invokestatic 51, 3) := by decide +kernel
theorem dX5_right_6 : decode cX5_right 6 = .ok (.iload_n 2, 1) := by decide +kernel
theorem dX5_right_7 : decode cX5_right 7 = .ok (.bipush 32, 2) := by decide +kernel
theorem dX5_right_9 : decode cX5_right 9 = .ok (.invokestatic 51, 3) := by decide +kernel
theorem dX5_right_12 : decode cX5_right 12 = .ok (.iload 6, 2) := by decide +kernel
theorem dX5_right_14 : decode cX5_right 14 = .ok (.bipush 32, 2) := by decide +kernel
theorem dX5_right_16 : decode cX5_right 16 = .ok (.invokestatic 51, 3) := by decide +kernel
theorem dX5_right_19 : decode cX5_right 19 = .ok (.aload_n 0, 1) := by decide +kernel
theorem dX5_right_20 : decode cX5_right 20 = .ok (.getfield 10, 3) := by decide +kernel
theorem dX5_right_23 : decode cX5_right 23 = .ok (.getfield 55, 3) := by decide +kernel
theorem dX5_right_26 : decode cX5_right 26 = .ok (.iload_n 2, 1) := by decide +kernel
theorem dX5_right_27 : decode cX5_right 27 = .ok (.baload, 1) := by decide +kernel
theorem dX5_right_28 : decode cX5_right 28 = .ok (.invokestatic 59, 3) := by decide +kernel
theorem dX5_right_31 : decode cX5_right 31 = .ok (.aload_n 0, 1) := by decide +kernel
theorem dX5_right_32 : decode cX5_right 32 = .ok (.getfield 10, 3) := by decide +kernel
theorem dX5_right_35 : decode cX5_right 35 = .ok (.getfield 55, 3) := by decide +kernel
theorem dX5_right_38 : decode cX5_right 38 = .ok (.iload 6, 2) := by decide +kernel
theorem dX5_right_40 : decode cX5_right 40 = .ok (.baload, 1) := by decide +kernel
theorem dX5_right_41 : decode cX5_right 41 = .ok (.invokestatic 59, 3) := by decide +kernel
theorem dX5_right_44 : decode cX5_right 44 = .ok (.iload_n 3, 1) := by decide +kernel
theorem dX5_right_45 : decode cX5_right 45 = .ok (.iconst 1, 1) := by decide +kernel
theorem dX5_right_46 : decode cX5_right 46 = .ok (.ldc 81, 2) := by decide +kernel
theorem dX5_right_48 : decode cX5_right 48 = .ok (.invokestatic 74, 3) := by decide +kernel
theorem dX5_right_51 : decode cX5_right 51 = .ok (.iload 4, 2) := by decide +kernel
theorem dX5_right_53 : decode cX5_right 53 = .ok (.iconst 0, 1) := by decide +kernel
theorem dX5_right_54 : decode cX5_right 54 = .ok (.ldc 73, 2) := by decide +kernel
theorem dX5_right_56 : decode cX5_right 56 = .ok (.invokestatic 74, 3) := by decide +kernel
theorem dX5_right_59 : decode cX5_right 59 = .ok (.iload 5, 2) := by decide +kernel
theorem dX5_right_61 : decode cX5_right 61 = .ok (.iconst 0, 1) := by decide +kernel
theorem dX5_right_62 : decode cX5_right 62 = .ok (.sipush 1000, 3) := by decide +kernel
theorem dX5_right_65 : decode cX5_right 65 = .ok (.invokestatic 74, 3) := by decide +kernel
theorem dX5_right_68 : decode cX5_right 68 = .ok (.aload_n 0, 1) := by decide +kernel
theorem dX5_right_69 : decode cX5_right 69 = .ok (.iload_n 2, 1) := by decide +kernel
theorem dX5_right_70 : decode cX5_right 70 = .ok (.iload 6, 2) := by decide +kernel
theorem dX5_right_72 : decode cX5_right 72 = .ok (.invokevirtual 82, 3) := by decide +kernel
theorem dX5_right_75 : decode cX5_right 75 = .ok (.aload_n 0, 1) := by decide +kernel
theorem dX5_right_76 : decode cX5_right 76 = .ok (.getfield 26, 3) := by decide +kernel
theorem dX5_right_79 : decode cX5_right 79 = .ok (.getfield 85, 3) := by decide +kernel
theorem dX5_right_82 : decode cX5_right 82 = .ok (.iload_n 1, 1) := by decide +kernel
theorem dX5_right_83 : decode cX5_right 83 = .ok (.baload, 1) := by decide +kernel
theorem dX5_right_84 : decode cX5_right 84 = .ok (.invokestatic 63, 3) := by decide +kernel
theorem dX5_right_87 : decode cX5_right 87 = .ok (.aload_n 0, 1) := by decide +kernel
theorem dX5_right_88 : decode cX5_right 88 = .ok (.getfield 26, 3) := by decide +kernel
theorem dX5_right_91 : decode cX5_right 91 = .ok (.iload_n 3, 1) := by decide +kernel
theorem dX5_right_92 : decode cX5_right 92 = .ok (.invokevirtual 86, 3) := by decide +kernel
theorem dX5_right_95 : decode cX5_right 95 = .ok (.invokestatic 63, 3) := by decide +kernel
theorem dX5_right_98 : decode cX5_right 98 = .ok (.aload_n 0, 1) := by decide +kernel
theorem dX5_right_99 : decode cX5_right 99 = .ok (.getfield 26, 3) := by decide +kernel
theorem dX5_right_102 : decode cX5_right 102 = .ok (.iload_n 1, 1) := by decide +kernel
theorem dX5_right_103 : decode cX5_right 103 = .ok (.iload 5, 2) := by decide +kernel
theorem dX5_right_105 : decode cX5_right 105 = .ok (.iload 6, 2) := by decide +kernel
theorem dX5_right_107 : decode cX5_right 107 = .ok (.invokevirtual 90, 3) := by decide +kernel
theorem dX5_right_110 : decode cX5_right 110 = .ok (.aload_n 0, 1) := by decide +kernel
theorem dX5_right_111 : decode cX5_right 111 = .ok (.getfield 26, 3) := by decide +kernel
theorem dX5_right_114 : decode cX5_right 114 = .ok (.iload_n 1, 1) := by decide +kernel
theorem dX5_right_115 : decode cX5_right 115 = .ok (.iload_n 2, 1) := by decide +kernel
theorem dX5_right_116 : decode cX5_right 116 = .ok (.iload_n 3, 1) := by decide +kernel
theorem dX5_right_117 : decode cX5_right 117 = .ok (.iload 4, 2) := by decide +kernel
theorem dX5_right_119 : decode cX5_right 119 = .ok (.invokevirtual 93, 3) := by decide +kernel
theorem dX5_right_122 : decode cX5_right 122 = .ok (.aload_n 0, 1) := by decide +kernel
theorem dX5_right_123 : decode cX5_right 123 = .ok (.iconst 1, 1) := by decide +kernel
theorem dX5_right_124 : decode cX5_right 124 = .ok (.putfield 47, 3) := by decide +kernel
theorem dX5_right_127 : decode cX5_right 127 = .ok (.return_, 1) := by decide +kernel
theorem dX5_checkPath_0 : decode cX5_checkPath 0 = .ok (.aload_n 0, 1) := by decide +kernel
theorem dX5_checkPath_1 : decode cX5_checkPath 1 = .ok (.getfield 10, 3) := by decide +kernel
theorem dX5_checkPath_4 : decode cX5_checkPath 4 = .ok (.iload_n 1, 1) := by decide +kernel
theorem dX5_checkPath_5 : decode cX5_checkPath 5 = .ok (.iload_n 2, 1) := by decide +kernel
theorem dX5_checkPath_6 : decode cX5_checkPath 6 = .ok (.invokevirtual 210, 3) := by decide +kernel
theorem dX5_checkPath_9 : decode cX5_checkPath 9 = .ok (.ifCond .ne 13, 3) := by decide +kernel
theorem dX5_checkPath_12 : decode cX5_checkPath 12 = .ok (.new 214, 3) := by decide +kernel
theorem dX5_checkPath_15 : decode cX5_checkPath 15 = .ok (.dup, 1) := by decide +kernel
theorem dX5_checkPath_16 : decode cX5_checkPath 16 = .ok (.ldc 216, 2) := by decide +kernel
theorem dX5_checkPath_18 : decode cX5_checkPath 18 = .ok (.invokespecial 218, 3) := by decide +kernel
theorem dX5_checkPath_21 : decode cX5_checkPath 21 = .ok (.athrow, 1) := by decide +kernel
theorem dX5_checkPath_22 : decode cX5_checkPath 22 = .ok (.return_, 1) := by decide +kernel
theorem dX4_leadsTo_0 : decode cX4_leadsTo 0 = .ok (.iload_n 1, 1) := by decide +kernel
theorem dX4_leadsTo_1 : decode cX4_leadsTo 1 = .ok (.istore_n 3, 1) := by decide +kernel
theorem dX4_leadsTo_2 : decode cX4_leadsTo 2 = .ok (.iconst 0, 1) := by decide +kernel
theorem dX4_leadsTo_3 : decode cX4_leadsTo 3 = .ok (.istore 4, 2) := by decide +kernel
theorem dX4_leadsTo_5 : decode cX4_leadsTo 5 = .ok (.iload 4, 2) := by decide +kernel
theorem dX4_leadsTo_7 : decode cX4_leadsTo 7 = .ok (.bipush 32, 2) := by decide +kernel
theorem dX4_leadsTo_9 : decode cX4_leadsTo 9 = .ok (.if_icmp .ge 28, 3) := by decide +kernel
theorem dX4_leadsTo_12 : decode cX4_leadsTo 12 = .ok (.iload_n 3, 1) := by decide +kernel
theorem dX4_leadsTo_13 : decode cX4_leadsTo 13 = .ok (.iconst (-1), 1) := by decide +kernel
theorem dX4_leadsTo_14 : decode cX4_leadsTo 14 = .ok (.if_icmp .eq 23, 3) := by decide +kernel
theorem dX4_leadsTo_17 : decode cX4_leadsTo 17 = .ok (.iload_n 3, 1) := by decide +kernel
theorem dX4_leadsTo_18 : decode cX4_leadsTo 18 = .ok (.iload_n 2, 1) := by decide +kernel
theorem dX4_leadsTo_19 : decode cX4_leadsTo 19 = .ok (.if_icmp .ne 5, 3) := by decide +kernel
theorem dX4_leadsTo_22 : decode cX4_leadsTo 22 = .ok (.iconst 1, 1) := by decide +kernel
theorem dX4_leadsTo_23 : decode cX4_leadsTo 23 = .ok (.ireturn, 1) := by decide +kernel
theorem dX4_leadsTo_24 : decode cX4_leadsTo 24 = .ok (.aload_n 0, 1) := by decide +kernel
theorem dX4_leadsTo_25 : decode cX4_leadsTo 25 = .ok (.getfield 15, 3) := by decide +kernel
theorem dX4_leadsTo_28 : decode cX4_leadsTo 28 = .ok (.iload_n 3, 1) := by decide +kernel
theorem dX4_leadsTo_29 : decode cX4_leadsTo 29 = .ok (.iaload, 1) := by decide +kernel
theorem dX4_leadsTo_30 : decode cX4_leadsTo 30 = .ok (.istore_n 3, 1) := by decide +kernel
theorem dX4_leadsTo_31 : decode cX4_leadsTo 31 = .ok (.iinc 4 1, 3) := by decide +kernel
theorem dX4_leadsTo_34 : decode cX4_leadsTo 34 = .ok (.goto (-29), 3) := by decide +kernel
theorem dX4_leadsTo_37 : decode cX4_leadsTo 37 = .ok (.iconst 0, 1) := by decide +kernel
theorem dX4_leadsTo_38 : decode cX4_leadsTo 38 = .ok (.ireturn, 1) := by decide +kernel
theorem dX3_hasPriority_0 : decode cX3_hasPriority 0 = .ok (.iconst 0, 1) := by decide +kernel
theorem dX3_hasPriority_1 : decode cX3_hasPriority 1 = .ok (.istore_n 2, 1) := by decide +kernel
theorem dX3_hasPriority_2 : decode cX3_hasPriority 2 = .ok (.iload_n 2, 1) := by decide +kernel
theorem dX3_hasPriority_3 : decode cX3_hasPriority 3 = .ok (.aload_n 0, 1) := by decide +kernel
theorem dX3_hasPriority_4 : decode cX3_hasPriority 4 = .ok (.getfield 40, 3) := by decide +kernel
theorem dX3_hasPriority_7 : decode cX3_hasPriority 7 = .ok (.if_icmp .ge 26, 3) := by decide +kernel
theorem dX3_hasPriority_10 : decode cX3_hasPriority 10 = .ok (.aload_n 0, 1) := by decide +kernel
theorem dX3_hasPriority_11 : decode cX3_hasPriority 11 = .ok (.getfield 19, 3) := by decide +kernel
theorem dX3_hasPriority_14 : decode cX3_hasPriority 14 = .ok (.aload_n 0, 1) := by decide +kernel
theorem dX3_hasPriority_15 : decode cX3_hasPriority 15 = .ok (.getfield 37, 3) := by decide +kernel
theorem dX3_hasPriority_18 : decode cX3_hasPriority 18 = .ok (.iload_n 2, 1) := by decide +kernel
theorem dX3_hasPriority_19 : decode cX3_hasPriority 19 = .ok (.iaload, 1) := by decide +kernel
theorem dX3_hasPriority_20 : decode cX3_hasPriority 20 = .ok (.iaload, 1) := by decide +kernel
theorem dX3_hasPriority_21 : decode cX3_hasPriority 21 = .ok (.iload_n 1, 1) := by decide +kernel
theorem dX3_hasPriority_22 : decode cX3_hasPriority 22 = .ok (.if_icmp .ne 5, 3) := by decide +kernel
theorem dX3_hasPriority_25 : decode cX3_hasPriority 25 = .ok (.iconst 1, 1) := by decide +kernel
theorem dX3_hasPriority_26 : decode cX3_hasPriority 26 = .ok (.ireturn, 1) := by decide +kernel
theorem dX3_hasPriority_27 : decode cX3_hasPriority 27 = .ok (.iinc 2 1, 3) := by decide +kernel
theorem dX3_hasPriority_30 : decode cX3_hasPriority 30 = .ok (.goto (-28), 3) := by decide +kernel
theorem dX3_hasPriority_33 : decode cX3_hasPriority 33 = .ok (.iconst 0, 1) := by decide +kernel
theorem dX3_hasPriority_34 : decode cX3_hasPriority 34 = .ok (.ireturn, 1) := by decide +kernel
theorem dX3_setDirect_0 : decode cX3_setDirect 0 = .ok (.aload_n 0, 1) := by decide +kernel
theorem dX3_setDirect_1 : decode cX3_setDirect 1 = .ok (.getfield 28, 3) := by decide +kernel
theorem dX3_setDirect_4 : decode cX3_setDirect 4 = .ok (.iload_n 1, 1) := by decide +kernel
theorem dX3_setDirect_5 : decode cX3_setDirect 5 = .ok (.iload_n 2, 1) := by decide +kernel
theorem dX3_setDirect_6 : decode cX3_setDirect 6 = .ok (.iastore, 1) := by decide +kernel
theorem dX3_setDirect_7 : decode cX3_setDirect 7 = .ok (.aload_n 0, 1) := by decide +kernel
theorem dX3_setDirect_8 : decode cX3_setDirect 8 = .ok (.getfield 31, 3) := by decide +kernel
theorem dX3_setDirect_11 : decode cX3_setDirect 11 = .ok (.iload_n 1, 1) := by decide +kernel
theorem dX3_setDirect_12 : decode cX3_setDirect 12 = .ok (.iload_n 3, 1) := by decide +kernel
theorem dX3_setDirect_13 : decode cX3_setDirect 13 = .ok (.iastore, 1) := by decide +kernel
theorem dX3_setDirect_14 : decode cX3_setDirect 14 = .ok (.aload_n 0, 1) := by decide +kernel
theorem dX3_setDirect_15 : decode cX3_setDirect 15 = .ok (.getfield 34, 3) := by decide +kernel
theorem dX3_setDirect_18 : decode cX3_setDirect 18 = .ok (.iload_n 1, 1) := by decide +kernel
theorem dX3_setDirect_19 : decode cX3_setDirect 19 = .ok (.iconst (-1), 1) := by decide +kernel
theorem dX3_setDirect_20 : decode cX3_setDirect 20 = .ok (.iastore, 1) := by decide +kernel
theorem dX3_setDirect_21 : decode cX3_setDirect 21 = .ok (.return_, 1) := by decide +kernel
theorem dX3_add_0 : decode cX3_add 0 = .ok (.aload_n 0, 1) := by decide +kernel
theorem dX3_add_1 : decode cX3_add 1 = .ok (.getfield 9, 3) := by decide +kernel
theorem dX3_add_4 : decode cX3_add 4 = .ok (.iload_n 1, 1) := by decide +kernel
theorem dX3_add_5 : decode cX3_add 5 = .ok (.iconst 1, 1) := by decide +kernel
theorem dX3_add_6 : decode cX3_add 6 = .ok (.bastore, 1) := by decide +kernel
theorem dX3_add_7 : decode cX3_add 7 = .ok (.aload_n 0, 1) := by decide +kernel
theorem dX3_add_8 : decode cX3_add 8 = .ok (.getfield 15, 3) := by decide +kernel
theorem dX3_add_11 : decode cX3_add 11 = .ok (.iload_n 1, 1) := by decide +kernel
theorem dX3_add_12 : decode cX3_add 12 = .ok (.iload_n 2, 1) := by decide +kernel
theorem dX3_add_13 : decode cX3_add 13 = .ok (.iastore, 1) := by decide +kernel
theorem dX3_add_14 : decode cX3_add 14 = .ok (.aload_n 0, 1) := by decide +kernel
theorem dX3_add_15 : decode cX3_add 15 = .ok (.getfield 19, 3) := by decide +kernel
theorem dX3_add_18 : decode cX3_add 18 = .ok (.iload_n 1, 1) := by decide +kernel
theorem dX3_add_19 : decode cX3_add 19 = .ok (.iload_n 3, 1) := by decide +kernel
theorem dX3_add_20 : decode cX3_add 20 = .ok (.iastore, 1) := by decide +kernel
theorem dX3_add_21 : decode cX3_add 21 = .ok (.aload_n 0, 1) := by decide +kernel
theorem dX3_add_22 : decode cX3_add 22 = .ok (.getfield 22, 3) := by decide +kernel
theorem dX3_add_25 : decode cX3_add 25 = .ok (.iload_n 1, 1) := by decide +kernel
theorem dX3_add_26 : decode cX3_add 26 = .ok (.iload 4, 2) := by decide +kernel
theorem dX3_add_28 : decode cX3_add 28 = .ok (.iastore, 1) := by decide +kernel
theorem dX3_add_29 : decode cX3_add 29 = .ok (.aload_n 0, 1) := by decide +kernel
theorem dX3_add_30 : decode cX3_add 30 = .ok (.getfield 25, 3) := by decide +kernel
theorem dX3_add_33 : decode cX3_add 33 = .ok (.iload_n 1, 1) := by decide +kernel
theorem dX3_add_34 : decode cX3_add 34 = .ok (.iload 4, 2) := by decide +kernel
theorem dX3_add_36 : decode cX3_add 36 = .ok (.iastore, 1) := by decide +kernel
theorem dX3_add_37 : decode cX3_add 37 = .ok (.aload_n 0, 1) := by decide +kernel
theorem dX3_add_38 : decode cX3_add 38 = .ok (.getfield 40, 3) := by decide +kernel
theorem dX3_add_41 : decode cX3_add 41 = .ok (.istore 5, 2) := by decide +kernel
theorem dX3_add_43 : decode cX3_add 43 = .ok (.iload 5, 2) := by decide +kernel
theorem dX3_add_45 : decode cX3_add 45 = .ok (.ifCond .le 43, 3) := by decide +kernel
theorem dX3_add_48 : decode cX3_add 48 = .ok (.aload_n 0, 1) := by decide +kernel
theorem dX3_add_49 : decode cX3_add 49 = .ok (.getfield 19, 3) := by decide +kernel
theorem dX3_add_52 : decode cX3_add 52 = .ok (.aload_n 0, 1) := by decide +kernel
theorem dX3_add_53 : decode cX3_add 53 = .ok (.getfield 37, 3) := by decide +kernel
theorem dX3_add_56 : decode cX3_add 56 = .ok (.iload 5, 2) := by decide +kernel
theorem dX3_add_58 : decode cX3_add 58 = .ok (.iconst 1, 1) := by decide +kernel
theorem dX3_add_59 : decode cX3_add 59 = .ok (.isub, 1) := by decide +kernel
theorem dX3_add_60 : decode cX3_add 60 = .ok (.iaload, 1) := by decide +kernel
theorem dX3_add_61 : decode cX3_add 61 = .ok (.iaload, 1) := by decide +kernel
theorem dX3_add_62 : decode cX3_add 62 = .ok (.iload_n 3, 1) := by decide +kernel
theorem dX3_add_63 : decode cX3_add 63 = .ok (.if_icmp .le 25, 3) := by decide +kernel
theorem dX3_add_66 : decode cX3_add 66 = .ok (.aload_n 0, 1) := by decide +kernel
theorem dX3_add_67 : decode cX3_add 67 = .ok (.getfield 37, 3) := by decide +kernel
theorem dX3_add_70 : decode cX3_add 70 = .ok (.iload 5, 2) := by decide +kernel
theorem dX3_add_72 : decode cX3_add 72 = .ok (.aload_n 0, 1) := by decide +kernel
theorem dX3_add_73 : decode cX3_add 73 = .ok (.getfield 37, 3) := by decide +kernel
theorem dX3_add_76 : decode cX3_add 76 = .ok (.iload 5, 2) := by decide +kernel
theorem dX3_add_78 : decode cX3_add 78 = .ok (.iconst 1, 1) := by decide +kernel
theorem dX3_add_79 : decode cX3_add 79 = .ok (.isub, 1) := by decide +kernel
theorem dX3_add_80 : decode cX3_add 80 = .ok (.iaload, 1) := by decide +kernel
theorem dX3_add_81 : decode cX3_add 81 = .ok (.iastore, 1) := by decide +kernel
theorem dX3_add_82 : decode cX3_add 82 = .ok (.iinc 5 (-1), 3) := by decide +kernel
theorem dX3_add_85 : decode cX3_add 85 = .ok (.goto (-42), 3) := by decide +kernel
theorem dX3_add_88 : decode cX3_add 88 = .ok (.aload_n 0, 1) := by decide +kernel
theorem dX3_add_89 : decode cX3_add 89 = .ok (.getfield 37, 3) := by decide +kernel
theorem dX3_add_92 : decode cX3_add 92 = .ok (.iload 5, 2) := by decide +kernel
theorem dX3_add_94 : decode cX3_add 94 = .ok (.iload_n 1, 1) := by decide +kernel
theorem dX3_add_95 : decode cX3_add 95 = .ok (.iastore, 1) := by decide +kernel
theorem dX3_add_96 : decode cX3_add 96 = .ok (.aload_n 0, 1) := by decide +kernel
theorem dX3_add_97 : decode cX3_add 97 = .ok (.dup, 1) := by decide +kernel
theorem dX3_add_98 : decode cX3_add 98 = .ok (.getfield 40, 3) := by decide +kernel
theorem dX3_add_101 : decode cX3_add 101 = .ok (.iconst 1, 1) := by decide +kernel
theorem dX3_add_102 : decode cX3_add 102 = .ok (.iadd, 1) := by decide +kernel
theorem dX3_add_103 : decode cX3_add 103 = .ok (.putfield 40, 3) := by decide +kernel
theorem dX3_add_106 : decode cX3_add 106 = .ok (.return_, 1) := by decide +kernel
theorem dL_storage_0 : decode cL_storage 0 = .ok (.aload_n 0, 1) := by decide +kernel
theorem dL_storage_1 : decode cL_storage 1 = .ok (.iload_n 1, 1) := by decide +kernel
theorem dL_storage_2 : decode cL_storage 2 = .ok (.iload_n 2, 1) := by decide +kernel
theorem dL_storage_3 : decode cL_storage 3 = .ok (.iload_n 3, 1) := by decide +kernel
theorem dL_storage_4 : decode cL_storage 4 = .ok (.iload 4, 2) := by decide +kernel
theorem dL_storage_6 : decode cL_storage 6 = .ok (.iload 5, 2) := by decide +kernel
theorem dL_storage_8 : decode cL_storage 8 = .ok (.invokevirtual 29, 3) := by decide +kernel
theorem dL_storage_11 : decode cL_storage 11 = .ok (.goto 19, 3) := by decide +kernel
theorem dL_storage_14 : decode cL_storage 14 = .ok (.astore 6, 2) := by decide +kernel
theorem dL_storage_16 : decode cL_storage 16 = .ok (.iconst 1, 1) := by decide +kernel
theorem dL_storage_17 : decode cL_storage 17 = .ok (.ireturn, 1) := by decide +kernel
theorem dL_storage_18 : decode cL_storage 18 = .ok (.astore 6, 2) := by decide +kernel
theorem dL_storage_20 : decode cL_storage 20 = .ok (.iconst 2, 1) := by decide +kernel
theorem dL_storage_21 : decode cL_storage 21 = .ok (.ireturn, 1) := by decide +kernel
theorem dL_storage_22 : decode cL_storage 22 = .ok (.astore 6, 2) := by decide +kernel
theorem dL_storage_24 : decode cL_storage 24 = .ok (.iconst 3, 1) := by decide +kernel
theorem dL_storage_25 : decode cL_storage 25 = .ok (.ireturn, 1) := by decide +kernel
theorem dL_storage_26 : decode cL_storage 26 = .ok (.astore 6, 2) := by decide +kernel
theorem dL_storage_28 : decode cL_storage 28 = .ok (.iconst 4, 1) := by decide +kernel
theorem dL_storage_29 : decode cL_storage 29 = .ok (.ireturn, 1) := by decide +kernel
theorem dL_storage_30 : decode cL_storage 30 = .ok (.iconst 0, 1) := by decide +kernel
theorem dL_storage_31 : decode cL_storage 31 = .ok (.ireturn, 1) := by decide +kernel
theorem dX5_storage_0 : decode cX5_storage 0 = .ok (.iload_n 1, 1) := by decide +kernel
theorem dX5_storage_1 : decode cX5_storage 1 = .ok (.bipush 40, 2) := by decide +kernel
theorem dX5_storage_3 : decode cX5_storage 3 = .ok (.invokestatic 51, 3) := by decide +kernel
theorem dX5_storage_6 : decode cX5_storage 6 = .ok (.iload_n 2, 1) := by decide +kernel
theorem dX5_storage_7 : decode cX5_storage 7 = .ok (.bipush 32, 2) := by decide +kernel
theorem dX5_storage_9 : decode cX5_storage 9 = .ok (.invokestatic 51, 3) := by decide +kernel
theorem dX5_storage_12 : decode cX5_storage 12 = .ok (.iload 5, 2) := by decide +kernel
theorem dX5_storage_14 : decode cX5_storage 14 = .ok (.bipush 8, 2) := by decide +kernel
theorem dX5_storage_16 : decode cX5_storage 16 = .ok (.invokestatic 51, 3) := by decide +kernel
theorem dX5_storage_19 : decode cX5_storage 19 = .ok (.aload_n 0, 1) := by decide +kernel
theorem dX5_storage_20 : decode cX5_storage 20 = .ok (.getfield 10, 3) := by decide +kernel
theorem dX5_storage_23 : decode cX5_storage 23 = .ok (.getfield 55, 3) := by decide +kernel
theorem dX5_storage_26 : decode cX5_storage 26 = .ok (.iload_n 2, 1) := by decide +kernel
theorem dX5_storage_27 : decode cX5_storage 27 = .ok (.baload, 1) := by decide +kernel
theorem dX5_storage_28 : decode cX5_storage 28 = .ok (.invokestatic 59, 3) := by decide +kernel
theorem dX5_storage_31 : decode cX5_storage 31 = .ok (.aload_n 0, 1) := by decide +kernel
theorem dX5_storage_32 : decode cX5_storage 32 = .ok (.getfield 19, 3) := by decide +kernel
theorem dX5_storage_35 : decode cX5_storage 35 = .ok (.getfield 78, 3) := by decide +kernel
theorem dX5_storage_38 : decode cX5_storage 38 = .ok (.iload 5, 2) := by decide +kernel
theorem dX5_storage_40 : decode cX5_storage 40 = .ok (.baload, 1) := by decide +kernel
theorem dX5_storage_41 : decode cX5_storage 41 = .ok (.invokestatic 59, 3) := by decide +kernel
theorem dX5_storage_44 : decode cX5_storage 44 = .ok (.iload_n 3, 1) := by decide +kernel
theorem dX5_storage_45 : decode cX5_storage 45 = .ok (.iconst 1, 1) := by decide +kernel
theorem dX5_storage_46 : decode cX5_storage 46 = .ok (.ldc 81, 2) := by decide +kernel
theorem dX5_storage_48 : decode cX5_storage 48 = .ok (.invokestatic 74, 3) := by decide +kernel
theorem dX5_storage_51 : decode cX5_storage 51 = .ok (.iload 4, 2) := by decide +kernel
theorem dX5_storage_53 : decode cX5_storage 53 = .ok (.iconst 0, 1) := by decide +kernel
theorem dX5_storage_54 : decode cX5_storage 54 = .ok (.ldc 73, 2) := by decide +kernel
theorem dX5_storage_56 : decode cX5_storage 56 = .ok (.invokestatic 74, 3) := by decide +kernel
theorem dX5_storage_59 : decode cX5_storage 59 = .ok (.aload_n 0, 1) := by decide +kernel
theorem dX5_storage_60 : decode cX5_storage 60 = .ok (.getfield 26, 3) := by decide +kernel
theorem dX5_storage_63 : decode cX5_storage 63 = .ok (.getfield 85, 3) := by decide +kernel
theorem dX5_storage_66 : decode cX5_storage 66 = .ok (.iload_n 1, 1) := by decide +kernel
theorem dX5_storage_67 : decode cX5_storage 67 = .ok (.baload, 1) := by decide +kernel
theorem dX5_storage_68 : decode cX5_storage 68 = .ok (.invokestatic 63, 3) := by decide +kernel
theorem dX5_storage_71 : decode cX5_storage 71 = .ok (.aload_n 0, 1) := by decide +kernel
theorem dX5_storage_72 : decode cX5_storage 72 = .ok (.getfield 26, 3) := by decide +kernel
theorem dX5_storage_75 : decode cX5_storage 75 = .ok (.iload_n 3, 1) := by decide +kernel
theorem dX5_storage_76 : decode cX5_storage 76 = .ok (.invokevirtual 86, 3) := by decide +kernel
theorem dX5_storage_79 : decode cX5_storage 79 = .ok (.invokestatic 63, 3) := by decide +kernel
theorem dX5_storage_82 : decode cX5_storage 82 = .ok (.aload_n 0, 1) := by decide +kernel
theorem dX5_storage_83 : decode cX5_storage 83 = .ok (.getfield 26, 3) := by decide +kernel
theorem dX5_storage_86 : decode cX5_storage 86 = .ok (.iload_n 1, 1) := by decide +kernel
theorem dX5_storage_87 : decode cX5_storage 87 = .ok (.iload 5, 2) := by decide +kernel
theorem dX5_storage_89 : decode cX5_storage 89 = .ok (.invokevirtual 96, 3) := by decide +kernel
theorem dX5_storage_92 : decode cX5_storage 92 = .ok (.aload_n 0, 1) := by decide +kernel
theorem dX5_storage_93 : decode cX5_storage 93 = .ok (.getfield 26, 3) := by decide +kernel
theorem dX5_storage_96 : decode cX5_storage 96 = .ok (.iload_n 1, 1) := by decide +kernel
theorem dX5_storage_97 : decode cX5_storage 97 = .ok (.iload_n 2, 1) := by decide +kernel
theorem dX5_storage_98 : decode cX5_storage 98 = .ok (.iload_n 3, 1) := by decide +kernel
theorem dX5_storage_99 : decode cX5_storage 99 = .ok (.iload 4, 2) := by decide +kernel
theorem dX5_storage_101 : decode cX5_storage 101 = .ok (.invokevirtual 93, 3) := by decide +kernel
theorem dX5_storage_104 : decode cX5_storage 104 = .ok (.aload_n 0, 1) := by decide +kernel
theorem dX5_storage_105 : decode cX5_storage 105 = .ok (.iconst 1, 1) := by decide +kernel
theorem dX5_storage_106 : decode cX5_storage 106 = .ok (.putfield 47, 3) := by decide +kernel
theorem dX5_storage_109 : decode cX5_storage 109 = .ok (.return_, 1) := by decide +kernel
theorem dX3_setStorage_0 : decode cX3_setStorage 0 = .ok (.aload_n 0, 1) := by decide +kernel
theorem dX3_setStorage_1 : decode cX3_setStorage 1 = .ok (.getfield 28, 3) := by decide +kernel
theorem dX3_setStorage_4 : decode cX3_setStorage 4 = .ok (.iload_n 1, 1) := by decide +kernel
theorem dX3_setStorage_5 : decode cX3_setStorage 5 = .ok (.iconst (-1), 1) := by decide +kernel
theorem dX3_setStorage_6 : decode cX3_setStorage 6 = .ok (.iastore, 1) := by decide +kernel
theorem dX3_setStorage_7 : decode cX3_setStorage 7 = .ok (.aload_n 0, 1) := by decide +kernel
theorem dX3_setStorage_8 : decode cX3_setStorage 8 = .ok (.getfield 31, 3) := by decide +kernel
theorem dX3_setStorage_11 : decode cX3_setStorage 11 = .ok (.iload_n 1, 1) := by decide +kernel
theorem dX3_setStorage_12 : decode cX3_setStorage 12 = .ok (.iconst (-1), 1) := by decide +kernel
theorem dX3_setStorage_13 : decode cX3_setStorage 13 = .ok (.iastore, 1) := by decide +kernel
theorem dX3_setStorage_14 : decode cX3_setStorage 14 = .ok (.aload_n 0, 1) := by decide +kernel
theorem dX3_setStorage_15 : decode cX3_setStorage 15 = .ok (.getfield 34, 3) := by decide +kernel
theorem dX3_setStorage_18 : decode cX3_setStorage 18 = .ok (.iload_n 1, 1) := by decide +kernel
theorem dX3_setStorage_19 : decode cX3_setStorage 19 = .ok (.iload_n 2, 1) := by decide +kernel
theorem dX3_setStorage_20 : decode cX3_setStorage 20 = .ok (.iastore, 1) := by decide +kernel
theorem dX3_setStorage_21 : decode cX3_setStorage 21 = .ok (.return_, 1) := by decide +kernel
theorem dL_drop_0 : decode cL_drop 0 = .ok (.aload_n 0, 1) := by decide +kernel
theorem dL_drop_1 : decode cL_drop 1 = .ok (.iload_n 1, 1) := by decide +kernel
theorem dL_drop_2 : decode cL_drop 2 = .ok (.invokevirtual 33, 3) := by decide +kernel
theorem dL_drop_5 : decode cL_drop 5 = .ok (.goto 9, 3) := by decide +kernel
theorem dL_drop_8 : decode cL_drop 8 = .ok (.astore_n 2, 1) := by decide +kernel
theorem dL_drop_9 : decode cL_drop 9 = .ok (.iconst 1, 1) := by decide +kernel
theorem dL_drop_10 : decode cL_drop 10 = .ok (.ireturn, 1) := by decide +kernel
theorem dL_drop_11 : decode cL_drop 11 = .ok (.astore_n 2, 1) := by decide +kernel
theorem dL_drop_12 : decode cL_drop 12 = .ok (.iconst 2, 1) := by decide +kernel
theorem dL_drop_13 : decode cL_drop 13 = .ok (.ireturn, 1) := by decide +kernel
theorem dL_drop_14 : decode cL_drop 14 = .ok (.iconst 0, 1) := by decide +kernel
theorem dL_drop_15 : decode cL_drop 15 = .ok (.ireturn, 1) := by decide +kernel
theorem dX5_drop_0 : decode cX5_drop 0 = .ok (.aload_n 0, 1) := by decide +kernel
theorem dX5_drop_1 : decode cX5_drop 1 = .ok (.iload_n 1, 1) := by decide +kernel
theorem dX5_drop_2 : decode cX5_drop 2 = .ok (.invokevirtual 99, 3) := by decide +kernel
theorem dX5_drop_5 : decode cX5_drop 5 = .ok (.aload_n 0, 1) := by decide +kernel
theorem dX5_drop_6 : decode cX5_drop 6 = .ok (.getfield 26, 3) := by decide +kernel
theorem dX5_drop_9 : decode cX5_drop 9 = .ok (.iload_n 1, 1) := by decide +kernel
theorem dX5_drop_10 : decode cX5_drop 10 = .ok (.invokevirtual 103, 3) := by decide +kernel
theorem dX5_drop_13 : decode cX5_drop 13 = .ok (.aload_n 0, 1) := by decide +kernel
theorem dX5_drop_14 : decode cX5_drop 14 = .ok (.iconst 1, 1) := by decide +kernel
theorem dX5_drop_15 : decode cX5_drop 15 = .ok (.putfield 47, 3) := by decide +kernel
theorem dX5_drop_18 : decode cX5_drop 18 = .ok (.return_, 1) := by decide +kernel
theorem dX5_checkRight_0 : decode cX5_checkRight 0 = .ok (.iload_n 1, 1) := by decide +kernel
theorem dX5_checkRight_1 : decode cX5_checkRight 1 = .ok (.bipush 40, 2) := by decide +kernel
theorem dX5_checkRight_3 : decode cX5_checkRight 3 = .ok (.invokestatic 51, 3) := by decide +kernel
theorem dX5_checkRight_6 : decode cX5_checkRight 6 = .ok (.aload_n 0, 1) := by decide +kernel
theorem dX5_checkRight_7 : decode cX5_checkRight 7 = .ok (.getfield 26, 3) := by decide +kernel
theorem dX5_checkRight_10 : decode cX5_checkRight 10 = .ok (.getfield 85, 3) := by decide +kernel
theorem dX5_checkRight_13 : decode cX5_checkRight 13 = .ok (.iload_n 1, 1) := by decide +kernel
theorem dX5_checkRight_14 : decode cX5_checkRight 14 = .ok (.baload, 1) := by decide +kernel
theorem dX5_checkRight_15 : decode cX5_checkRight 15 = .ok (.invokestatic 59, 3) := by decide +kernel
theorem dX5_checkRight_18 : decode cX5_checkRight 18 = .ok (.return_, 1) := by decide +kernel
theorem dX3_remove_0 : decode cX3_remove 0 = .ok (.aload_n 0, 1) := by decide +kernel
theorem dX3_remove_1 : decode cX3_remove 1 = .ok (.getfield 9, 3) := by decide +kernel
theorem dX3_remove_4 : decode cX3_remove 4 = .ok (.iload_n 1, 1) := by decide +kernel
theorem dX3_remove_5 : decode cX3_remove 5 = .ok (.iconst 0, 1) := by decide +kernel
theorem dX3_remove_6 : decode cX3_remove 6 = .ok (.bastore, 1) := by decide +kernel
theorem dX3_remove_7 : decode cX3_remove 7 = .ok (.iconst 0, 1) := by decide +kernel
theorem dX3_remove_8 : decode cX3_remove 8 = .ok (.istore_n 2, 1) := by decide +kernel
theorem dX3_remove_9 : decode cX3_remove 9 = .ok (.iconst 0, 1) := by decide +kernel
theorem dX3_remove_10 : decode cX3_remove 10 = .ok (.istore_n 3, 1) := by decide +kernel
theorem dX3_remove_11 : decode cX3_remove 11 = .ok (.iload_n 3, 1) := by decide +kernel
theorem dX3_remove_12 : decode cX3_remove 12 = .ok (.aload_n 0, 1) := by decide +kernel
theorem dX3_remove_13 : decode cX3_remove 13 = .ok (.getfield 40, 3) := by decide +kernel
theorem dX3_remove_16 : decode cX3_remove 16 = .ok (.if_icmp .ge 34, 3) := by decide +kernel
theorem dX3_remove_19 : decode cX3_remove 19 = .ok (.aload_n 0, 1) := by decide +kernel
theorem dX3_remove_20 : decode cX3_remove 20 = .ok (.getfield 37, 3) := by decide +kernel
theorem dX3_remove_23 : decode cX3_remove 23 = .ok (.iload_n 3, 1) := by decide +kernel
theorem dX3_remove_24 : decode cX3_remove 24 = .ok (.iaload, 1) := by decide +kernel
theorem dX3_remove_25 : decode cX3_remove 25 = .ok (.iload_n 1, 1) := by decide +kernel
theorem dX3_remove_26 : decode cX3_remove 26 = .ok (.if_icmp .eq 18, 3) := by decide +kernel
theorem dX3_remove_29 : decode cX3_remove 29 = .ok (.aload_n 0, 1) := by decide +kernel
theorem dX3_remove_30 : decode cX3_remove 30 = .ok (.getfield 37, 3) := by decide +kernel
theorem dX3_remove_33 : decode cX3_remove 33 = .ok (.iload_n 2, 1) := by decide +kernel
theorem dX3_remove_34 : decode cX3_remove 34 = .ok (.aload_n 0, 1) := by decide +kernel
theorem dX3_remove_35 : decode cX3_remove 35 = .ok (.getfield 37, 3) := by decide +kernel
theorem dX3_remove_38 : decode cX3_remove 38 = .ok (.iload_n 3, 1) := by decide +kernel
theorem dX3_remove_39 : decode cX3_remove 39 = .ok (.iaload, 1) := by decide +kernel
theorem dX3_remove_40 : decode cX3_remove 40 = .ok (.iastore, 1) := by decide +kernel
theorem dX3_remove_41 : decode cX3_remove 41 = .ok (.iinc 2 1, 3) := by decide +kernel
theorem dX3_remove_44 : decode cX3_remove 44 = .ok (.iinc 3 1, 3) := by decide +kernel
theorem dX3_remove_47 : decode cX3_remove 47 = .ok (.goto (-36), 3) := by decide +kernel
theorem dX3_remove_50 : decode cX3_remove 50 = .ok (.aload_n 0, 1) := by decide +kernel
theorem dX3_remove_51 : decode cX3_remove 51 = .ok (.iload_n 2, 1) := by decide +kernel
theorem dX3_remove_52 : decode cX3_remove 52 = .ok (.putfield 40, 3) := by decide +kernel
theorem dX3_remove_55 : decode cX3_remove 55 = .ok (.return_, 1) := by decide +kernel
theorem dL_want_0 : decode cL_want 0 = .ok (.aload_n 0, 1) := by decide +kernel
theorem dL_want_1 : decode cL_want 1 = .ok (.iload_n 1, 1) := by decide +kernel
theorem dL_want_2 : decode cL_want 2 = .ok (.iload_n 2, 1) := by decide +kernel
theorem dL_want_3 : decode cL_want 3 = .ok (.invokevirtual 37, 3) := by decide +kernel
theorem dL_want_6 : decode cL_want 6 = .ok (.goto 12, 3) := by decide +kernel
theorem dL_want_9 : decode cL_want 9 = .ok (.astore_n 3, 1) := by decide +kernel
theorem dL_want_10 : decode cL_want 10 = .ok (.iconst 1, 1) := by decide +kernel
theorem dL_want_11 : decode cL_want 11 = .ok (.ireturn, 1) := by decide +kernel
theorem dL_want_12 : decode cL_want 12 = .ok (.astore_n 3, 1) := by decide +kernel
theorem dL_want_13 : decode cL_want 13 = .ok (.iconst 2, 1) := by decide +kernel
theorem dL_want_14 : decode cL_want 14 = .ok (.ireturn, 1) := by decide +kernel
theorem dL_want_15 : decode cL_want 15 = .ok (.astore_n 3, 1) := by decide +kernel
theorem dL_want_16 : decode cL_want 16 = .ok (.iconst 3, 1) := by decide +kernel
theorem dL_want_17 : decode cL_want 17 = .ok (.ireturn, 1) := by decide +kernel
theorem dL_want_18 : decode cL_want 18 = .ok (.iconst 0, 1) := by decide +kernel
theorem dL_want_19 : decode cL_want 19 = .ok (.ireturn, 1) := by decide +kernel
theorem dX5_want_0 : decode cX5_want 0 = .ok (.aload_n 0, 1) := by decide +kernel
theorem dX5_want_1 : decode cX5_want 1 = .ok (.iload_n 1, 1) := by decide +kernel
theorem dX5_want_2 : decode cX5_want 2 = .ok (.invokevirtual 99, 3) := by decide +kernel
theorem dX5_want_5 : decode cX5_want 5 = .ok (.iload_n 2, 1) := by decide +kernel
theorem dX5_want_6 : decode cX5_want 6 = .ok (.iconst 0, 1) := by decide +kernel
theorem dX5_want_7 : decode cX5_want 7 = .ok (.aload_n 0, 1) := by decide +kernel
theorem dX5_want_8 : decode cX5_want 8 = .ok (.getfield 26, 3) := by decide +kernel
theorem dX5_want_11 : decode cX5_want 11 = .ok (.getfield 106, 3) := by decide +kernel
theorem dX5_want_14 : decode cX5_want 14 = .ok (.iload_n 1, 1) := by decide +kernel
theorem dX5_want_15 : decode cX5_want 15 = .ok (.iaload, 1) := by decide +kernel
theorem dX5_want_16 : decode cX5_want 16 = .ok (.invokestatic 74, 3) := by decide +kernel
theorem dX5_want_19 : decode cX5_want 19 = .ok (.aload_n 0, 1) := by decide +kernel
theorem dX5_want_20 : decode cX5_want 20 = .ok (.getfield 26, 3) := by decide +kernel
theorem dX5_want_23 : decode cX5_want 23 = .ok (.getfield 110, 3) := by decide +kernel
theorem dX5_want_26 : decode cX5_want 26 = .ok (.iload_n 1, 1) := by decide +kernel
theorem dX5_want_27 : decode cX5_want 27 = .ok (.iload_n 2, 1) := by decide +kernel
theorem dX5_want_28 : decode cX5_want 28 = .ok (.iastore, 1) := by decide +kernel
theorem dX5_want_29 : decode cX5_want 29 = .ok (.aload_n 0, 1) := by decide +kernel
theorem dX5_want_30 : decode cX5_want 30 = .ok (.iconst 1, 1) := by decide +kernel
theorem dX5_want_31 : decode cX5_want 31 = .ok (.putfield 47, 3) := by decide +kernel
theorem dX5_want_34 : decode cX5_want 34 = .ok (.return_, 1) := by decide +kernel
theorem dL_inflow_0 : decode cL_inflow 0 = .ok (.aload_n 0, 1) := by decide +kernel
theorem dL_inflow_1 : decode cL_inflow 1 = .ok (.iload_n 1, 1) := by decide +kernel
theorem dL_inflow_2 : decode cL_inflow 2 = .ok (.iload_n 2, 1) := by decide +kernel
theorem dL_inflow_3 : decode cL_inflow 3 = .ok (.invokevirtual 40, 3) := by decide +kernel
theorem dL_inflow_6 : decode cL_inflow 6 = .ok (.goto 12, 3) := by decide +kernel
theorem dL_inflow_9 : decode cL_inflow 9 = .ok (.astore_n 3, 1) := by decide +kernel
theorem dL_inflow_10 : decode cL_inflow 10 = .ok (.iconst 1, 1) := by decide +kernel
theorem dL_inflow_11 : decode cL_inflow 11 = .ok (.ireturn, 1) := by decide +kernel
theorem dL_inflow_12 : decode cL_inflow 12 = .ok (.astore_n 3, 1) := by decide +kernel
theorem dL_inflow_13 : decode cL_inflow 13 = .ok (.iconst 2, 1) := by decide +kernel
theorem dL_inflow_14 : decode cL_inflow 14 = .ok (.ireturn, 1) := by decide +kernel
theorem dL_inflow_15 : decode cL_inflow 15 = .ok (.astore_n 3, 1) := by decide +kernel
theorem dL_inflow_16 : decode cL_inflow 16 = .ok (.iconst 3, 1) := by decide +kernel
theorem dL_inflow_17 : decode cL_inflow 17 = .ok (.ireturn, 1) := by decide +kernel
theorem dL_inflow_18 : decode cL_inflow 18 = .ok (.iconst 0, 1) := by decide +kernel
theorem dL_inflow_19 : decode cL_inflow 19 = .ok (.ireturn, 1) := by decide +kernel
theorem dX5_inflow_0 : decode cX5_inflow 0 = .ok (.aload_n 0, 1) := by decide +kernel
theorem dX5_inflow_1 : decode cX5_inflow 1 = .ok (.iload_n 1, 1) := by decide +kernel
theorem dX5_inflow_2 : decode cX5_inflow 2 = .ok (.invokevirtual 113, 3) := by decide +kernel
theorem dX5_inflow_5 : decode cX5_inflow 5 = .ok (.iload_n 2, 1) := by decide +kernel
theorem dX5_inflow_6 : decode cX5_inflow 6 = .ok (.iconst 0, 1) := by decide +kernel
theorem dX5_inflow_7 : decode cX5_inflow 7 = .ok (.ldc 73, 2) := by decide +kernel
theorem dX5_inflow_9 : decode cX5_inflow 9 = .ok (.invokestatic 74, 3) := by decide +kernel
theorem dX5_inflow_12 : decode cX5_inflow 12 = .ok (.aload_n 0, 1) := by decide +kernel
theorem dX5_inflow_13 : decode cX5_inflow 13 = .ok (.getfield 10, 3) := by decide +kernel
theorem dX5_inflow_16 : decode cX5_inflow 16 = .ok (.getfield 116, 3) := by decide +kernel
theorem dX5_inflow_19 : decode cX5_inflow 19 = .ok (.iload_n 1, 1) := by decide +kernel
theorem dX5_inflow_20 : decode cX5_inflow 20 = .ok (.iload_n 2, 1) := by decide +kernel
theorem dX5_inflow_21 : decode cX5_inflow 21 = .ok (.iastore, 1) := by decide +kernel
theorem dX5_inflow_22 : decode cX5_inflow 22 = .ok (.aload_n 0, 1) := by decide +kernel
theorem dX5_inflow_23 : decode cX5_inflow 23 = .ok (.iconst 1, 1) := by decide +kernel
theorem dX5_inflow_24 : decode cX5_inflow 24 = .ok (.putfield 47, 3) := by decide +kernel
theorem dX5_inflow_27 : decode cX5_inflow 27 = .ok (.return_, 1) := by decide +kernel
theorem dX5_checkReach_0 : decode cX5_checkReach 0 = .ok (.iload_n 1, 1) := by decide +kernel
theorem dX5_checkReach_1 : decode cX5_checkReach 1 = .ok (.bipush 32, 2) := by decide +kernel
theorem dX5_checkReach_3 : decode cX5_checkReach 3 = .ok (.invokestatic 51, 3) := by decide +kernel
theorem dX5_checkReach_6 : decode cX5_checkReach 6 = .ok (.aload_n 0, 1) := by decide +kernel
theorem dX5_checkReach_7 : decode cX5_checkReach 7 = .ok (.getfield 10, 3) := by decide +kernel
theorem dX5_checkReach_10 : decode cX5_checkReach 10 = .ok (.getfield 55, 3) := by decide +kernel
theorem dX5_checkReach_13 : decode cX5_checkReach 13 = .ok (.iload_n 1, 1) := by decide +kernel
theorem dX5_checkReach_14 : decode cX5_checkReach 14 = .ok (.baload, 1) := by decide +kernel
theorem dX5_checkReach_15 : decode cX5_checkReach 15 = .ok (.invokestatic 59, 3) := by decide +kernel
theorem dX5_checkReach_18 : decode cX5_checkReach 18 = .ok (.return_, 1) := by decide +kernel
theorem dL_release_0 : decode cL_release 0 = .ok (.aload 4, 2) := by decide +kernel
theorem dL_release_2 : decode cL_release 2 = .ok (.iconst 0, 1) := by decide +kernel
theorem dL_release_3 : decode cL_release 3 = .ok (.aload_n 0, 1) := by decide +kernel
theorem dL_release_4 : decode cL_release 4 = .ok (.iload_n 1, 1) := by decide +kernel
theorem dL_release_5 : decode cL_release 5 = .ok (.iload_n 2, 1) := by decide +kernel
theorem dL_release_6 : decode cL_release 6 = .ok (.iload_n 3, 1) := by decide +kernel
theorem dL_release_7 : decode cL_release 7 = .ok (.invokevirtual 43, 3) := by decide +kernel
theorem dL_release_10 : decode cL_release 10 = .ok (.i2l, 1) := by decide +kernel
theorem dL_release_11 : decode cL_release 11 = .ok (.lastore, 1) := by decide +kernel
theorem dL_release_12 : decode cL_release 12 = .ok (.goto 19, 3) := by decide +kernel
theorem dL_release_15 : decode cL_release 15 = .ok (.astore 5, 2) := by decide +kernel
theorem dL_release_17 : decode cL_release 17 = .ok (.iconst 1, 1) := by decide +kernel
theorem dL_release_18 : decode cL_release 18 = .ok (.ireturn, 1) := by decide +kernel
theorem dL_release_19 : decode cL_release 19 = .ok (.astore 5, 2) := by decide +kernel
theorem dL_release_21 : decode cL_release 21 = .ok (.iconst 2, 1) := by decide +kernel
theorem dL_release_22 : decode cL_release 22 = .ok (.ireturn, 1) := by decide +kernel
theorem dL_release_23 : decode cL_release 23 = .ok (.astore 5, 2) := by decide +kernel
theorem dL_release_25 : decode cL_release 25 = .ok (.iconst 3, 1) := by decide +kernel
theorem dL_release_26 : decode cL_release 26 = .ok (.ireturn, 1) := by decide +kernel
theorem dL_release_27 : decode cL_release 27 = .ok (.astore 5, 2) := by decide +kernel
theorem dL_release_29 : decode cL_release 29 = .ok (.iconst 4, 1) := by decide +kernel
theorem dL_release_30 : decode cL_release 30 = .ok (.ireturn, 1) := by decide +kernel
theorem dL_release_31 : decode cL_release 31 = .ok (.iconst 0, 1) := by decide +kernel
theorem dL_release_32 : decode cL_release 32 = .ok (.ireturn, 1) := by decide +kernel
theorem dX5_release_0 : decode cX5_release 0 = .ok (.iload_n 1, 1) := by decide +kernel
theorem dX5_release_1 : decode cX5_release 1 = .ok (.bipush 8, 2) := by decide +kernel
theorem dX5_release_3 : decode cX5_release 3 = .ok (.invokestatic 51, 3) := by decide +kernel
theorem dX5_release_6 : decode cX5_release 6 = .ok (.iload_n 3, 1) := by decide +kernel
theorem dX5_release_7 : decode cX5_release 7 = .ok (.bipush 32, 2) := by decide +kernel
theorem dX5_release_9 : decode cX5_release 9 = .ok (.invokestatic 51, 3) := by decide +kernel
theorem dX5_release_12 : decode cX5_release 12 = .ok (.aload_n 0, 1) := by decide +kernel
theorem dX5_release_13 : decode cX5_release 13 = .ok (.getfield 19, 3) := by decide +kernel
theorem dX5_release_16 : decode cX5_release 16 = .ok (.getfield 78, 3) := by decide +kernel
theorem dX5_release_19 : decode cX5_release 19 = .ok (.iload_n 1, 1) := by decide +kernel
theorem dX5_release_20 : decode cX5_release 20 = .ok (.baload, 1) := by decide +kernel
theorem dX5_release_21 : decode cX5_release 21 = .ok (.invokestatic 59, 3) := by decide +kernel
theorem dX5_release_24 : decode cX5_release 24 = .ok (.aload_n 0, 1) := by decide +kernel
theorem dX5_release_25 : decode cX5_release 25 = .ok (.getfield 10, 3) := by decide +kernel
theorem dX5_release_28 : decode cX5_release 28 = .ok (.getfield 55, 3) := by decide +kernel
theorem dX5_release_31 : decode cX5_release 31 = .ok (.iload_n 3, 1) := by decide +kernel
theorem dX5_release_32 : decode cX5_release 32 = .ok (.baload, 1) := by decide +kernel
theorem dX5_release_33 : decode cX5_release 33 = .ok (.invokestatic 59, 3) := by decide +kernel
theorem dX5_release_36 : decode cX5_release 36 = .ok (.iload_n 2, 1) := by decide +kernel
theorem dX5_release_37 : decode cX5_release 37 = .ok (.iconst 0, 1) := by decide +kernel
theorem dX5_release_38 : decode cX5_release 38 = .ok (.ldc 121, 2) := by decide +kernel
theorem dX5_release_40 : decode cX5_release 40 = .ok (.invokestatic 74, 3) := by decide +kernel
theorem dX5_release_43 : decode cX5_release 43 = .ok (.aload_n 0, 1) := by decide +kernel
theorem dX5_release_44 : decode cX5_release 44 = .ok (.aload_n 0, 1) := by decide +kernel
theorem dX5_release_45 : decode cX5_release 45 = .ok (.getfield 19, 3) := by decide +kernel
theorem dX5_release_48 : decode cX5_release 48 = .ok (.getfield 122, 3) := by decide +kernel
theorem dX5_release_51 : decode cX5_release 51 = .ok (.iload_n 1, 1) := by decide +kernel
theorem dX5_release_52 : decode cX5_release 52 = .ok (.iaload, 1) := by decide +kernel
theorem dX5_release_53 : decode cX5_release 53 = .ok (.iload_n 3, 1) := by decide +kernel
theorem dX5_release_54 : decode cX5_release 54 = .ok (.invokevirtual 82, 3) := by decide +kernel
theorem dX5_release_57 : decode cX5_release 57 = .ok (.aload_n 0, 1) := by decide +kernel
theorem dX5_release_58 : decode cX5_release 58 = .ok (.getfield 19, 3) := by decide +kernel
theorem dX5_release_61 : decode cX5_release 61 = .ok (.getfield 125, 3) := by decide +kernel
theorem dX5_release_64 : decode cX5_release 64 = .ok (.iload_n 1, 1) := by decide +kernel
theorem dX5_release_65 : decode cX5_release 65 = .ok (.iaload, 1) := by decide +kernel
theorem dX5_release_66 : decode cX5_release 66 = .ok (.iload_n 2, 1) := by decide +kernel
theorem dX5_release_67 : decode cX5_release 67 = .ok (.invokestatic 128, 3) := by decide +kernel
theorem dX5_release_70 : decode cX5_release 70 = .ok (.aload_n 0, 1) := by decide +kernel
theorem dX5_release_71 : decode cX5_release 71 = .ok (.getfield 19, 3) := by decide +kernel
theorem dX5_release_74 : decode cX5_release 74 = .ok (.iload_n 1, 1) := by decide +kernel
theorem dX5_release_75 : decode cX5_release 75 = .ok (.iload_n 2, 1) := by decide +kernel
theorem dX5_release_76 : decode cX5_release 76 = .ok (.invokevirtual 131, 3) := by decide +kernel
theorem dX5_release_79 : decode cX5_release 79 = .ok (.aload_n 0, 1) := by decide +kernel
theorem dX5_release_80 : decode cX5_release 80 = .ok (.getfield 10, 3) := by decide +kernel
theorem dX5_release_83 : decode cX5_release 83 = .ok (.aload_n 0, 1) := by decide +kernel
theorem dX5_release_84 : decode cX5_release 84 = .ok (.getfield 19, 3) := by decide +kernel
theorem dX5_release_87 : decode cX5_release 87 = .ok (.getfield 122, 3) := by decide +kernel
theorem dX5_release_90 : decode cX5_release 90 = .ok (.iload_n 1, 1) := by decide +kernel
theorem dX5_release_91 : decode cX5_release 91 = .ok (.iaload, 1) := by decide +kernel
theorem dX5_release_92 : decode cX5_release 92 = .ok (.iload_n 3, 1) := by decide +kernel
theorem dX5_release_93 : decode cX5_release 93 = .ok (.iload_n 2, 1) := by decide +kernel
theorem dX5_release_94 : decode cX5_release 94 = .ok (.invokevirtual 134, 3) := by decide +kernel
theorem dX5_release_97 : decode cX5_release 97 = .ok (.aload_n 0, 1) := by decide +kernel
theorem dX5_release_98 : decode cX5_release 98 = .ok (.iconst 1, 1) := by decide +kernel
theorem dX5_release_99 : decode cX5_release 99 = .ok (.putfield 47, 3) := by decide +kernel
theorem dX5_release_102 : decode cX5_release 102 = .ok (.aload_n 0, 1) := by decide +kernel
theorem dX5_release_103 : decode cX5_release 103 = .ok (.getfield 19, 3) := by decide +kernel
theorem dX5_release_106 : decode cX5_release 106 = .ok (.getfield 125, 3) := by decide +kernel
theorem dX5_release_109 : decode cX5_release 109 = .ok (.iload_n 1, 1) := by decide +kernel
theorem dX5_release_110 : decode cX5_release 110 = .ok (.iaload, 1) := by decide +kernel
theorem dX5_release_111 : decode cX5_release 111 = .ok (.ireturn, 1) := by decide +kernel
theorem dX5_checkEnough_0 : decode cX5_checkEnough 0 = .ok (.iload_n 0, 1) := by decide +kernel
theorem dX5_checkEnough_1 : decode cX5_checkEnough 1 = .ok (.iload_n 1, 1) := by decide +kernel
theorem dX5_checkEnough_2 : decode cX5_checkEnough 2 = .ok (.if_icmp .ge 13, 3) := by decide +kernel
theorem dX5_checkEnough_5 : decode cX5_checkEnough 5 = .ok (.new 233, 3) := by decide +kernel
theorem dX5_checkEnough_8 : decode cX5_checkEnough 8 = .ok (.dup, 1) := by decide +kernel
theorem dX5_checkEnough_9 : decode cX5_checkEnough 9 = .ok (.ldc 238, 2) := by decide +kernel
theorem dX5_checkEnough_11 : decode cX5_checkEnough 11 = .ok (.invokespecial 237, 3) := by decide +kernel
theorem dX5_checkEnough_14 : decode cX5_checkEnough 14 = .ok (.athrow, 1) := by decide +kernel
theorem dX5_checkEnough_15 : decode cX5_checkEnough 15 = .ok (.return_, 1) := by decide +kernel
theorem dX2_letOut_0 : decode cX2_letOut 0 = .ok (.aload_n 0, 1) := by decide +kernel
theorem dX2_letOut_1 : decode cX2_letOut 1 = .ok (.getfield 22, 3) := by decide +kernel
theorem dX2_letOut_4 : decode cX2_letOut 4 = .ok (.iload_n 1, 1) := by decide +kernel
theorem dX2_letOut_5 : decode cX2_letOut 5 = .ok (.dup2, 1) := by decide +kernel
theorem dX2_letOut_6 : decode cX2_letOut 6 = .ok (.iaload, 1) := by decide +kernel
theorem dX2_letOut_7 : decode cX2_letOut 7 = .ok (.iload_n 2, 1) := by decide +kernel
theorem dX2_letOut_8 : decode cX2_letOut 8 = .ok (.isub, 1) := by decide +kernel
theorem dX2_letOut_9 : decode cX2_letOut 9 = .ok (.iastore, 1) := by decide +kernel
theorem dX2_letOut_10 : decode cX2_letOut 10 = .ok (.aload_n 0, 1) := by decide +kernel
theorem dX2_letOut_11 : decode cX2_letOut 11 = .ok (.dup, 1) := by decide +kernel
theorem dX2_letOut_12 : decode cX2_letOut 12 = .ok (.getfield 25, 3) := by decide +kernel
theorem dX2_letOut_15 : decode cX2_letOut 15 = .ok (.iload_n 2, 1) := by decide +kernel
theorem dX2_letOut_16 : decode cX2_letOut 16 = .ok (.i2l, 1) := by decide +kernel
theorem dX2_letOut_17 : decode cX2_letOut 17 = .ok (.ladd, 1) := by decide +kernel
theorem dX2_letOut_18 : decode cX2_letOut 18 = .ok (.putfield 25, 3) := by decide +kernel
theorem dX2_letOut_21 : decode cX2_letOut 21 = .ok (.return_, 1) := by decide +kernel
theorem dX4_send_0 : decode cX4_send 0 = .ok (.iconst 0, 1) := by decide +kernel
theorem dX4_send_1 : decode cX4_send 1 = .ok (.istore 4, 2) := by decide +kernel
theorem dX4_send_3 : decode cX4_send 3 = .ok (.iload_n 1, 1) := by decide +kernel
theorem dX4_send_4 : decode cX4_send 4 = .ok (.istore 5, 2) := by decide +kernel
theorem dX4_send_6 : decode cX4_send 6 = .ok (.iconst 0, 1) := by decide +kernel
theorem dX4_send_7 : decode cX4_send 7 = .ok (.istore 6, 2) := by decide +kernel
theorem dX4_send_9 : decode cX4_send 9 = .ok (.iload 6, 2) := by decide +kernel
theorem dX4_send_11 : decode cX4_send 11 = .ok (.bipush 32, 2) := by decide +kernel
theorem dX4_send_13 : decode cX4_send 13 = .ok (.if_icmp .ge 54, 3) := by decide +kernel
theorem dX4_send_16 : decode cX4_send 16 = .ok (.iload 5, 2) := by decide +kernel
theorem dX4_send_18 : decode cX4_send 18 = .ok (.iconst (-1), 1) := by decide +kernel
theorem dX4_send_19 : decode cX4_send 19 = .ok (.if_icmp .eq 48, 3) := by decide +kernel
theorem dX4_send_22 : decode cX4_send 22 = .ok (.iload 4, 2) := by decide +kernel
theorem dX4_send_24 : decode cX4_send 24 = .ok (.ifCond .ne 43, 3) := by decide +kernel
theorem dX4_send_27 : decode cX4_send 27 = .ok (.aload_n 0, 1) := by decide +kernel
theorem dX4_send_28 : decode cX4_send 28 = .ok (.getfield 22, 3) := by decide +kernel
theorem dX4_send_31 : decode cX4_send 31 = .ok (.iload 5, 2) := by decide +kernel
theorem dX4_send_33 : decode cX4_send 33 = .ok (.dup2, 1) := by decide +kernel
theorem dX4_send_34 : decode cX4_send 34 = .ok (.laload, 1) := by decide +kernel
theorem dX4_send_35 : decode cX4_send 35 = .ok (.iload_n 3, 1) := by decide +kernel
theorem dX4_send_36 : decode cX4_send 36 = .ok (.i2l, 1) := by decide +kernel
theorem dX4_send_37 : decode cX4_send 37 = .ok (.ladd, 1) := by decide +kernel
theorem dX4_send_38 : decode cX4_send 38 = .ok (.lastore, 1) := by decide +kernel
theorem dX4_send_39 : decode cX4_send 39 = .ok (.iload 5, 2) := by decide +kernel
theorem dX4_send_41 : decode cX4_send 41 = .ok (.iload_n 2, 1) := by decide +kernel
theorem dX4_send_42 : decode cX4_send 42 = .ok (.if_icmp .ne 7, 3) := by decide +kernel
theorem dX4_send_45 : decode cX4_send 45 = .ok (.iconst 1, 1) := by decide +kernel
theorem dX4_send_46 : decode cX4_send 46 = .ok (.goto 4, 3) := by decide +kernel
theorem dX4_send_49 : decode cX4_send 49 = .ok (.iconst 0, 1) := by decide +kernel
theorem dX4_send_50 : decode cX4_send 50 = .ok (.istore 4, 2) := by decide +kernel
theorem dX4_send_52 : decode cX4_send 52 = .ok (.aload_n 0, 1) := by decide +kernel
theorem dX4_send_53 : decode cX4_send 53 = .ok (.getfield 15, 3) := by decide +kernel
theorem dX4_send_56 : decode cX4_send 56 = .ok (.iload 5, 2) := by decide +kernel
theorem dX4_send_58 : decode cX4_send 58 = .ok (.iaload, 1) := by decide +kernel
theorem dX4_send_59 : decode cX4_send 59 = .ok (.istore 5, 2) := by decide +kernel
theorem dX4_send_61 : decode cX4_send 61 = .ok (.iinc 6 1, 3) := by decide +kernel
theorem dX4_send_64 : decode cX4_send 64 = .ok (.goto (-55), 3) := by decide +kernel
theorem dX4_send_67 : decode cX4_send 67 = .ok (.return_, 1) := by decide +kernel
theorem dL_given_0 : decode cL_given 0 = .ok (.aload_n 2, 1) := by decide +kernel
theorem dL_given_1 : decode cL_given 1 = .ok (.iconst 0, 1) := by decide +kernel
theorem dL_given_2 : decode cL_given 2 = .ok (.aload_n 0, 1) := by decide +kernel
theorem dL_given_3 : decode cL_given 3 = .ok (.iload_n 1, 1) := by decide +kernel
theorem dL_given_4 : decode cL_given 4 = .ok (.invokevirtual 47, 3) := by decide +kernel
theorem dL_given_7 : decode cL_given 7 = .ok (.i2l, 1) := by decide +kernel
theorem dL_given_8 : decode cL_given 8 = .ok (.lastore, 1) := by decide +kernel
theorem dL_given_9 : decode cL_given 9 = .ok (.goto 9, 3) := by decide +kernel
theorem dL_given_12 : decode cL_given 12 = .ok (.astore_n 3, 1) := by decide +kernel
theorem dL_given_13 : decode cL_given 13 = .ok (.iconst 1, 1) := by decide +kernel
theorem dL_given_14 : decode cL_given 14 = .ok (.ireturn, 1) := by decide +kernel
theorem dL_given_15 : decode cL_given 15 = .ok (.astore_n 3, 1) := by decide +kernel
theorem dL_given_16 : decode cL_given 16 = .ok (.iconst 2, 1) := by decide +kernel
theorem dL_given_17 : decode cL_given 17 = .ok (.ireturn, 1) := by decide +kernel
theorem dL_given_18 : decode cL_given 18 = .ok (.iconst 0, 1) := by decide +kernel
theorem dL_given_19 : decode cL_given 19 = .ok (.ireturn, 1) := by decide +kernel
theorem dX5_given_0 : decode cX5_given 0 = .ok (.aload_n 0, 1) := by decide +kernel
theorem dX5_given_1 : decode cX5_given 1 = .ok (.iload_n 1, 1) := by decide +kernel
theorem dX5_given_2 : decode cX5_given 2 = .ok (.invokevirtual 99, 3) := by decide +kernel
theorem dX5_given_5 : decode cX5_given 5 = .ok (.aload_n 0, 1) := by decide +kernel
theorem dX5_given_6 : decode cX5_given 6 = .ok (.invokevirtual 137, 3) := by decide +kernel
theorem dX5_given_9 : decode cX5_given 9 = .ok (.aload_n 0, 1) := by decide +kernel
theorem dX5_given_10 : decode cX5_given 10 = .ok (.getfield 40, 3) := by decide +kernel
theorem dX5_given_13 : decode cX5_given 13 = .ok (.getfield 149, 3) := by decide +kernel
theorem dX5_given_16 : decode cX5_given 16 = .ok (.iload_n 1, 1) := by decide +kernel
theorem dX5_given_17 : decode cX5_given 17 = .ok (.iaload, 1) := by decide +kernel
theorem dX5_given_18 : decode cX5_given 18 = .ok (.ireturn, 1) := by decide +kernel
theorem dL_flow_0 : decode cL_flow 0 = .ok (.aload_n 3, 1) := by decide +kernel
theorem dL_flow_1 : decode cL_flow 1 = .ok (.iconst 0, 1) := by decide +kernel
theorem dL_flow_2 : decode cL_flow 2 = .ok (.aload_n 0, 1) := by decide +kernel
theorem dL_flow_3 : decode cL_flow 3 = .ok (.iload_n 1, 1) := by decide +kernel
theorem dL_flow_4 : decode cL_flow 4 = .ok (.iload_n 2, 1) := by decide +kernel
theorem dL_flow_5 : decode cL_flow 5 = .ok (.invokevirtual 51, 3) := by decide +kernel
theorem dL_flow_8 : decode cL_flow 8 = .ok (.lastore, 1) := by decide +kernel
theorem dL_flow_9 : decode cL_flow 9 = .ok (.goto 11, 3) := by decide +kernel
theorem dL_flow_12 : decode cL_flow 12 = .ok (.astore 4, 2) := by decide +kernel
theorem dL_flow_14 : decode cL_flow 14 = .ok (.iconst 1, 1) := by decide +kernel
theorem dL_flow_15 : decode cL_flow 15 = .ok (.ireturn, 1) := by decide +kernel
theorem dL_flow_16 : decode cL_flow 16 = .ok (.astore 4, 2) := by decide +kernel
theorem dL_flow_18 : decode cL_flow 18 = .ok (.iconst 2, 1) := by decide +kernel
theorem dL_flow_19 : decode cL_flow 19 = .ok (.ireturn, 1) := by decide +kernel
theorem dL_flow_20 : decode cL_flow 20 = .ok (.iconst 0, 1) := by decide +kernel
theorem dL_flow_21 : decode cL_flow 21 = .ok (.ireturn, 1) := by decide +kernel
theorem dX5_flow_0 : decode cX5_flow 0 = .ok (.aload_n 0, 1) := by decide +kernel
theorem dX5_flow_1 : decode cX5_flow 1 = .ok (.iload_n 1, 1) := by decide +kernel
theorem dX5_flow_2 : decode cX5_flow 2 = .ok (.invokevirtual 113, 3) := by decide +kernel
theorem dX5_flow_5 : decode cX5_flow 5 = .ok (.iload_n 2, 1) := by decide +kernel
theorem dX5_flow_6 : decode cX5_flow 6 = .ok (.ifCond .ne 17, 3) := by decide +kernel
theorem dX5_flow_9 : decode cX5_flow 9 = .ok (.aload_n 0, 1) := by decide +kernel
theorem dX5_flow_10 : decode cX5_flow 10 = .ok (.invokevirtual 137, 3) := by decide +kernel
theorem dX5_flow_13 : decode cX5_flow 13 = .ok (.aload_n 0, 1) := by decide +kernel
theorem dX5_flow_14 : decode cX5_flow 14 = .ok (.getfield 40, 3) := by decide +kernel
theorem dX5_flow_17 : decode cX5_flow 17 = .ok (.getfield 152, 3) := by decide +kernel
theorem dX5_flow_20 : decode cX5_flow 20 = .ok (.iload_n 1, 1) := by decide +kernel
theorem dX5_flow_21 : decode cX5_flow 21 = .ok (.laload, 1) := by decide +kernel
theorem dX5_flow_22 : decode cX5_flow 22 = .ok (.lreturn, 1) := by decide +kernel
theorem dX5_flow_23 : decode cX5_flow 23 = .ok (.iload_n 2, 1) := by decide +kernel
theorem dX5_flow_24 : decode cX5_flow 24 = .ok (.iconst 1, 1) := by decide +kernel
theorem dX5_flow_25 : decode cX5_flow 25 = .ok (.if_icmp .ne 15, 3) := by decide +kernel
theorem dX5_flow_28 : decode cX5_flow 28 = .ok (.aload_n 0, 1) := by decide +kernel
theorem dX5_flow_29 : decode cX5_flow 29 = .ok (.getfield 10, 3) := by decide +kernel
theorem dX5_flow_32 : decode cX5_flow 32 = .ok (.getfield 156, 3) := by decide +kernel
theorem dX5_flow_35 : decode cX5_flow 35 = .ok (.iload_n 1, 1) := by decide +kernel
theorem dX5_flow_36 : decode cX5_flow 36 = .ok (.laload, 1) := by decide +kernel
theorem dX5_flow_37 : decode cX5_flow 37 = .ok (.goto 6, 3) := by decide +kernel
theorem dX5_flow_40 : decode cX5_flow 40 = .ok (.ldc2_w 159, 3) := by decide +kernel
theorem dX5_flow_43 : decode cX5_flow 43 = .ok (.lreturn, 1) := by decide +kernel
theorem dL_call_0 : decode cL_call 0 = .ok (.aload_n 2, 1) := by decide +kernel
theorem dL_call_1 : decode cL_call 1 = .ok (.iconst 0, 1) := by decide +kernel
theorem dL_call_2 : decode cL_call 2 = .ok (.aload_n 0, 1) := by decide +kernel
theorem dL_call_3 : decode cL_call 3 = .ok (.iload_n 1, 1) := by decide +kernel
theorem dL_call_4 : decode cL_call 4 = .ok (.invokevirtual 55, 3) := by decide +kernel
theorem dL_call_7 : decode cL_call 7 = .ok (.i2l, 1) := by decide +kernel
theorem dL_call_8 : decode cL_call 8 = .ok (.lastore, 1) := by decide +kernel
theorem dL_call_9 : decode cL_call 9 = .ok (.goto 9, 3) := by decide +kernel
theorem dL_call_12 : decode cL_call 12 = .ok (.astore_n 3, 1) := by decide +kernel
theorem dL_call_13 : decode cL_call 13 = .ok (.iconst 1, 1) := by decide +kernel
theorem dL_call_14 : decode cL_call 14 = .ok (.ireturn, 1) := by decide +kernel
theorem dL_call_15 : decode cL_call 15 = .ok (.astore_n 3, 1) := by decide +kernel
theorem dL_call_16 : decode cL_call 16 = .ok (.iconst 2, 1) := by decide +kernel
theorem dL_call_17 : decode cL_call 17 = .ok (.ireturn, 1) := by decide +kernel
theorem dL_call_18 : decode cL_call 18 = .ok (.iconst 0, 1) := by decide +kernel
theorem dL_call_19 : decode cL_call 19 = .ok (.ireturn, 1) := by decide +kernel
theorem dX5_call_0 : decode cX5_call 0 = .ok (.aload_n 0, 1) := by decide +kernel
theorem dX5_call_1 : decode cX5_call 1 = .ok (.iload_n 1, 1) := by decide +kernel
theorem dX5_call_2 : decode cX5_call 2 = .ok (.invokevirtual 99, 3) := by decide +kernel
theorem dX5_call_5 : decode cX5_call 5 = .ok (.aload_n 0, 1) := by decide +kernel
theorem dX5_call_6 : decode cX5_call 6 = .ok (.invokevirtual 137, 3) := by decide +kernel
theorem dX5_call_9 : decode cX5_call 9 = .ok (.aload_n 0, 1) := by decide +kernel
theorem dX5_call_10 : decode cX5_call 10 = .ok (.iload_n 1, 1) := by decide +kernel
theorem dX5_call_11 : decode cX5_call 11 = .ok (.invokevirtual 146, 3) := by decide +kernel
theorem dX5_call_14 : decode cX5_call 14 = .ok (.ifCond .ne 5, 3) := by decide +kernel
theorem dX5_call_17 : decode cX5_call 17 = .ok (.iconst (-1), 1) := by decide +kernel
theorem dX5_call_18 : decode cX5_call 18 = .ok (.ireturn, 1) := by decide +kernel
theorem dX5_call_19 : decode cX5_call 19 = .ok (.aload_n 0, 1) := by decide +kernel
theorem dX5_call_20 : decode cX5_call 20 = .ok (.getfield 40, 3) := by decide +kernel
theorem dX5_call_23 : decode cX5_call 23 = .ok (.getfield 149, 3) := by decide +kernel
theorem dX5_call_26 : decode cX5_call 26 = .ok (.iload_n 1, 1) := by decide +kernel
theorem dX5_call_27 : decode cX5_call 27 = .ok (.iaload, 1) := by decide +kernel
theorem dX5_call_28 : decode cX5_call 28 = .ok (.iconst 1, 1) := by decide +kernel
theorem dX5_call_29 : decode cX5_call 29 = .ok (.iadd, 1) := by decide +kernel
theorem dX5_call_30 : decode cX5_call 30 = .ok (.istore_n 2, 1) := by decide +kernel
theorem dX5_call_31 : decode cX5_call 31 = .ok (.aload_n 0, 1) := by decide +kernel
theorem dX5_call_32 : decode cX5_call 32 = .ok (.getfield 44, 3) := by decide +kernel
theorem dX5_call_35 : decode cX5_call 35 = .ok (.aload_n 0, 1) := by decide +kernel
theorem dX5_call_36 : decode cX5_call 36 = .ok (.getfield 10, 3) := by decide +kernel
theorem dX5_call_39 : decode cX5_call 39 = .ok (.aload_n 0, 1) := by decide +kernel
theorem dX5_call_40 : decode cX5_call 40 = .ok (.getfield 19, 3) := by decide +kernel
theorem dX5_call_43 : decode cX5_call 43 = .ok (.invokevirtual 161, 3) := by decide +kernel
theorem dX5_call_46 : decode cX5_call 46 = .ok (.aload_n 0, 1) := by decide +kernel
theorem dX5_call_47 : decode cX5_call 47 = .ok (.getfield 44, 3) := by decide +kernel
theorem dX5_call_50 : decode cX5_call 50 = .ok (.aload_n 0, 1) := by decide +kernel
theorem dX5_call_51 : decode cX5_call 51 = .ok (.getfield 10, 3) := by decide +kernel
theorem dX5_call_54 : decode cX5_call 54 = .ok (.aload_n 0, 1) := by decide +kernel
theorem dX5_call_55 : decode cX5_call 55 = .ok (.getfield 26, 3) := by decide +kernel
theorem dX5_call_58 : decode cX5_call 58 = .ok (.iload_n 1, 1) := by decide +kernel
theorem dX5_call_59 : decode cX5_call 59 = .ok (.invokevirtual 165, 3) := by decide +kernel
theorem dX5_call_62 : decode cX5_call 62 = .ok (.iload_n 2, 1) := by decide +kernel
theorem dX5_call_63 : decode cX5_call 63 = .ok (.if_icmp .ge 5, 3) := by decide +kernel
theorem dX5_call_66 : decode cX5_call 66 = .ok (.iconst (-1), 1) := by decide +kernel
