theorem dX5_init_0 : decode cX5_init 0 = .ok (.aload_n 0, 1) := by decide +kernel
theorem dX5_init_1 : decode cX5_init 1 = .ok (.invokespecial 1, 3) := by decide +kernel
theorem dX5_init_4 : decode cX5_init 4 = .ok (.aload_n 0, 1) := by decide +kernel
theorem dX5_init_5 : decode cX5_init 5 = .ok (.new 7, 3) := by decide +kernel
theorem dX5_init_8 : decode cX5_init 8 = .ok (.dup, 1) := by decide +kernel
theorem dX5_init_9 : decode cX5_init 9 = .ok (.invokespecial 9, 3) := by decide +kernel
theorem dX5_init_12 : decode cX5_init 12 = .ok (.putfield 10, 3) := by decide +kernel
theorem dX5_init_15 : decode cX5_init 15 = .ok (.aload_n 0, 1) := by decide +kernel
theorem dX5_init_16 : decode cX5_init 16 = .ok (.new 16, 3) := by decide +kernel
theorem dX5_init_19 : decode cX5_init 19 = .ok (.dup, 1) := by decide +kernel
theorem dX5_init_20 : decode cX5_init 20 = .ok (.invokespecial 18, 3) := by decide +kernel
theorem dX5_init_23 : decode cX5_init 23 = .ok (.putfield 19, 3) := by decide +kernel
theorem dX5_init_26 : decode cX5_init 26 = .ok (.aload_n 0, 1) := by decide +kernel
theorem dX5_init_27 : decode cX5_init 27 = .ok (.new 23, 3) := by decide +kernel
theorem dX5_init_30 : decode cX5_init 30 = .ok (.dup, 1) := by decide +kernel
theorem dX5_init_31 : decode cX5_init 31 = .ok (.invokespecial 25, 3) := by decide +kernel
theorem dX5_init_34 : decode cX5_init 34 = .ok (.putfield 26, 3) := by decide +kernel
theorem dX5_init_37 : decode cX5_init 37 = .ok (.aload_n 0, 1) := by decide +kernel
theorem dX5_init_38 : decode cX5_init 38 = .ok (.new 30, 3) := by decide +kernel
theorem dX5_init_41 : decode cX5_init 41 = .ok (.dup, 1) := by decide +kernel
theorem dX5_init_42 : decode cX5_init 42 = .ok (.invokespecial 32, 3) := by decide +kernel
theorem dX5_init_45 : decode cX5_init 45 = .ok (.putfield 33, 3) := by decide +kernel
theorem dX5_init_48 : decode cX5_init 48 = .ok (.aload_n 0, 1) := by decide +kernel
theorem dX5_init_49 : decode cX5_init 49 = .ok (.new 37, 3) := by decide +kernel
theorem dX5_init_52 : decode cX5_init 52 = .ok (.dup, 1) := by decide +kernel
theorem dX5_init_53 : decode cX5_init 53 = .ok (.invokespecial 39, 3) := by decide +kernel
theorem dX5_init_56 : decode cX5_init 56 = .ok (.putfield 40, 3) := by decide +kernel
theorem dX5_init_59 : decode cX5_init 59 = .ok (.aload_n 0, 1) := by decide +kernel
theorem dX5_init_60 : decode cX5_init 60 = .ok (.new 37, 3) := by decide +kernel
theorem dX5_init_63 : decode cX5_init 63 = .ok (.dup, 1) := by decide +kernel
theorem dX5_init_64 : decode cX5_init 64 = .ok (.invokespecial 39, 3) := by decide +kernel
theorem dX5_init_67 : decode cX5_init 67 = .ok (.putfield 44, 3) := by decide +kernel
theorem dX5_init_70 : decode cX5_init 70 = .ok (.aload_n 0, 1) := by decide +kernel
theorem dX5_init_71 : decode cX5_init 71 = .ok (.iconst 1, 1) := by decide +kernel
theorem dX5_init_72 : decode cX5_init 72 = .ok (.putfield 47, 3) := by decide +kernel
theorem dX5_init_75 : decode cX5_init 75 = .ok (.return_, 1) := by decide +kernel
theorem dX4_init_0 : decode cX4_init 0 = .ok (.aload_n 0, 1) := by decide +kernel
theorem dX4_init_1 : decode cX4_init 1 = .ok (.invokespecial 3, 3) := by decide +kernel
theorem dX4_init_4 : decode cX4_init 4 = .ok (.aload_n 0, 1) := by decide +kernel
theorem dX4_init_5 : decode cX4_init 5 = .ok (.bipush 32, 2) := by decide +kernel
theorem dX4_init_7 : decode cX4_init 7 = .ok (.newarray .boolean, 2) := by decide +kernel
theorem dX4_init_9 : decode cX4_init 9 = .ok (.putfield 9, 3) := by decide +kernel
theorem dX4_init_12 : decode cX4_init 12 = .ok (.aload_n 0, 1) := by decide +kernel
theorem dX4_init_13 : decode cX4_init 13 = .ok (.bipush 32, 2) := by decide +kernel
theorem dX4_init_15 : decode cX4_init 15 = .ok (.newarray .int, 2) := by decide +kernel
theorem dX4_init_17 : decode cX4_init 17 = .ok (.putfield 15, 3) := by decide +kernel
theorem dX4_init_20 : decode cX4_init 20 = .ok (.aload_n 0, 1) := by decide +kernel
theorem dX4_init_21 : decode cX4_init 21 = .ok (.bipush 32, 2) := by decide +kernel
theorem dX4_init_23 : decode cX4_init 23 = .ok (.newarray .int, 2) := by decide +kernel
theorem dX4_init_25 : decode cX4_init 25 = .ok (.putfield 19, 3) := by decide +kernel
theorem dX4_init_28 : decode cX4_init 28 = .ok (.aload_n 0, 1) := by decide +kernel
theorem dX4_init_29 : decode cX4_init 29 = .ok (.bipush 32, 2) := by decide +kernel
theorem dX4_init_31 : decode cX4_init 31 = .ok (.newarray .long, 2) := by decide +kernel
theorem dX4_init_33 : decode cX4_init 33 = .ok (.putfield 22, 3) := by decide +kernel
theorem dX4_init_36 : decode cX4_init 36 = .ok (.aload_n 0, 1) := by decide +kernel
theorem dX4_init_37 : decode cX4_init 37 = .ok (.iconst (-1), 1) := by decide +kernel
theorem dX4_init_38 : decode cX4_init 38 = .ok (.putfield 26, 3) := by decide +kernel
theorem dX4_init_41 : decode cX4_init 41 = .ok (.return_, 1) := by decide +kernel
theorem dX2_init_0 : decode cX2_init 0 = .ok (.aload_n 0, 1) := by decide +kernel
theorem dX2_init_1 : decode cX2_init 1 = .ok (.invokespecial 3, 3) := by decide +kernel
theorem dX2_init_4 : decode cX2_init 4 = .ok (.aload_n 0, 1) := by decide +kernel
theorem dX2_init_5 : decode cX2_init 5 = .ok (.bipush 8, 2) := by decide +kernel
theorem dX2_init_7 : decode cX2_init 7 = .ok (.newarray .boolean, 2) := by decide +kernel
theorem dX2_init_9 : decode cX2_init 9 = .ok (.putfield 9, 3) := by decide +kernel
theorem dX2_init_12 : decode cX2_init 12 = .ok (.aload_n 0, 1) := by decide +kernel
theorem dX2_init_13 : decode cX2_init 13 = .ok (.bipush 8, 2) := by decide +kernel
theorem dX2_init_15 : decode cX2_init 15 = .ok (.newarray .int, 2) := by decide +kernel
theorem dX2_init_17 : decode cX2_init 17 = .ok (.putfield 15, 3) := by decide +kernel
theorem dX2_init_20 : decode cX2_init 20 = .ok (.aload_n 0, 1) := by decide +kernel
theorem dX2_init_21 : decode cX2_init 21 = .ok (.bipush 8, 2) := by decide +kernel
theorem dX2_init_23 : decode cX2_init 23 = .ok (.newarray .int, 2) := by decide +kernel
theorem dX2_init_25 : decode cX2_init 25 = .ok (.putfield 19, 3) := by decide +kernel
theorem dX2_init_28 : decode cX2_init 28 = .ok (.aload_n 0, 1) := by decide +kernel
theorem dX2_init_29 : decode cX2_init 29 = .ok (.bipush 8, 2) := by decide +kernel
theorem dX2_init_31 : decode cX2_init 31 = .ok (.newarray .int, 2) := by decide +kernel
theorem dX2_init_33 : decode cX2_init 33 = .ok (.putfield 22, 3) := by decide +kernel
theorem dX2_init_36 : decode cX2_init 36 = .ok (.return_, 1) := by decide +kernel
theorem dX3_init_0 : decode cX3_init 0 = .ok (.aload_n 0, 1) := by decide +kernel
theorem dX3_init_1 : decode cX3_init 1 = .ok (.invokespecial 3, 3) := by decide +kernel
theorem dX3_init_4 : decode cX3_init 4 = .ok (.aload_n 0, 1) := by decide +kernel
theorem dX3_init_5 : decode cX3_init 5 = .ok (.bipush 40, 2) := by decide +kernel
theorem dX3_init_7 : decode cX3_init 7 = .ok (.newarray .boolean, 2) := by decide +kernel
theorem dX3_init_9 : decode cX3_init 9 = .ok (.putfield 9, 3) := by decide +kernel
theorem dX3_init_12 : decode cX3_init 12 = .ok (.aload_n 0, 1) := by decide +kernel
theorem dX3_init_13 : decode cX3_init 13 = .ok (.bipush 40, 2) := by decide +kernel
theorem dX3_init_15 : decode cX3_init 15 = .ok (.newarray .int, 2) := by decide +kernel
theorem dX3_init_17 : decode cX3_init 17 = .ok (.putfield 15, 3) := by decide +kernel
theorem dX3_init_20 : decode cX3_init 20 = .ok (.aload_n 0, 1) := by decide +kernel
theorem dX3_init_21 : decode cX3_init 21 = .ok (.bipush 40, 2) := by decide +kernel
theorem dX3_init_23 : decode cX3_init 23 = .ok (.newarray .int, 2) := by decide +kernel
theorem dX3_init_25 : decode cX3_init 25 = .ok (.putfield 19, 3) := by decide +kernel
theorem dX3_init_28 : decode cX3_init 28 = .ok (.aload_n 0, 1) := by decide +kernel
theorem dX3_init_29 : decode cX3_init 29 = .ok (.bipush 40, 2) := by decide +kernel
theorem dX3_init_31 : decode cX3_init 31 = .ok (.newarray .int, 2) := by decide +kernel
theorem dX3_init_33 : decode cX3_init 33 = .ok (.putfield 22, 3) := by decide +kernel
theorem dX3_init_36 : decode cX3_init 36 = .ok (.aload_n 0, 1) := by decide +kernel
theorem dX3_init_37 : decode cX3_init 37 = .ok (.bipush 40, 2) := by decide +kernel
theorem dX3_init_39 : decode cX3_init 39 = .ok (.newarray .int, 2) := by decide +kernel
theorem dX3_init_41 : decode cX3_init 41 = .ok (.putfield 25, 3) := by decide +kernel
theorem dX3_init_44 : decode cX3_init 44 = .ok (.aload_n 0, 1) := by decide +kernel
theorem dX3_init_45 : decode cX3_init 45 = .ok (.bipush 40, 2) := by decide +kernel
theorem dX3_init_47 : decode cX3_init 47 = .ok (.newarray .int, 2) := by decide +kernel
theorem dX3_init_49 : decode cX3_init 49 = .ok (.putfield 28, 3) := by decide +kernel
theorem dX3_init_52 : decode cX3_init 52 = .ok (.aload_n 0, 1) := by decide +kernel
theorem dX3_init_53 : decode cX3_init 53 = .ok (.bipush 40, 2) := by decide +kernel
theorem dX3_init_55 : decode cX3_init 55 = .ok (.newarray .int, 2) := by decide +kernel
theorem dX3_init_57 : decode cX3_init 57 = .ok (.putfield 31, 3) := by decide +kernel
theorem dX3_init_60 : decode cX3_init 60 = .ok (.aload_n 0, 1) := by decide +kernel
theorem dX3_init_61 : decode cX3_init 61 = .ok (.bipush 40, 2) := by decide +kernel
theorem dX3_init_63 : decode cX3_init 63 = .ok (.newarray .int, 2) := by decide +kernel
theorem dX3_init_65 : decode cX3_init 65 = .ok (.putfield 34, 3) := by decide +kernel
theorem dX3_init_68 : decode cX3_init 68 = .ok (.aload_n 0, 1) := by decide +kernel
theorem dX3_init_69 : decode cX3_init 69 = .ok (.bipush 40, 2) := by decide +kernel
theorem dX3_init_71 : decode cX3_init 71 = .ok (.newarray .int, 2) := by decide +kernel
theorem dX3_init_73 : decode cX3_init 73 = .ok (.putfield 37, 3) := by decide +kernel
theorem dX3_init_76 : decode cX3_init 76 = .ok (.return_, 1) := by decide +kernel
theorem dX0_init_0 : decode cX0_init 0 = .ok (.aload_n 0, 1) := by decide +kernel
theorem dX0_init_1 : decode cX0_init 1 = .ok (.invokespecial 3, 3) := by decide +kernel
theorem dX0_init_4 : decode cX0_init 4 = .ok (.aload_n 0, 1) := by decide +kernel
theorem dX0_init_5 : decode cX0_init 5 = .ok (.sipush 300, 3) := by decide +kernel
theorem dX0_init_8 : decode cX0_init 8 = .ok (.newarray .long, 2) := by decide +kernel
theorem dX0_init_10 : decode cX0_init 10 = .ok (.putfield 11, 3) := by decide +kernel
theorem dX0_init_13 : decode cX0_init 13 = .ok (.return_, 1) := by decide +kernel
theorem dX1_init_0 : decode cX1_init 0 = .ok (.aload_n 0, 1) := by decide +kernel
theorem dX1_init_1 : decode cX1_init 1 = .ok (.invokespecial 3, 3) := by decide +kernel
theorem dX1_init_4 : decode cX1_init 4 = .ok (.aload_n 0, 1) := by decide +kernel
theorem dX1_init_5 : decode cX1_init 5 = .ok (.bipush 40, 2) := by decide +kernel
theorem dX1_init_7 : decode cX1_init 7 = .ok (.newarray .int, 2) := by decide +kernel
theorem dX1_init_9 : decode cX1_init 9 = .ok (.putfield 9, 3) := by decide +kernel
theorem dX1_init_12 : decode cX1_init 12 = .ok (.aload_n 0, 1) := by decide +kernel
theorem dX1_init_13 : decode cX1_init 13 = .ok (.bipush 32, 2) := by decide +kernel
theorem dX1_init_15 : decode cX1_init 15 = .ok (.newarray .long, 2) := by decide +kernel
theorem dX1_init_17 : decode cX1_init 17 = .ok (.putfield 15, 3) := by decide +kernel
theorem dX1_init_20 : decode cX1_init 20 = .ok (.aload_n 0, 1) := by decide +kernel
theorem dX1_init_21 : decode cX1_init 21 = .ok (.bipush 8, 2) := by decide +kernel
theorem dX1_init_23 : decode cX1_init 23 = .ok (.newarray .int, 2) := by decide +kernel
theorem dX1_init_25 : decode cX1_init 25 = .ok (.putfield 19, 3) := by decide +kernel
theorem dX1_init_28 : decode cX1_init 28 = .ok (.return_, 1) := by decide +kernel
theorem dX5_plan_0 : decode cX5_plan 0 = .ok (.aload_n 0, 1) := by decide +kernel
theorem dX5_plan_1 : decode cX5_plan 1 = .ok (.invokevirtual 137, 3) := by decide +kernel
theorem dX5_plan_4 : decode cX5_plan 4 = .ok (.iconst 0, 1) := by decide +kernel
theorem dX5_plan_5 : decode cX5_plan 5 = .ok (.istore_n 1, 1) := by decide +kernel
theorem dX5_plan_6 : decode cX5_plan 6 = .ok (.iconst 0, 1) := by decide +kernel
theorem dX5_plan_7 : decode cX5_plan 7 = .ok (.istore_n 2, 1) := by decide +kernel
theorem dX5_plan_8 : decode cX5_plan 8 = .ok (.iload_n 2, 1) := by decide +kernel
theorem dX5_plan_9 : decode cX5_plan 9 = .ok (.aload_n 0, 1) := by decide +kernel
theorem dX5_plan_10 : decode cX5_plan 10 = .ok (.getfield 26, 3) := by decide +kernel
theorem dX5_plan_13 : decode cX5_plan 13 = .ok (.getfield 140, 3) := by decide +kernel
theorem dX5_plan_16 : decode cX5_plan 16 = .ok (.if_icmp .ge 28, 3) := by decide +kernel
theorem dX5_plan_19 : decode cX5_plan 19 = .ok (.aload_n 0, 1) := by decide +kernel
theorem dX5_plan_20 : decode cX5_plan 20 = .ok (.aload_n 0, 1) := by decide +kernel
theorem dX5_plan_21 : decode cX5_plan 21 = .ok (.getfield 26, 3) := by decide +kernel
theorem dX5_plan_24 : decode cX5_plan 24 = .ok (.getfield 143, 3) := by decide +kernel
theorem dX5_plan_27 : decode cX5_plan 27 = .ok (.iload_n 2, 1) := by decide +kernel
theorem dX5_plan_28 : decode cX5_plan 28 = .ok (.iaload, 1) := by decide +kernel
theorem dX5_plan_29 : decode cX5_plan 29 = .ok (.invokevirtual 146, 3) := by decide +kernel
theorem dX5_plan_32 : decode cX5_plan 32 = .ok (.ifCond .eq 6, 3) := by decide +kernel
theorem dX5_plan_35 : decode cX5_plan 35 = .ok (.iinc 1 1, 3) := by decide +kernel
theorem dX5_plan_38 : decode cX5_plan 38 = .ok (.iinc 2 1, 3) := by decide +kernel
theorem dX5_plan_41 : decode cX5_plan 41 = .ok (.goto (-33), 3) := by decide +kernel
theorem dX5_plan_44 : decode cX5_plan 44 = .ok (.iload_n 1, 1) := by decide +kernel
theorem dX5_plan_45 : decode cX5_plan 45 = .ok (.ireturn, 1) := by decide +kernel
theorem dX5_settleToday_0 : decode cX5_settleToday 0 = .ok (.aload_n 0, 1) := by decide +kernel
theorem dX5_settleToday_1 : decode cX5_settleToday 1 = .ok (.getfield 47, 3) := by decide +kernel
theorem dX5_settleToday_4 : decode cX5_settleToday 4 = .ok (.ifCond .eq 39, 3) := by decide +kernel
theorem dX5_settleToday_7 : decode cX5_settleToday 7 = .ok (.aload_n 0, 1) := by decide +kernel
theorem dX5_settleToday_8 : decode cX5_settleToday 8 = .ok (.getfield 40, 3) := by decide +kernel
theorem dX5_settleToday_11 : decode cX5_settleToday 11 = .ok (.aload_n 0, 1) := by decide +kernel
theorem dX5_settleToday_12 : decode cX5_settleToday 12 = .ok (.getfield 10, 3) := by decide +kernel
theorem dX5_settleToday_15 : decode cX5_settleToday 15 = .ok (.aload_n 0, 1) := by decide +kernel
theorem dX5_settleToday_16 : decode cX5_settleToday 16 = .ok (.getfield 19, 3) := by decide +kernel
theorem dX5_settleToday_19 : decode cX5_settleToday 19 = .ok (.invokevirtual 161, 3) := by decide +kernel
theorem dX5_settleToday_22 : decode cX5_settleToday 22 = .ok (.aload_n 0, 1) := by decide +kernel
theorem dX5_settleToday_23 : decode cX5_settleToday 23 = .ok (.getfield 40, 3) := by decide +kernel
theorem dX5_settleToday_26 : decode cX5_settleToday 26 = .ok (.aload_n 0, 1) := by decide +kernel
theorem dX5_settleToday_27 : decode cX5_settleToday 27 = .ok (.getfield 10, 3) := by decide +kernel
theorem dX5_settleToday_30 : decode cX5_settleToday 30 = .ok (.aload_n 0, 1) := by decide +kernel
theorem dX5_settleToday_31 : decode cX5_settleToday 31 = .ok (.getfield 26, 3) := by decide +kernel
theorem dX5_settleToday_34 : decode cX5_settleToday 34 = .ok (.iconst (-1), 1) := by decide +kernel
theorem dX5_settleToday_35 : decode cX5_settleToday 35 = .ok (.invokevirtual 173, 3) := by decide +kernel
theorem dX5_settleToday_38 : decode cX5_settleToday 38 = .ok (.aload_n 0, 1) := by decide +kernel
theorem dX5_settleToday_39 : decode cX5_settleToday 39 = .ok (.iconst 0, 1) := by decide +kernel
theorem dX5_settleToday_40 : decode cX5_settleToday 40 = .ok (.putfield 47, 3) := by decide +kernel
theorem dX5_settleToday_43 : decode cX5_settleToday 43 = .ok (.return_, 1) := by decide +kernel
theorem dX1_begin_0 : decode cX1_begin 0 = .ok (.aload_n 0, 1) := by decide +kernel
theorem dX1_begin_1 : decode cX1_begin 1 = .ok (.getfield 9, 3) := by decide +kernel
theorem dX1_begin_4 : decode cX1_begin 4 = .ok (.iconst 0, 1) := by decide +kernel
theorem dX1_begin_5 : decode cX1_begin 5 = .ok (.invokestatic 22, 3) := by decide +kernel
theorem dX1_begin_8 : decode cX1_begin 8 = .ok (.aload_n 0, 1) := by decide +kernel
theorem dX1_begin_9 : decode cX1_begin 9 = .ok (.getfield 15, 3) := by decide +kernel
theorem dX1_begin_12 : decode cX1_begin 12 = .ok (.lconst 0, 1) := by decide +kernel
theorem dX1_begin_13 : decode cX1_begin 13 = .ok (.invokestatic 28, 3) := by decide +kernel
theorem dX1_begin_16 : decode cX1_begin 16 = .ok (.iconst 0, 1) := by decide +kernel
theorem dX1_begin_17 : decode cX1_begin 17 = .ok (.istore_n 3, 1) := by decide +kernel
theorem dX1_begin_18 : decode cX1_begin 18 = .ok (.iload_n 3, 1) := by decide +kernel
theorem dX1_begin_19 : decode cX1_begin 19 = .ok (.bipush 32, 2) := by decide +kernel
theorem dX1_begin_21 : decode cX1_begin 21 = .ok (.if_icmp .ge 24, 3) := by decide +kernel
theorem dX1_begin_24 : decode cX1_begin 24 = .ok (.aload_n 1, 1) := by decide +kernel
theorem dX1_begin_25 : decode cX1_begin 25 = .ok (.getfield 31, 3) := by decide +kernel
theorem dX1_begin_28 : decode cX1_begin 28 = .ok (.iload_n 3, 1) := by decide +kernel
theorem dX1_begin_29 : decode cX1_begin 29 = .ok (.iaload, 1) := by decide +kernel
theorem dX1_begin_30 : decode cX1_begin 30 = .ok (.ifCond .le 9, 3) := by decide +kernel
theorem dX1_begin_33 : decode cX1_begin 33 = .ok (.aload_n 0, 1) := by decide +kernel
theorem dX1_begin_34 : decode cX1_begin 34 = .ok (.aload_n 1, 1) := by decide +kernel
theorem dX1_begin_35 : decode cX1_begin 35 = .ok (.iload_n 3, 1) := by decide +kernel
theorem dX1_begin_36 : decode cX1_begin 36 = .ok (.invokevirtual 36, 3) := by decide +kernel
theorem dX1_begin_39 : decode cX1_begin 39 = .ok (.iinc 3 1, 3) := by decide +kernel
theorem dX1_begin_42 : decode cX1_begin 42 = .ok (.goto (-24), 3) := by decide +kernel
theorem dX1_begin_45 : decode cX1_begin 45 = .ok (.iconst 0, 1) := by decide +kernel
theorem dX1_begin_46 : decode cX1_begin 46 = .ok (.istore_n 3, 1) := by decide +kernel
theorem dX1_begin_47 : decode cX1_begin 47 = .ok (.iload_n 3, 1) := by decide +kernel
theorem dX1_begin_48 : decode cX1_begin 48 = .ok (.bipush 8, 2) := by decide +kernel
theorem dX1_begin_50 : decode cX1_begin 50 = .ok (.if_icmp .ge 28, 3) := by decide +kernel
theorem dX1_begin_53 : decode cX1_begin 53 = .ok (.aload_n 0, 1) := by decide +kernel
theorem dX1_begin_54 : decode cX1_begin 54 = .ok (.getfield 19, 3) := by decide +kernel
theorem dX1_begin_57 : decode cX1_begin 57 = .ok (.iload_n 3, 1) := by decide +kernel
theorem dX1_begin_58 : decode cX1_begin 58 = .ok (.aload_n 2, 1) := by decide +kernel
theorem dX1_begin_59 : decode cX1_begin 59 = .ok (.getfield 40, 3) := by decide +kernel
theorem dX1_begin_62 : decode cX1_begin 62 = .ok (.iload_n 3, 1) := by decide +kernel
theorem dX1_begin_63 : decode cX1_begin 63 = .ok (.iaload, 1) := by decide +kernel
theorem dX1_begin_64 : decode cX1_begin 64 = .ok (.aload_n 2, 1) := by decide +kernel
theorem dX1_begin_65 : decode cX1_begin 65 = .ok (.getfield 45, 3) := by decide +kernel
theorem dX1_begin_68 : decode cX1_begin 68 = .ok (.iload_n 3, 1) := by decide +kernel
theorem dX1_begin_69 : decode cX1_begin 69 = .ok (.iaload, 1) := by decide +kernel
theorem dX1_begin_70 : decode cX1_begin 70 = .ok (.isub, 1) := by decide +kernel
theorem dX1_begin_71 : decode cX1_begin 71 = .ok (.iastore, 1) := by decide +kernel
theorem dX1_begin_72 : decode cX1_begin 72 = .ok (.iinc 3 1, 3) := by decide +kernel
theorem dX1_begin_75 : decode cX1_begin 75 = .ok (.goto (-28), 3) := by decide +kernel
theorem dX1_begin_78 : decode cX1_begin 78 = .ok (.return_, 1) := by decide +kernel
theorem dJA_fillI_0 : decode cJA_fillI 0 = .ok (.iconst 0, 1) := by decide +kernel
theorem dJA_fillI_1 : decode cJA_fillI 1 = .ok (.istore_n 2, 1) := by decide +kernel
theorem dJA_fillI_2 : decode cJA_fillI 2 = .ok (.aload_n 0, 1) := by decide +kernel
theorem dJA_fillI_3 : decode cJA_fillI 3 = .ok (.arraylength, 1) := by decide +kernel
theorem dJA_fillI_4 : decode cJA_fillI 4 = .ok (.istore_n 3, 1) := by decide +kernel
theorem dJA_fillI_5 : decode cJA_fillI 5 = .ok (.iload_n 2, 1) := by decide +kernel
theorem dJA_fillI_6 : decode cJA_fillI 6 = .ok (.iload_n 3, 1) := by decide +kernel
theorem dJA_fillI_7 : decode cJA_fillI 7 = .ok (.if_icmp .ge 13, 3) := by decide +kernel
theorem dJA_fillI_10 : decode cJA_fillI 10 = .ok (.aload_n 0, 1) := by decide +kernel
theorem dJA_fillI_11 : decode cJA_fillI 11 = .ok (.iload_n 2, 1) := by decide +kernel
theorem dJA_fillI_12 : decode cJA_fillI 12 = .ok (.iload_n 1, 1) := by decide +kernel
theorem dJA_fillI_13 : decode cJA_fillI 13 = .ok (.iastore, 1) := by decide +kernel
theorem dJA_fillI_14 : decode cJA_fillI 14 = .ok (.iinc 2 1, 3) := by decide +kernel
theorem dJA_fillI_17 : decode cJA_fillI 17 = .ok (.goto (-12), 3) := by decide +kernel
theorem dJA_fillI_20 : decode cJA_fillI 20 = .ok (.return_, 1) := by decide +kernel
theorem dJA_fillJ_0 : decode cJA_fillJ 0 = .ok (.iconst 0, 1) := by decide +kernel
theorem dJA_fillJ_1 : decode cJA_fillJ 1 = .ok (.istore_n 3, 1) := by decide +kernel
theorem dJA_fillJ_2 : decode cJA_fillJ 2 = .ok (.aload_n 0, 1) := by decide +kernel
theorem dJA_fillJ_3 : decode cJA_fillJ 3 = .ok (.arraylength, 1) := by decide +kernel
theorem dJA_fillJ_4 : decode cJA_fillJ 4 = .ok (.istore 4, 2) := by decide +kernel
theorem dJA_fillJ_6 : decode cJA_fillJ 6 = .ok (.iload_n 3, 1) := by decide +kernel
theorem dJA_fillJ_7 : decode cJA_fillJ 7 = .ok (.iload 4, 2) := by decide +kernel
theorem dJA_fillJ_9 : decode cJA_fillJ 9 = .ok (.if_icmp .ge 13, 3) := by decide +kernel
theorem dJA_fillJ_12 : decode cJA_fillJ 12 = .ok (.aload_n 0, 1) := by decide +kernel
theorem dJA_fillJ_13 : decode cJA_fillJ 13 = .ok (.iload_n 3, 1) := by decide +kernel
theorem dJA_fillJ_14 : decode cJA_fillJ 14 = .ok (.lload_n 1, 1) := by decide +kernel
theorem dJA_fillJ_15 : decode cJA_fillJ 15 = .ok (.lastore, 1) := by decide +kernel
theorem dJA_fillJ_16 : decode cJA_fillJ 16 = .ok (.iinc 3 1, 3) := by decide +kernel
theorem dJA_fillJ_19 : decode cJA_fillJ 19 = .ok (.goto (-13), 3) := by decide +kernel
theorem dJA_fillJ_22 : decode cJA_fillJ 22 = .ok (.return_, 1) := by decide +kernel
theorem dX1_pour_0 : decode cX1_pour 0 = .ok (.iload_n 2, 1) := by decide +kernel
theorem dX1_pour_1 : decode cX1_pour 1 = .ok (.istore_n 3, 1) := by decide +kernel
theorem dX1_pour_2 : decode cX1_pour 2 = .ok (.iconst 0, 1) := by decide +kernel
theorem dX1_pour_3 : decode cX1_pour 3 = .ok (.istore 4, 2) := by decide +kernel
theorem dX1_pour_5 : decode cX1_pour 5 = .ok (.iload 4, 2) := by decide +kernel
theorem dX1_pour_7 : decode cX1_pour 7 = .ok (.bipush 32, 2) := by decide +kernel
theorem dX1_pour_9 : decode cX1_pour 9 = .ok (.if_icmp .ge 37, 3) := by decide +kernel
theorem dX1_pour_12 : decode cX1_pour 12 = .ok (.iload_n 3, 1) := by decide +kernel
theorem dX1_pour_13 : decode cX1_pour 13 = .ok (.iconst (-1), 1) := by decide +kernel
theorem dX1_pour_14 : decode cX1_pour 14 = .ok (.if_icmp .eq 32, 3) := by decide +kernel
theorem dX1_pour_17 : decode cX1_pour 17 = .ok (.aload_n 0, 1) := by decide +kernel
theorem dX1_pour_18 : decode cX1_pour 18 = .ok (.getfield 15, 3) := by decide +kernel
theorem dX1_pour_21 : decode cX1_pour 21 = .ok (.iload_n 3, 1) := by decide +kernel
theorem dX1_pour_22 : decode cX1_pour 22 = .ok (.dup2, 1) := by decide +kernel
theorem dX1_pour_23 : decode cX1_pour 23 = .ok (.laload, 1) := by decide +kernel
theorem dX1_pour_24 : decode cX1_pour 24 = .ok (.aload_n 1, 1) := by decide +kernel
theorem dX1_pour_25 : decode cX1_pour 25 = .ok (.getfield 31, 3) := by decide +kernel
theorem dX1_pour_28 : decode cX1_pour 28 = .ok (.iload_n 2, 1) := by decide +kernel
theorem dX1_pour_29 : decode cX1_pour 29 = .ok (.iaload, 1) := by decide +kernel
theorem dX1_pour_30 : decode cX1_pour 30 = .ok (.i2l, 1) := by decide +kernel
theorem dX1_pour_31 : decode cX1_pour 31 = .ok (.ladd, 1) := by decide +kernel
theorem dX1_pour_32 : decode cX1_pour 32 = .ok (.lastore, 1) := by decide +kernel
theorem dX1_pour_33 : decode cX1_pour 33 = .ok (.aload_n 1, 1) := by decide +kernel
theorem dX1_pour_34 : decode cX1_pour 34 = .ok (.getfield 48, 3) := by decide +kernel
theorem dX1_pour_37 : decode cX1_pour 37 = .ok (.iload_n 3, 1) := by decide +kernel
theorem dX1_pour_38 : decode cX1_pour 38 = .ok (.iaload, 1) := by decide +kernel
theorem dX1_pour_39 : decode cX1_pour 39 = .ok (.istore_n 3, 1) := by decide +kernel
theorem dX1_pour_40 : decode cX1_pour 40 = .ok (.iinc 4 1, 3) := by decide +kernel
theorem dX1_pour_43 : decode cX1_pour 43 = .ok (.goto (-38), 3) := by decide +kernel
theorem dX1_pour_46 : decode cX1_pour 46 = .ok (.return_, 1) := by decide +kernel
theorem dX1_giveAllBut_0 : decode cX1_giveAllBut 0 = .ok (.iconst 0, 1) := by decide +kernel
theorem dX1_giveAllBut_1 : decode cX1_giveAllBut 1 = .ok (.istore 4, 2) := by decide +kernel
theorem dX1_giveAllBut_3 : decode cX1_giveAllBut 3 = .ok (.iload 4, 2) := by decide +kernel
theorem dX1_giveAllBut_5 : decode cX1_giveAllBut 5 = .ok (.aload_n 2, 1) := by decide +kernel
theorem dX1_giveAllBut_6 : decode cX1_giveAllBut 6 = .ok (.getfield 51, 3) := by decide +kernel
theorem dX1_giveAllBut_9 : decode cX1_giveAllBut 9 = .ok (.if_icmp .ge 40, 3) := by decide +kernel
theorem dX1_giveAllBut_12 : decode cX1_giveAllBut 12 = .ok (.aload_n 2, 1) := by decide +kernel
theorem dX1_giveAllBut_13 : decode cX1_giveAllBut 13 = .ok (.getfield 57, 3) := by decide +kernel
theorem dX1_giveAllBut_16 : decode cX1_giveAllBut 16 = .ok (.iload 4, 2) := by decide +kernel
theorem dX1_giveAllBut_18 : decode cX1_giveAllBut 18 = .ok (.iaload, 1) := by decide +kernel
theorem dX1_giveAllBut_19 : decode cX1_giveAllBut 19 = .ok (.istore 5, 2) := by decide +kernel
theorem dX1_giveAllBut_21 : decode cX1_giveAllBut 21 = .ok (.iload 5, 2) := by decide +kernel
theorem dX1_giveAllBut_23 : decode cX1_giveAllBut 23 = .ok (.iload_n 3, 1) := by decide +kernel
theorem dX1_giveAllBut_24 : decode cX1_giveAllBut 24 = .ok (.if_icmp .eq 19, 3) := by decide +kernel
theorem dX1_giveAllBut_27 : decode cX1_giveAllBut 27 = .ok (.aload_n 0, 1) := by decide +kernel
theorem dX1_giveAllBut_28 : decode cX1_giveAllBut 28 = .ok (.aload_n 1, 1) := by decide +kernel
theorem dX1_giveAllBut_29 : decode cX1_giveAllBut 29 = .ok (.aload_n 2, 1) := by decide +kernel
theorem dX1_giveAllBut_30 : decode cX1_giveAllBut 30 = .ok (.iload 5, 2) := by decide +kernel
theorem dX1_giveAllBut_32 : decode cX1_giveAllBut 32 = .ok (.aload_n 0, 1) := by decide +kernel
theorem dX1_giveAllBut_33 : decode cX1_giveAllBut 33 = .ok (.aload_n 1, 1) := by decide +kernel
theorem dX1_giveAllBut_34 : decode cX1_giveAllBut 34 = .ok (.aload_n 2, 1) := by decide +kernel
theorem dX1_giveAllBut_35 : decode cX1_giveAllBut 35 = .ok (.iload 5, 2) := by decide +kernel
theorem dX1_giveAllBut_37 : decode cX1_giveAllBut 37 = .ok (.invokevirtual 60, 3) := by decide +kernel
theorem dX1_giveAllBut_40 : decode cX1_giveAllBut 40 = .ok (.invokevirtual 64, 3) := by decide +kernel
theorem dX1_giveAllBut_43 : decode cX1_giveAllBut 43 = .ok (.iinc 4 1, 3) := by decide +kernel
theorem dX1_giveAllBut_46 : decode cX1_giveAllBut 46 = .ok (.goto (-43), 3) := by decide +kernel
theorem dX1_giveAllBut_49 : decode cX1_giveAllBut 49 = .ok (.return_, 1) := by decide +kernel
theorem dX1_most_0 : decode cX1_most 0 = .ok (.aload_n 2, 1) := by decide +kernel
theorem dX1_most_1 : decode cX1_most 1 = .ok (.getfield 68, 3) := by decide +kernel
theorem dX1_most_4 : decode cX1_most 4 = .ok (.iload_n 3, 1) := by decide +kernel
theorem dX1_most_5 : decode cX1_most 5 = .ok (.iaload, 1) := by decide +kernel
theorem dX1_most_6 : decode cX1_most 6 = .ok (.i2l, 1) := by decide +kernel
theorem dX1_most_7 : decode cX1_most 7 = .ok (.lstore 4, 2) := by decide +kernel
theorem dX1_most_9 : decode cX1_most 9 = .ok (.aload_n 2, 1) := by decide +kernel
theorem dX1_most_10 : decode cX1_most 10 = .ok (.iload_n 3, 1) := by decide +kernel
theorem dX1_most_11 : decode cX1_most 11 = .ok (.invokevirtual 71, 3) := by decide +kernel
theorem dX1_most_14 : decode cX1_most 14 = .ok (.ifCond .eq 22, 3) := by decide +kernel
theorem dX1_most_17 : decode cX1_most 17 = .ok (.lload 4, 2) := by decide +kernel
theorem dX1_most_19 : decode cX1_most 19 = .ok (.aload_n 0, 1) := by decide +kernel
theorem dX1_most_20 : decode cX1_most 20 = .ok (.getfield 19, 3) := by decide +kernel
theorem dX1_most_23 : decode cX1_most 23 = .ok (.aload_n 2, 1) := by decide +kernel
theorem dX1_most_24 : decode cX1_most 24 = .ok (.getfield 75, 3) := by decide +kernel
theorem dX1_most_27 : decode cX1_most 27 = .ok (.iload_n 3, 1) := by decide +kernel
theorem dX1_most_28 : decode cX1_most 28 = .ok (.iaload, 1) := by decide +kernel
theorem dX1_most_29 : decode cX1_most 29 = .ok (.iaload, 1) := by decide +kernel
theorem dX1_most_30 : decode cX1_most 30 = .ok (.i2l, 1) := by decide +kernel
theorem dX1_most_31 : decode cX1_most 31 = .ok (.invokestatic 78, 3) := by decide +kernel
theorem dX1_most_34 : decode cX1_most 34 = .ok (.lstore 4, 2) := by decide +kernel
theorem dX1_most_36 : decode cX1_most 36 = .ok (.iconst 0, 1) := by decide +kernel
theorem dX1_most_37 : decode cX1_most 37 = .ok (.istore 6, 2) := by decide +kernel
theorem dX1_most_39 : decode cX1_most 39 = .ok (.aload_n 2, 1) := by decide +kernel
theorem dX1_most_40 : decode cX1_most 40 = .ok (.getfield 84, 3) := by decide +kernel
theorem dX1_most_43 : decode cX1_most 43 = .ok (.iload_n 3, 1) := by decide +kernel
theorem dX1_most_44 : decode cX1_most 44 = .ok (.iaload, 1) := by decide +kernel
theorem dX1_most_45 : decode cX1_most 45 = .ok (.istore 7, 2) := by decide +kernel
theorem dX1_most_47 : decode cX1_most 47 = .ok (.iconst 0, 1) := by decide +kernel
theorem dX1_most_48 : decode cX1_most 48 = .ok (.istore 8, 2) := by decide +kernel
theorem dX1_most_50 : decode cX1_most 50 = .ok (.iload 8, 2) := by decide +kernel
theorem dX1_most_52 : decode cX1_most 52 = .ok (.bipush 32, 2) := by decide +kernel
theorem dX1_most_54 : decode cX1_most 54 = .ok (.if_icmp .ge 81, 3) := by decide +kernel
theorem dX1_most_57 : decode cX1_most 57 = .ok (.iload 7, 2) := by decide +kernel
theorem dX1_most_59 : decode cX1_most 59 = .ok (.iconst (-1), 1) := by decide +kernel
theorem dX1_most_60 : decode cX1_most 60 = .ok (.if_icmp .eq 75, 3) := by decide +kernel
theorem dX1_most_63 : decode cX1_most 63 = .ok (.iload 6, 2) := by decide +kernel
theorem dX1_most_65 : decode cX1_most 65 = .ok (.ifCond .ne 14, 3) := by decide +kernel
theorem dX1_most_68 : decode cX1_most 68 = .ok (.iload 7, 2) := by decide +kernel
theorem dX1_most_70 : decode cX1_most 70 = .ok (.aload_n 2, 1) := by decide +kernel
theorem dX1_most_71 : decode cX1_most 71 = .ok (.getfield 87, 3) := by decide +kernel
theorem dX1_most_74 : decode cX1_most 74 = .ok (.iload_n 3, 1) := by decide +kernel
theorem dX1_most_75 : decode cX1_most 75 = .ok (.iaload, 1) := by decide +kernel
theorem dX1_most_76 : decode cX1_most 76 = .ok (.if_icmp .ne 7, 3) := by decide +kernel
theorem dX1_most_79 : decode cX1_most 79 = .ok (.iconst 1, 1) := by decide +kernel
theorem dX1_most_80 : decode cX1_most 80 = .ok (.goto 4, 3) := by decide +kernel
theorem dX1_most_83 : decode cX1_most 83 = .ok (.iconst 0, 1) := by decide +kernel
theorem dX1_most_84 : decode cX1_most 84 = .ok (.istore 6, 2) := by decide +kernel
theorem dX1_most_86 : decode cX1_most 86 = .ok (.lload 4, 2) := by decide +kernel
theorem dX1_most_88 : decode cX1_most 88 = .ok (.iload 6, 2) := by decide +kernel
theorem dX1_most_90 : decode cX1_most 90 = .ok (.ifCond .eq 18, 3) := by decide +kernel
theorem dX1_most_93 : decode cX1_most 93 = .ok (.aload_n 2, 1) := by decide +kernel
theorem dX1_most_94 : decode cX1_most 94 = .ok (.iload_n 3, 1) := by decide +kernel
theorem dX1_most_95 : decode cX1_most 95 = .ok (.aload_n 0, 1) := by decide +kernel
theorem dX1_most_96 : decode cX1_most 96 = .ok (.getfield 15, 3) := by decide +kernel
theorem dX1_most_99 : decode cX1_most 99 = .ok (.iload 7, 2) := by decide +kernel
theorem dX1_most_101 : decode cX1_most 101 = .ok (.laload, 1) := by decide +kernel
theorem dX1_most_102 : decode cX1_most 102 = .ok (.invokevirtual 90, 3) := by decide +kernel
theorem dX1_most_105 : decode cX1_most 105 = .ok (.goto 10, 3) := by decide +kernel
theorem dX1_most_108 : decode cX1_most 108 = .ok (.aload_n 0, 1) := by decide +kernel
theorem dX1_most_109 : decode cX1_most 109 = .ok (.getfield 15, 3) := by decide +kernel
theorem dX1_most_112 : decode cX1_most 112 = .ok (.iload 7, 2) := by decide +kernel
theorem dX1_most_114 : decode cX1_most 114 = .ok (.laload, 1) := by decide +kernel
theorem dX1_most_115 : decode cX1_most 115 = .ok (.invokestatic 78, 3) := by decide +kernel
theorem dX1_most_118 : decode cX1_most 118 = .ok (.lstore 4, 2) := by decide +kernel
theorem dX1_most_120 : decode cX1_most 120 = .ok (.aload_n 1, 1) := by decide +kernel
theorem dX1_most_121 : decode cX1_most 121 = .ok (.getfield 48, 3) := by decide +kernel
theorem dX1_most_124 : decode cX1_most 124 = .ok (.iload 7, 2) := by decide +kernel
theorem dX1_most_126 : decode cX1_most 126 = .ok (.iaload, 1) := by decide +kernel
theorem dX1_most_127 : decode cX1_most 127 = .ok (.istore 7, 2) := by decide +kernel
theorem dX1_most_129 : decode cX1_most 129 = .ok (.iinc 8 1, 3) := by decide +kernel
theorem dX1_most_132 : decode cX1_most 132 = .ok (.goto (-82), 3) := by decide +kernel
theorem dX1_most_135 : decode cX1_most 135 = .ok (.lload 4, 2) := by decide +kernel
theorem dX1_most_137 : decode cX1_most 137 = .ok (.l2i, 1) := by decide +kernel
theorem dX1_most_138 : decode cX1_most 138 = .ok (.ireturn, 1) := by decide +kernel
theorem dX3_isStorage_0 : decode cX3_isStorage 0 = .ok (.aload_n 0, 1) := by decide +kernel
theorem dX3_isStorage_1 : decode cX3_isStorage 1 = .ok (.getfield 34, 3) := by decide +kernel
theorem dX3_isStorage_4 : decode cX3_isStorage 4 = .ok (.iload_n 1, 1) := by decide +kernel
theorem dX3_isStorage_5 : decode cX3_isStorage 5 = .ok (.iaload, 1) := by decide +kernel
theorem dX3_isStorage_6 : decode cX3_isStorage 6 = .ok (.iconst (-1), 1) := by decide +kernel
theorem dX3_isStorage_7 : decode cX3_isStorage 7 = .ok (.if_icmp .eq 7, 3) := by decide +kernel
theorem dX3_isStorage_10 : decode cX3_isStorage 10 = .ok (.iconst 1, 1) := by decide +kernel
theorem dX3_isStorage_11 : decode cX3_isStorage 11 = .ok (.goto 4, 3) := by decide +kernel
theorem dX3_isStorage_14 : decode cX3_isStorage 14 = .ok (.iconst 0, 1) := by decide +kernel
theorem dX3_isStorage_15 : decode cX3_isStorage 15 = .ok (.ireturn, 1) := by decide +kernel
theorem dJM_min_0 : decode cJM_min 0 = .ok (.lload_n 0, 1) := by decide +kernel
theorem dJM_min_1 : decode cJM_min 1 = .ok (.lload_n 2, 1) := by decide +kernel
theorem dJM_min_2 : decode cJM_min 2 = .ok (.lcmp, 1) := by decide +kernel
theorem dJM_min_3 : decode cJM_min 3 = .ok (.ifCond .gt 7, 3) := by decide +kernel
theorem dJM_min_6 : decode cJM_min 6 = .ok (.lload_n 0, 1) := by decide +kernel
theorem dJM_min_7 : decode cJM_min 7 = .ok (.goto 4, 3) := by decide +kernel
theorem dJM_min_10 : decode cJM_min 10 = .ok (.lload_n 2, 1) := by decide +kernel
theorem dJM_min_11 : decode cJM_min 11 = .ok (.lreturn, 1) := by decide +kernel
theorem dX3_mostForUse_0 : decode cX3_mostForUse 0 = .ok (.sipush 1000, 3) := by decide +kernel
theorem dX3_mostForUse_3 : decode cX3_mostForUse 3 = .ok (.aload_n 0, 1) := by decide +kernel
theorem dX3_mostForUse_4 : decode cX3_mostForUse 4 = .ok (.getfield 28, 3) := by decide +kernel
theorem dX3_mostForUse_7 : decode cX3_mostForUse 7 = .ok (.iload_n 1, 1) := by decide +kernel
theorem dX3_mostForUse_8 : decode cX3_mostForUse 8 = .ok (.iaload, 1) := by decide +kernel
theorem dX3_mostForUse_9 : decode cX3_mostForUse 9 = .ok (.isub, 1) := by decide +kernel
theorem dX3_mostForUse_10 : decode cX3_mostForUse 10 = .ok (.istore 4, 2) := by decide +kernel
theorem dX3_mostForUse_12 : decode cX3_mostForUse 12 = .ok (.iload 4, 2) := by decide +kernel
theorem dX3_mostForUse_14 : decode cX3_mostForUse 14 = .ok (.ifCond .gt 9, 3) := by decide +kernel
theorem dX3_mostForUse_17 : decode cX3_mostForUse 17 = .ok (.ldc2_w 46, 3) := by decide +kernel
theorem dX3_mostForUse_20 : decode cX3_mostForUse 20 = .ok (.goto 12, 3) := by decide +kernel
theorem dX3_mostForUse_23 : decode cX3_mostForUse 23 = .ok (.lload_n 2, 1) := by decide +kernel
theorem dX3_mostForUse_24 : decode cX3_mostForUse 24 = .ok (.ldc2_w 44, 3) := by decide +kernel
theorem dX3_mostForUse_27 : decode cX3_mostForUse 27 = .ok (.lmul, 1) := by decide +kernel
theorem dX3_mostForUse_28 : decode cX3_mostForUse 28 = .ok (.iload 4, 2) := by decide +kernel
theorem dX3_mostForUse_30 : decode cX3_mostForUse 30 = .ok (.i2l, 1) := by decide +kernel
theorem dX3_mostForUse_31 : decode cX3_mostForUse 31 = .ok (.ldiv, 1) := by decide +kernel
theorem dX3_mostForUse_32 : decode cX3_mostForUse 32 = .ok (.lreturn, 1) := by decide +kernel
theorem dX1_give_0 : decode cX1_give 0 = .ok (.aload_n 0, 1) := by decide +kernel
theorem dX1_give_1 : decode cX1_give 1 = .ok (.getfield 9, 3) := by decide +kernel
theorem dX1_give_4 : decode cX1_give 4 = .ok (.iload_n 3, 1) := by decide +kernel
theorem dX1_give_5 : decode cX1_give 5 = .ok (.iload 4, 2) := by decide +kernel
theorem dX1_give_7 : decode cX1_give 7 = .ok (.iastore, 1) := by decide +kernel
theorem dX1_give_8 : decode cX1_give 8 = .ok (.aload_n 2, 1) := by decide +kernel
theorem dX1_give_9 : decode cX1_give 9 = .ok (.iload_n 3, 1) := by decide +kernel
theorem dX1_give_10 : decode cX1_give 10 = .ok (.invokevirtual 71, 3) := by decide +kernel
theorem dX1_give_13 : decode cX1_give 13 = .ok (.ifCond .eq 19, 3) := by decide +kernel
theorem dX1_give_16 : decode cX1_give 16 = .ok (.aload_n 0, 1) := by decide +kernel
theorem dX1_give_17 : decode cX1_give 17 = .ok (.getfield 19, 3) := by decide +kernel
theorem dX1_give_20 : decode cX1_give 20 = .ok (.aload_n 2, 1) := by decide +kernel
theorem dX1_give_21 : decode cX1_give 21 = .ok (.getfield 75, 3) := by decide +kernel
theorem dX1_give_24 : decode cX1_give 24 = .ok (.iload_n 3, 1) := by decide +kernel
theorem dX1_give_25 : decode cX1_give 25 = .ok (.iaload, 1) := by decide +kernel
theorem dX1_give_26 : decode cX1_give 26 = .ok (.dup2, 1) := by decide +kernel
theorem dX1_give_27 : decode cX1_give 27 = .ok (.iaload, 1) := by decide +kernel
theorem dX1_give_28 : decode cX1_give 28 = .ok (.iload 4, 2) := by decide +kernel
theorem dX1_give_30 : decode cX1_give 30 = .ok (.isub, 1) := by decide +kernel
theorem dX1_give_31 : decode cX1_give 31 = .ok (.iastore, 1) := by decide +kernel
theorem dX1_give_32 : decode cX1_give 32 = .ok (.iconst 0, 1) := by decide +kernel
theorem dX1_give_33 : decode cX1_give 33 = .ok (.istore 5, 2) := by decide +kernel
theorem dX1_give_35 : decode cX1_give 35 = .ok (.aload_n 2, 1) := by decide +kernel
theorem dX1_give_36 : decode cX1_give 36 = .ok (.getfield 84, 3) := by decide +kernel
theorem dX1_give_39 : decode cX1_give 39 = .ok (.iload_n 3, 1) := by decide +kernel
theorem dX1_give_40 : decode cX1_give 40 = .ok (.iaload, 1) := by decide +kernel
theorem dX1_give_41 : decode cX1_give 41 = .ok (.istore 6, 2) := by decide +kernel
theorem dX1_give_43 : decode cX1_give 43 = .ok (.iconst 0, 1) := by decide +kernel
theorem dX1_give_44 : decode cX1_give 44 = .ok (.istore 7, 2) := by decide +kernel
theorem dX1_give_46 : decode cX1_give 46 = .ok (.iload 7, 2) := by decide +kernel
theorem dX1_give_48 : decode cX1_give 48 = .ok (.bipush 32, 2) := by decide +kernel
theorem dX1_give_50 : decode cX1_give 50 = .ok (.if_icmp .ge 75, 3) := by decide +kernel
theorem dX1_give_53 : decode cX1_give 53 = .ok (.iload 6, 2) := by decide +kernel
theorem dX1_give_55 : decode cX1_give 55 = .ok (.iconst (-1), 1) := by decide +kernel
theorem dX1_give_56 : decode cX1_give 56 = .ok (.if_icmp .eq 69, 3) := by decide +kernel
theorem dX1_give_59 : decode cX1_give 59 = .ok (.iload 5, 2) := by decide +kernel
theorem dX1_give_61 : decode cX1_give 61 = .ok (.ifCond .ne 14, 3) := by decide +kernel
theorem dX1_give_64 : decode cX1_give 64 = .ok (.iload 6, 2) := by decide +kernel
theorem dX1_give_66 : decode cX1_give 66 = .ok (.aload_n 2, 1) := by decide +kernel
theorem dX1_give_67 : decode cX1_give 67 = .ok (.getfield 87, 3) := by decide +kernel
theorem dX1_give_70 : decode cX1_give 70 = .ok (.iload_n 3, 1) := by decide +kernel
theorem dX1_give_71 : decode cX1_give 71 = .ok (.iaload, 1) := by decide +kernel
theorem dX1_give_72 : decode cX1_give 72 = .ok (.if_icmp .ne 7, 3) := by decide +kernel
theorem dX1_give_75 : decode cX1_give 75 = .ok (.iconst 1, 1) := by decide +kernel
theorem dX1_give_76 : decode cX1_give 76 = .ok (.goto 4, 3) := by decide +kernel
theorem dX1_give_79 : decode cX1_give 79 = .ok (.iconst 0, 1) := by decide +kernel
theorem dX1_give_80 : decode cX1_give 80 = .ok (.istore 5, 2) := by decide +kernel
theorem dX1_give_82 : decode cX1_give 82 = .ok (.aload_n 0, 1) := by decide +kernel
theorem dX1_give_83 : decode cX1_give 83 = .ok (.getfield 15, 3) := by decide +kernel
theorem dX1_give_86 : decode cX1_give 86 = .ok (.iload 6, 2) := by decide +kernel
theorem dX1_give_88 : decode cX1_give 88 = .ok (.dup2, 1) := by decide +kernel
theorem dX1_give_89 : decode cX1_give 89 = .ok (.laload, 1) := by decide +kernel
theorem dX1_give_90 : decode cX1_give 90 = .ok (.iload 5, 2) := by decide +kernel
theorem dX1_give_92 : decode cX1_give 92 = .ok (.ifCond .eq 13, 3) := by decide +kernel
theorem dX1_give_95 : decode cX1_give 95 = .ok (.aload_n 2, 1) := by decide +kernel
theorem dX1_give_96 : decode cX1_give 96 = .ok (.iload_n 3, 1) := by decide +kernel
theorem dX1_give_97 : decode cX1_give 97 = .ok (.iload 4, 2) := by decide +kernel
theorem dX1_give_99 : decode cX1_give 99 = .ok (.invokevirtual 94, 3) := by decide +kernel
theorem dX1_give_102 : decode cX1_give 102 = .ok (.goto 6, 3) := by decide +kernel
theorem dX1_give_105 : decode cX1_give 105 = .ok (.iload 4, 2) := by decide +kernel
theorem dX1_give_107 : decode cX1_give 107 = .ok (.i2l, 1) := by decide +kernel
theorem dX1_give_108 : decode cX1_give 108 = .ok (.lsub, 1) := by decide +kernel
theorem dX1_give_109 : decode cX1_give 109 = .ok (.lastore, 1) := by decide +kernel
theorem dX1_give_110 : decode cX1_give 110 = .ok (.aload_n 1, 1) := by decide +kernel
theorem dX1_give_111 : decode cX1_give 111 = .ok (.getfield 48, 3) := by decide +kernel
theorem dX1_give_114 : decode cX1_give 114 = .ok (.iload 6, 2) := by decide +kernel
theorem dX1_give_116 : decode cX1_give 116 = .ok (.iaload, 1) := by decide +kernel
theorem dX1_give_117 : decode cX1_give 117 = .ok (.istore 6, 2) := by decide +kernel
theorem dX1_give_119 : decode cX1_give 119 = .ok (.iinc 7 1, 3) := by decide +kernel
theorem dX1_give_122 : decode cX1_give 122 = .ok (.goto (-76), 3) := by decide +kernel
theorem dX1_give_125 : decode cX1_give 125 = .ok (.return_, 1) := by decide +kernel
theorem dX3_usedOf_0 : decode cX3_usedOf 0 = .ok (.iload_n 2, 1) := by decide +kernel
theorem dX3_usedOf_1 : decode cX3_usedOf 1 = .ok (.i2l, 1) := by decide +kernel
theorem dX3_usedOf_2 : decode cX3_usedOf 2 = .ok (.iload_n 2, 1) := by decide +kernel
theorem dX3_usedOf_3 : decode cX3_usedOf 3 = .ok (.i2l, 1) := by decide +kernel
theorem dX3_usedOf_4 : decode cX3_usedOf 4 = .ok (.aload_n 0, 1) := by decide +kernel
theorem dX3_usedOf_5 : decode cX3_usedOf 5 = .ok (.getfield 28, 3) := by decide +kernel
theorem dX3_usedOf_8 : decode cX3_usedOf 8 = .ok (.iload_n 1, 1) := by decide +kernel
theorem dX3_usedOf_9 : decode cX3_usedOf 9 = .ok (.iaload, 1) := by decide +kernel
theorem dX3_usedOf_10 : decode cX3_usedOf 10 = .ok (.i2l, 1) := by decide +kernel
theorem dX3_usedOf_11 : decode cX3_usedOf 11 = .ok (.lmul, 1) := by decide +kernel
theorem dX3_usedOf_12 : decode cX3_usedOf 12 = .ok (.ldc2_w 44, 3) := by decide +kernel
theorem dX3_usedOf_15 : decode cX3_usedOf 15 = .ok (.ldiv, 1) := by decide +kernel
theorem dX3_usedOf_16 : decode cX3_usedOf 16 = .ok (.lsub, 1) := by decide +kernel
theorem dX3_usedOf_17 : decode cX3_usedOf 17 = .ok (.lreturn, 1) := by decide +kernel
theorem dX5_isShort_0 : decode cX5_isShort 0 = .ok (.aload_n 0, 1) := by decide +kernel
theorem dX5_isShort_1 : decode cX5_isShort 1 = .ok (.getfield 40, 3) := by decide +kernel
theorem dX5_isShort_4 : decode cX5_isShort 4 = .ok (.getfield 149, 3) := by decide +kernel
theorem dX5_isShort_7 : decode cX5_isShort 7 = .ok (.iload_n 1, 1) := by decide +kernel
theorem dX5_isShort_8 : decode cX5_isShort 8 = .ok (.iaload, 1) := by decide +kernel
theorem dX5_isShort_9 : decode cX5_isShort 9 = .ok (.aload_n 0, 1) := by decide +kernel
theorem dX5_isShort_10 : decode cX5_isShort 10 = .ok (.getfield 26, 3) := by decide +kernel
theorem dX5_isShort_13 : decode cX5_isShort 13 = .ok (.getfield 110, 3) := by decide +kernel
theorem dX5_isShort_16 : decode cX5_isShort 16 = .ok (.iload_n 1, 1) := by decide +kernel
theorem dX5_isShort_17 : decode cX5_isShort 17 = .ok (.iaload, 1) := by decide +kernel
theorem dX5_isShort_18 : decode cX5_isShort 18 = .ok (.if_icmp .ge 7, 3) := by decide +kernel
theorem dX5_isShort_21 : decode cX5_isShort 21 = .ok (.iconst 1, 1) := by decide +kernel
theorem dX5_isShort_22 : decode cX5_isShort 22 = .ok (.goto 4, 3) := by decide +kernel
theorem dX5_isShort_25 : decode cX5_isShort 25 = .ok (.iconst 0, 1) := by decide +kernel
theorem dX5_isShort_26 : decode cX5_isShort 26 = .ok (.ireturn, 1) := by decide +kernel
theorem dX5_close_0 : decode cX5_close 0 = .ok (.aload_n 0, 1) := by decide +kernel
theorem dX5_close_1 : decode cX5_close 1 = .ok (.invokevirtual 137, 3) := by decide +kernel
theorem dX5_close_4 : decode cX5_close 4 = .ok (.aload_n 0, 1) := by decide +kernel
theorem dX5_close_5 : decode cX5_close 5 = .ok (.getfield 33, 3) := by decide +kernel
theorem dX5_close_8 : decode cX5_close 8 = .ok (.aload_n 0, 1) := by decide +kernel
theorem dX5_close_9 : decode cX5_close 9 = .ok (.getfield 10, 3) := by decide +kernel
theorem dX5_close_12 : decode cX5_close 12 = .ok (.aload_n 0, 1) := by decide +kernel
theorem dX5_close_13 : decode cX5_close 13 = .ok (.getfield 19, 3) := by decide +kernel
theorem dX5_close_16 : decode cX5_close 16 = .ok (.aload_n 0, 1) := by decide +kernel
theorem dX5_close_17 : decode cX5_close 17 = .ok (.getfield 26, 3) := by decide +kernel
theorem dX5_close_20 : decode cX5_close 20 = .ok (.aload_n 0, 1) := by decide +kernel
theorem dX5_close_21 : decode cX5_close 21 = .ok (.getfield 40, 3) := by decide +kernel
theorem dX5_close_24 : decode cX5_close 24 = .ok (.invokevirtual 181, 3) := by decide +kernel
theorem dX5_close_27 : decode cX5_close 27 = .ok (.aload_n 0, 1) := by decide +kernel
theorem dX5_close_28 : decode cX5_close 28 = .ok (.getfield 19, 3) := by decide +kernel
theorem dX5_close_31 : decode cX5_close 31 = .ok (.aload_n 0, 1) := by decide +kernel
theorem dX5_close_32 : decode cX5_close 32 = .ok (.getfield 26, 3) := by decide +kernel
theorem dX5_close_35 : decode cX5_close 35 = .ok (.aload_n 0, 1) := by decide +kernel
theorem dX5_close_36 : decode cX5_close 36 = .ok (.getfield 40, 3) := by decide +kernel
theorem dX5_close_39 : decode cX5_close 39 = .ok (.invokevirtual 185, 3) := by decide +kernel
theorem dX5_close_42 : decode cX5_close 42 = .ok (.aload_n 0, 1) := by decide +kernel
theorem dX5_close_43 : decode cX5_close 43 = .ok (.getfield 10, 3) := by decide +kernel
theorem dX5_close_46 : decode cX5_close 46 = .ok (.invokevirtual 189, 3) := by decide +kernel
theorem dX5_close_49 : decode cX5_close 49 = .ok (.aload_n 0, 1) := by decide +kernel
theorem dX5_close_50 : decode cX5_close 50 = .ok (.getfield 26, 3) := by decide +kernel
theorem dX5_close_53 : decode cX5_close 53 = .ok (.invokevirtual 191, 3) := by decide +kernel
theorem dX5_close_56 : decode cX5_close 56 = .ok (.aload_n 0, 1) := by decide +kernel
theorem dX5_close_57 : decode cX5_close 57 = .ok (.iconst 1, 1) := by decide +kernel
theorem dX5_close_58 : decode cX5_close 58 = .ok (.putfield 47, 3) := by decide +kernel
theorem dX5_close_61 : decode cX5_close 61 = .ok (.aload_n 0, 1) := by decide +kernel
theorem dX5_close_62 : decode cX5_close 62 = .ok (.getfield 33, 3) := by decide +kernel
theorem dX5_close_65 : decode cX5_close 65 = .ok (.getfield 192, 3) := by decide +kernel
theorem dX5_close_68 : decode cX5_close 68 = .ok (.ireturn, 1) := by decide +kernel
theorem dX0_write_0 : decode cX0_write 0 = .ok (.aload_n 2, 1) := by decide +kernel
theorem dX0_write_1 : decode cX0_write 1 = .ok (.getfield 15, 3) := by decide +kernel
theorem dX0_write_4 : decode cX0_write 4 = .ok (.lstore 5, 2) := by decide +kernel
theorem dX0_write_6 : decode cX0_write 6 = .ok (.lconst 0, 1) := by decide +kernel
theorem dX0_write_7 : decode cX0_write 7 = .ok (.lstore 7, 2) := by decide +kernel
theorem dX0_write_9 : decode cX0_write 9 = .ok (.iconst 0, 1) := by decide +kernel
theorem dX0_write_10 : decode cX0_write 10 = .ok (.istore 9, 2) := by decide +kernel
theorem dX0_write_12 : decode cX0_write 12 = .ok (.iload 9, 2) := by decide +kernel
theorem dX0_write_14 : decode cX0_write 14 = .ok (.aload_n 3, 1) := by decide +kernel
theorem dX0_write_15 : decode cX0_write 15 = .ok (.getfield 21, 3) := by decide +kernel
theorem dX0_write_18 : decode cX0_write 18 = .ok (.if_icmp .ge 63, 3) := by decide +kernel
theorem dX0_write_21 : decode cX0_write 21 = .ok (.aload_n 3, 1) := by decide +kernel
theorem dX0_write_22 : decode cX0_write 22 = .ok (.getfield 27, 3) := by decide +kernel
theorem dX0_write_25 : decode cX0_write 25 = .ok (.iload 9, 2) := by decide +kernel
theorem dX0_write_27 : decode cX0_write 27 = .ok (.iaload, 1) := by decide +kernel
theorem dX0_write_28 : decode cX0_write 28 = .ok (.istore 10, 2) := by decide +kernel
theorem dX0_write_30 : decode cX0_write 30 = .ok (.aload_n 3, 1) := by decide +kernel
theorem dX0_write_31 : decode cX0_write 31 = .ok (.iload 10, 2) := by decide +kernel
theorem dX0_write_33 : decode cX0_write 33 = .ok (.invokevirtual 31, 3) := by decide +kernel
theorem dX0_write_36 : decode cX0_write 36 = .ok (.ifCond .eq 20, 3) := by decide +kernel
theorem dX0_write_39 : decode cX0_write 39 = .ok (.lload 7, 2) := by decide +kernel
theorem dX0_write_41 : decode cX0_write 41 = .ok (.aload 4, 2) := by decide +kernel
theorem dX0_write_43 : decode cX0_write 43 = .ok (.getfield 35, 3) := by decide +kernel
theorem dX0_write_46 : decode cX0_write 46 = .ok (.iload 10, 2) := by decide +kernel
theorem dX0_write_48 : decode cX0_write 48 = .ok (.iaload, 1) := by decide +kernel
theorem dX0_write_49 : decode cX0_write 49 = .ok (.i2l, 1) := by decide +kernel
theorem dX0_write_50 : decode cX0_write 50 = .ok (.ladd, 1) := by decide +kernel
theorem dX0_write_51 : decode cX0_write 51 = .ok (.lstore 7, 2) := by decide +kernel
theorem dX0_write_53 : decode cX0_write 53 = .ok (.goto 22, 3) := by decide +kernel
theorem dX0_write_56 : decode cX0_write 56 = .ok (.lload 5, 2) := by decide +kernel
theorem dX0_write_58 : decode cX0_write 58 = .ok (.aload_n 3, 1) := by decide +kernel
theorem dX0_write_59 : decode cX0_write 59 = .ok (.iload 10, 2) := by decide +kernel
theorem dX0_write_61 : decode cX0_write 61 = .ok (.aload 4, 2) := by decide +kernel
theorem dX0_write_63 : decode cX0_write 63 = .ok (.getfield 35, 3) := by decide +kernel
theorem dX0_write_66 : decode cX0_write 66 = .ok (.iload 10, 2) := by decide +kernel
theorem dX0_write_68 : decode cX0_write 68 = .ok (.iaload, 1) := by decide +kernel
theorem dX0_write_69 : decode cX0_write 69 = .ok (.invokevirtual 40, 3) := by decide +kernel
theorem dX0_write_72 : decode cX0_write 72 = .ok (.ladd, 1) := by decide +kernel
theorem dX0_write_73 : decode cX0_write 73 = .ok (.lstore 5, 2) := by decide +kernel
theorem dX0_write_75 : decode cX0_write 75 = .ok (.iinc 9 1, 3) := by decide +kernel
theorem dX0_write_78 : decode cX0_write 78 = .ok (.goto (-66), 3) := by decide +kernel
theorem dX0_write_81 : decode cX0_write 81 = .ok (.aload_n 0, 1) := by decide +kernel
theorem dX0_write_82 : decode cX0_write 82 = .ok (.getfield 44, 3) := by decide +kernel
theorem dX0_write_85 : decode cX0_write 85 = .ok (.invokestatic 47, 3) := by decide +kernel
theorem dX0_write_88 : decode cX0_write 88 = .ok (.istore 9, 2) := by decide +kernel
theorem dX0_write_90 : decode cX0_write 90 = .ok (.aload_n 0, 1) := by decide +kernel
theorem dX0_write_91 : decode cX0_write 91 = .ok (.getfield 11, 3) := by decide +kernel
theorem dX0_write_94 : decode cX0_write 94 = .ok (.iload 9, 2) := by decide +kernel
theorem dX0_write_96 : decode cX0_write 96 = .ok (.iconst 0, 1) := by decide +kernel
theorem dX0_write_97 : decode cX0_write 97 = .ok (.iadd, 1) := by decide +kernel
theorem dX0_write_98 : decode cX0_write 98 = .ok (.aload_n 1, 1) := by decide +kernel
theorem dX0_write_99 : decode cX0_write 99 = .ok (.invokevirtual 51, 3) := by decide +kernel
theorem dX0_write_102 : decode cX0_write 102 = .ok (.lastore, 1) := by decide +kernel
theorem dX0_write_103 : decode cX0_write 103 = .ok (.aload_n 0, 1) := by decide +kernel
theorem dX0_write_104 : decode cX0_write 104 = .ok (.getfield 11, 3) := by decide +kernel
theorem dX0_write_107 : decode cX0_write 107 = .ok (.iload 9, 2) := by decide +kernel
theorem dX0_write_109 : decode cX0_write 109 = .ok (.iconst 1, 1) := by decide +kernel
theorem dX0_write_110 : decode cX0_write 110 = .ok (.iadd, 1) := by decide +kernel
theorem dX0_write_111 : decode cX0_write 111 = .ok (.aload_n 1, 1) := by decide +kernel
theorem dX0_write_112 : decode cX0_write 112 = .ok (.getfield 57, 3) := by decide +kernel
theorem dX0_write_115 : decode cX0_write 115 = .ok (.iconst (-1), 1) := by decide +kernel
theorem dX0_write_116 : decode cX0_write 116 = .ok (.if_icmp .ne 7, 3) := by decide +kernel
theorem dX0_write_119 : decode cX0_write 119 = .ok (.lconst 0, 1) := by decide +kernel
theorem dX0_write_120 : decode cX0_write 120 = .ok (.goto 13, 3) := by decide +kernel
theorem dX0_write_123 : decode cX0_write 123 = .ok (.aload 4, 2) := by decide +kernel
theorem dX0_write_125 : decode cX0_write 125 = .ok (.getfield 60, 3) := by decide +kernel
theorem dX0_write_128 : decode cX0_write 128 = .ok (.aload_n 1, 1) := by decide +kernel
theorem dX0_write_129 : decode cX0_write 129 = .ok (.getfield 57, 3) := by decide +kernel
theorem dX0_write_132 : decode cX0_write 132 = .ok (.laload, 1) := by decide +kernel
theorem dX0_write_133 : decode cX0_write 133 = .ok (.lastore, 1) := by decide +kernel
theorem dX0_write_134 : decode cX0_write 134 = .ok (.aload_n 0, 1) := by decide +kernel
theorem dX0_write_135 : decode cX0_write 135 = .ok (.getfield 11, 3) := by decide +kernel
theorem dX0_write_138 : decode cX0_write 138 = .ok (.iload 9, 2) := by decide +kernel
theorem dX0_write_140 : decode cX0_write 140 = .ok (.iconst 2, 1) := by decide +kernel
theorem dX0_write_141 : decode cX0_write 141 = .ok (.iadd, 1) := by decide +kernel
theorem dX0_write_142 : decode cX0_write 142 = .ok (.lload 5, 2) := by decide +kernel
theorem dX0_write_144 : decode cX0_write 144 = .ok (.lastore, 1) := by decide +kernel
theorem dX0_write_145 : decode cX0_write 145 = .ok (.aload_n 0, 1) := by decide +kernel
theorem dX0_write_146 : decode cX0_write 146 = .ok (.getfield 11, 3) := by decide +kernel
theorem dX0_write_149 : decode cX0_write 149 = .ok (.iload 9, 2) := by decide +kernel
theorem dX0_write_151 : decode cX0_write 151 = .ok (.iconst 3, 1) := by decide +kernel
theorem dX0_write_152 : decode cX0_write 152 = .ok (.iadd, 1) := by decide +kernel
theorem dX0_write_153 : decode cX0_write 153 = .ok (.lload 7, 2) := by decide +kernel
theorem dX0_write_155 : decode cX0_write 155 = .ok (.lastore, 1) := by decide +kernel
theorem dX0_write_156 : decode cX0_write 156 = .ok (.aload_n 0, 1) := by decide +kernel
theorem dX0_write_157 : decode cX0_write 157 = .ok (.getfield 11, 3) := by decide +kernel
theorem dX0_write_160 : decode cX0_write 160 = .ok (.iload 9, 2) := by decide +kernel
theorem dX0_write_162 : decode cX0_write 162 = .ok (.iconst 4, 1) := by decide +kernel
theorem dX0_write_163 : decode cX0_write 163 = .ok (.iadd, 1) := by decide +kernel
theorem dX0_write_164 : decode cX0_write 164 = .ok (.aload_n 2, 1) := by decide +kernel
theorem dX0_write_165 : decode cX0_write 165 = .ok (.getfield 15, 3) := by decide +kernel
theorem dX0_write_168 : decode cX0_write 168 = .ok (.lastore, 1) := by decide +kernel
theorem dX0_write_169 : decode cX0_write 169 = .ok (.aload_n 0, 1) := by decide +kernel
theorem dX0_write_170 : decode cX0_write 170 = .ok (.dup, 1) := by decide +kernel
theorem dX0_write_171 : decode cX0_write 171 = .ok (.getfield 44, 3) := by decide +kernel
theorem dX0_write_174 : decode cX0_write 174 = .ok (.iconst 1, 1) := by decide +kernel
theorem dX0_write_175 : decode cX0_write 175 = .ok (.iadd, 1) := by decide +kernel
theorem dX0_write_176 : decode cX0_write 176 = .ok (.putfield 44, 3) := by decide +kernel
theorem dX0_write_179 : decode cX0_write 179 = .ok (.return_, 1) := by decide +kernel
theorem dX0_pageOf_0 : decode cX0_pageOf 0 = .ok (.iload_n 0, 1) := by decide +kernel
theorem dX0_pageOf_1 : decode cX0_pageOf 1 = .ok (.bipush 60, 2) := by decide +kernel
theorem dX0_pageOf_3 : decode cX0_pageOf 3 = .ok (.invokestatic 63, 3) := by decide +kernel
theorem dX0_pageOf_6 : decode cX0_pageOf 6 = .ok (.iconst 5, 1) := by decide +kernel
theorem dX0_pageOf_7 : decode cX0_pageOf 7 = .ok (.imul, 1) := by decide +kernel
theorem dX0_pageOf_8 : decode cX0_pageOf 8 = .ok (.ireturn, 1) := by decide +kernel
theorem dJM_floorMod_0 : decode cJM_floorMod 0 = .ok (.iload_n 0, 1) := by decide +kernel
theorem dJM_floorMod_1 : decode cJM_floorMod 1 = .ok (.iload_n 1, 1) := by decide +kernel
theorem dJM_floorMod_2 : decode cJM_floorMod 2 = .ok (.irem, 1) := by decide +kernel
theorem dJM_floorMod_3 : decode cJM_floorMod 3 = .ok (.istore_n 2, 1) := by decide +kernel
theorem dJM_floorMod_4 : decode cJM_floorMod 4 = .ok (.iload_n 0, 1) := by decide +kernel
theorem dJM_floorMod_5 : decode cJM_floorMod 5 = .ok (.iload_n 1, 1) := by decide +kernel
theorem dJM_floorMod_6 : decode cJM_floorMod 6 = .ok (.ixor, 1) := by decide +kernel
theorem dJM_floorMod_7 : decode cJM_floorMod 7 = .ok (.ifCond .ge 11, 3) := by decide +kernel
theorem dJM_floorMod_10 : decode cJM_floorMod 10 = .ok (.iload_n 2, 1) := by decide +kernel
theorem dJM_floorMod_11 : decode cJM_floorMod 11 = .ok (.ifCond .eq 7, 3) := by decide +kernel
theorem dJM_floorMod_14 : decode cJM_floorMod 14 = .ok (.iload_n 2, 1) := by decide +kernel
theorem dJM_floorMod_15 : decode cJM_floorMod 15 = .ok (.iload_n 1, 1) := by decide +kernel
theorem dJM_floorMod_16 : decode cJM_floorMod 16 = .ok (.iadd, 1) := by decide +kernel
theorem dJM_floorMod_17 : decode cJM_floorMod 17 = .ok (.ireturn, 1) := by decide +kernel
theorem dJM_floorMod_18 : decode cJM_floorMod 18 = .ok (.iload_n 2, 1) := by decide +kernel
theorem dJM_floorMod_19 : decode cJM_floorMod 19 = .ok (.ireturn, 1) := by decide +kernel
theorem dX4_allInflow_0 : decode cX4_allInflow 0 = .ok (.lconst 0, 1) := by decide +kernel
theorem dX4_allInflow_1 : decode cX4_allInflow 1 = .ok (.lstore_n 1, 1) := by decide +kernel
theorem dX4_allInflow_2 : decode cX4_allInflow 2 = .ok (.iconst 0, 1) := by decide +kernel
theorem dX4_allInflow_3 : decode cX4_allInflow 3 = .ok (.istore_n 3, 1) := by decide +kernel
theorem dX4_allInflow_4 : decode cX4_allInflow 4 = .ok (.iload_n 3, 1) := by decide +kernel
theorem dX4_allInflow_5 : decode cX4_allInflow 5 = .ok (.bipush 32, 2) := by decide +kernel
theorem dX4_allInflow_7 : decode cX4_allInflow 7 = .ok (.if_icmp .ge 19, 3) := by decide +kernel
theorem dX4_allInflow_10 : decode cX4_allInflow 10 = .ok (.lload_n 1, 1) := by decide +kernel
theorem dX4_allInflow_11 : decode cX4_allInflow 11 = .ok (.aload_n 0, 1) := by decide +kernel
theorem dX4_allInflow_12 : decode cX4_allInflow 12 = .ok (.getfield 19, 3) := by decide +kernel
theorem dX4_allInflow_15 : decode cX4_allInflow 15 = .ok (.iload_n 3, 1) := by decide +kernel
theorem dX4_allInflow_16 : decode cX4_allInflow 16 = .ok (.iaload, 1) := by decide +kernel
theorem dX4_allInflow_17 : decode cX4_allInflow 17 = .ok (.i2l, 1) := by decide +kernel
theorem dX4_allInflow_18 : decode cX4_allInflow 18 = .ok (.ladd, 1) := by decide +kernel
theorem dX4_allInflow_19 : decode cX4_allInflow 19 = .ok (.lstore_n 1, 1) := by decide +kernel
theorem dX4_allInflow_20 : decode cX4_allInflow 20 = .ok (.iinc 3 1, 3) := by decide +kernel
theorem dX4_allInflow_23 : decode cX4_allInflow 23 = .ok (.goto (-19), 3) := by decide +kernel
theorem dX4_allInflow_26 : decode cX4_allInflow 26 = .ok (.lload_n 1, 1) := by decide +kernel
theorem dX4_allInflow_27 : decode cX4_allInflow 27 = .ok (.lreturn, 1) := by decide +kernel
theorem dX2_beginDay_0 : decode cX2_beginDay 0 = .ok (.iconst 0, 1) := by decide +kernel
theorem dX2_beginDay_1 : decode cX2_beginDay 1 = .ok (.istore_n 3, 1) := by decide +kernel
theorem dX2_beginDay_2 : decode cX2_beginDay 2 = .ok (.iload_n 3, 1) := by decide +kernel
theorem dX2_beginDay_3 : decode cX2_beginDay 3 = .ok (.aload_n 1, 1) := by decide +kernel
theorem dX2_beginDay_4 : decode cX2_beginDay 4 = .ok (.getfield 29, 3) := by decide +kernel
theorem dX2_beginDay_7 : decode cX2_beginDay 7 = .ok (.if_icmp .ge 48, 3) := by decide +kernel
theorem dX2_beginDay_10 : decode cX2_beginDay 10 = .ok (.aload_n 1, 1) := by decide +kernel
theorem dX2_beginDay_11 : decode cX2_beginDay 11 = .ok (.getfield 35, 3) := by decide +kernel
theorem dX2_beginDay_14 : decode cX2_beginDay 14 = .ok (.iload_n 3, 1) := by decide +kernel
theorem dX2_beginDay_15 : decode cX2_beginDay 15 = .ok (.iaload, 1) := by decide +kernel
theorem dX2_beginDay_16 : decode cX2_beginDay 16 = .ok (.istore 4, 2) := by decide +kernel
theorem dX2_beginDay_18 : decode cX2_beginDay 18 = .ok (.aload_n 1, 1) := by decide +kernel
theorem dX2_beginDay_19 : decode cX2_beginDay 19 = .ok (.iload 4, 2) := by decide +kernel
theorem dX2_beginDay_21 : decode cX2_beginDay 21 = .ok (.invokevirtual 38, 3) := by decide +kernel
theorem dX2_beginDay_24 : decode cX2_beginDay 24 = .ok (.ifCond .eq 25, 3) := by decide +kernel
theorem dX2_beginDay_27 : decode cX2_beginDay 27 = .ok (.aload_n 0, 1) := by decide +kernel
theorem dX2_beginDay_28 : decode cX2_beginDay 28 = .ok (.getfield 22, 3) := by decide +kernel
theorem dX2_beginDay_31 : decode cX2_beginDay 31 = .ok (.aload_n 1, 1) := by decide +kernel
theorem dX2_beginDay_32 : decode cX2_beginDay 32 = .ok (.getfield 42, 3) := by decide +kernel
theorem dX2_beginDay_35 : decode cX2_beginDay 35 = .ok (.iload 4, 2) := by decide +kernel
theorem dX2_beginDay_37 : decode cX2_beginDay 37 = .ok (.iaload, 1) := by decide +kernel
theorem dX2_beginDay_38 : decode cX2_beginDay 38 = .ok (.dup2, 1) := by decide +kernel
theorem dX2_beginDay_39 : decode cX2_beginDay 39 = .ok (.iaload, 1) := by decide +kernel
theorem dX2_beginDay_40 : decode cX2_beginDay 40 = .ok (.aload_n 2, 1) := by decide +kernel
theorem dX2_beginDay_41 : decode cX2_beginDay 41 = .ok (.getfield 45, 3) := by decide +kernel
theorem dX2_beginDay_44 : decode cX2_beginDay 44 = .ok (.iload 4, 2) := by decide +kernel
theorem dX2_beginDay_46 : decode cX2_beginDay 46 = .ok (.iaload, 1) := by decide +kernel
theorem dX2_beginDay_47 : decode cX2_beginDay 47 = .ok (.iadd, 1) := by decide +kernel
theorem dX2_beginDay_48 : decode cX2_beginDay 48 = .ok (.iastore, 1) := by decide +kernel
theorem dX2_beginDay_49 : decode cX2_beginDay 49 = .ok (.iinc 3 1, 3) := by decide +kernel
theorem dX2_beginDay_52 : decode cX2_beginDay 52 = .ok (.goto (-50), 3) := by decide +kernel
theorem dX2_beginDay_55 : decode cX2_beginDay 55 = .ok (.aload_n 0, 1) := by decide +kernel
theorem dX2_beginDay_56 : decode cX2_beginDay 56 = .ok (.lconst 0, 1) := by decide +kernel
theorem dX2_beginDay_57 : decode cX2_beginDay 57 = .ok (.putfield 25, 3) := by decide +kernel
theorem dX2_beginDay_60 : decode cX2_beginDay 60 = .ok (.return_, 1) := by decide +kernel
theorem dX4_beginDay_0 : decode cX4_beginDay 0 = .ok (.aload_n 0, 1) := by decide +kernel
theorem dX4_beginDay_1 : decode cX4_beginDay 1 = .ok (.getfield 19, 3) := by decide +kernel
theorem dX4_beginDay_4 : decode cX4_beginDay 4 = .ok (.iconst 0, 1) := by decide +kernel
theorem dX4_beginDay_5 : decode cX4_beginDay 5 = .ok (.invokestatic 30, 3) := by decide +kernel
theorem dX4_beginDay_8 : decode cX4_beginDay 8 = .ok (.aload_n 0, 1) := by decide +kernel
theorem dX4_beginDay_9 : decode cX4_beginDay 9 = .ok (.getfield 22, 3) := by decide +kernel
theorem dX4_beginDay_12 : decode cX4_beginDay 12 = .ok (.lconst 0, 1) := by decide +kernel
theorem dX4_beginDay_13 : decode cX4_beginDay 13 = .ok (.invokestatic 36, 3) := by decide +kernel
theorem dX4_beginDay_16 : decode cX4_beginDay 16 = .ok (.return_, 1) := by decide +kernel
theorem dX3_beginDay_0 : decode cX3_beginDay 0 = .ok (.aload_n 0, 1) := by decide +kernel
theorem dX3_beginDay_1 : decode cX3_beginDay 1 = .ok (.getfield 22, 3) := by decide +kernel
theorem dX3_beginDay_4 : decode cX3_beginDay 4 = .ok (.iconst 0, 1) := by decide +kernel
theorem dX3_beginDay_5 : decode cX3_beginDay 5 = .ok (.aload_n 0, 1) := by decide +kernel
theorem dX3_beginDay_6 : decode cX3_beginDay 6 = .ok (.getfield 25, 3) := by decide +kernel
theorem dX3_beginDay_9 : decode cX3_beginDay 9 = .ok (.iconst 0, 1) := by decide +kernel
theorem dX3_beginDay_10 : decode cX3_beginDay 10 = .ok (.bipush 40, 2) := by decide +kernel
theorem dX3_beginDay_12 : decode cX3_beginDay 12 = .ok (.invokestatic 48, 3) := by decide +kernel
theorem dX3_beginDay_15 : decode cX3_beginDay 15 = .ok (.return_, 1) := by decide +kernel
theorem dX5_held_0 : decode cX5_held 0 = .ok (.iload_n 1, 1) := by decide +kernel
theorem dX5_held_1 : decode cX5_held 1 = .ok (.ifCond .lt 21, 3) := by decide +kernel
theorem dX5_held_4 : decode cX5_held 4 = .ok (.iload_n 1, 1) := by decide +kernel
theorem dX5_held_5 : decode cX5_held 5 = .ok (.bipush 8, 2) := by decide +kernel
theorem dX5_held_7 : decode cX5_held 7 = .ok (.if_icmp .ge 15, 3) := by decide +kernel
theorem dX5_held_10 : decode cX5_held 10 = .ok (.aload_n 0, 1) := by decide +kernel
theorem dX5_held_11 : decode cX5_held 11 = .ok (.getfield 19, 3) := by decide +kernel
theorem dX5_held_14 : decode cX5_held 14 = .ok (.getfield 78, 3) := by decide +kernel
theorem dX5_held_17 : decode cX5_held 17 = .ok (.iload_n 1, 1) := by decide +kernel
theorem dX5_held_18 : decode cX5_held 18 = .ok (.baload, 1) := by decide +kernel
theorem dX5_held_19 : decode cX5_held 19 = .ok (.ifCond .ne 5, 3) := by decide +kernel
theorem dX5_held_22 : decode cX5_held 22 = .ok (.iconst (-1), 1) := by decide +kernel
theorem dX5_held_23 : decode cX5_held 23 = .ok (.ireturn, 1) := by decide +kernel
theorem dX5_held_24 : decode cX5_held 24 = .ok (.iload_n 2, 1) := by decide +kernel
theorem dX5_held_25 : decode cX5_held 25 = .ok (.tableswitch 57 0 2 #[27, 37, 47], 27) := by decide +kernel
theorem dX5_held_52 : decode cX5_held 52 = .ok (.aload_n 0, 1) := by decide +kernel
theorem dX5_held_53 : decode cX5_held 53 = .ok (.getfield 19, 3) := by decide +kernel
theorem dX5_held_56 : decode cX5_held 56 = .ok (.getfield 125, 3) := by decide +kernel
theorem dX5_held_59 : decode cX5_held 59 = .ok (.iload_n 1, 1) := by decide +kernel
theorem dX5_held_60 : decode cX5_held 60 = .ok (.iaload, 1) := by decide +kernel
theorem dX5_held_61 : decode cX5_held 61 = .ok (.ireturn, 1) := by decide +kernel
theorem dX5_held_62 : decode cX5_held 62 = .ok (.aload_n 0, 1) := by decide +kernel
theorem dX5_held_63 : decode cX5_held 63 = .ok (.getfield 19, 3) := by decide +kernel
theorem dX5_held_66 : decode cX5_held 66 = .ok (.getfield 195, 3) := by decide +kernel
theorem dX5_held_69 : decode cX5_held 69 = .ok (.iload_n 1, 1) := by decide +kernel
theorem dX5_held_70 : decode cX5_held 70 = .ok (.iaload, 1) := by decide +kernel
theorem dX5_held_71 : decode cX5_held 71 = .ok (.ireturn, 1) := by decide +kernel
theorem dX5_held_72 : decode cX5_held 72 = .ok (.aload_n 0, 1) := by decide +kernel
theorem dX5_held_73 : decode cX5_held 73 = .ok (.getfield 19, 3) := by decide +kernel
theorem dX5_held_76 : decode cX5_held 76 = .ok (.getfield 122, 3) := by decide +kernel
theorem dX5_held_79 : decode cX5_held 79 = .ok (.iload_n 1, 1) := by decide +kernel
theorem dX5_held_80 : decode cX5_held 80 = .ok (.iaload, 1) := by decide +kernel
theorem dX5_held_81 : decode cX5_held 81 = .ok (.ireturn, 1) := by decide +kernel
theorem dX5_held_82 : decode cX5_held 82 = .ok (.iconst (-1), 1) := by decide +kernel
theorem dX5_held_83 : decode cX5_held 83 = .ok (.ireturn, 1) := by decide +kernel
theorem dX5_book_0 : decode cX5_book 0 = .ok (.aload_n 0, 1) := by decide +kernel
theorem dX5_book_1 : decode cX5_book 1 = .ok (.getfield 33, 3) := by decide +kernel
theorem dX5_book_4 : decode cX5_book 4 = .ok (.iload_n 1, 1) := by decide +kernel
theorem dX5_book_5 : decode cX5_book 5 = .ok (.iload_n 2, 1) := by decide +kernel
theorem dX5_book_6 : decode cX5_book 6 = .ok (.invokevirtual 198, 3) := by decide +kernel
theorem dX5_book_9 : decode cX5_book 9 = .ok (.lreturn, 1) := by decide +kernel
theorem dX0_read_0 : decode cX0_read 0 = .ok (.iload_n 1, 1) := by decide +kernel
theorem dX0_read_1 : decode cX0_read 1 = .ok (.ifCond .lt 31, 3) := by decide +kernel
theorem dX0_read_4 : decode cX0_read 4 = .ok (.iload_n 1, 1) := by decide +kernel
theorem dX0_read_5 : decode cX0_read 5 = .ok (.aload_n 0, 1) := by decide +kernel
theorem dX0_read_6 : decode cX0_read 6 = .ok (.getfield 44, 3) := by decide +kernel
theorem dX0_read_9 : decode cX0_read 9 = .ok (.if_icmp .ge 23, 3) := by decide +kernel
theorem dX0_read_12 : decode cX0_read 12 = .ok (.iload_n 1, 1) := by decide +kernel
theorem dX0_read_13 : decode cX0_read 13 = .ok (.aload_n 0, 1) := by decide +kernel
theorem dX0_read_14 : decode cX0_read 14 = .ok (.getfield 44, 3) := by decide +kernel
theorem dX0_read_17 : decode cX0_read 17 = .ok (.bipush 60, 2) := by decide +kernel
theorem dX0_read_19 : decode cX0_read 19 = .ok (.isub, 1) := by decide +kernel
theorem dX0_read_20 : decode cX0_read 20 = .ok (.if_icmp .lt 12, 3) := by decide +kernel
theorem dX0_read_23 : decode cX0_read 23 = .ok (.iload_n 2, 1) := by decide +kernel
theorem dX0_read_24 : decode cX0_read 24 = .ok (.ifCond .lt 8, 3) := by decide +kernel
theorem dX0_read_27 : decode cX0_read 27 = .ok (.iload_n 2, 1) := by decide +kernel
theorem dX0_read_28 : decode cX0_read 28 = .ok (.iconst 5, 1) := by decide +kernel
theorem dX0_read_29 : decode cX0_read 29 = .ok (.if_icmp .lt 7, 3) := by decide +kernel
theorem dX0_read_32 : decode cX0_read 32 = .ok (.ldc2_w 69, 3) := by decide +kernel
theorem dX0_read_35 : decode cX0_read 35 = .ok (.lreturn, 1) := by decide +kernel
theorem dX0_read_36 : decode cX0_read 36 = .ok (.aload_n 0, 1) := by decide +kernel
theorem dX0_read_37 : decode cX0_read 37 = .ok (.getfield 11, 3) := by decide +kernel
theorem dX0_read_40 : decode cX0_read 40 = .ok (.iload_n 1, 1) := by decide +kernel
theorem dX0_read_41 : decode cX0_read 41 = .ok (.invokestatic 47, 3) := by decide +kernel
theorem dX0_read_44 : decode cX0_read 44 = .ok (.iload_n 2, 1) := by decide +kernel
theorem dX0_read_45 : decode cX0_read 45 = .ok (.iadd, 1) := by decide +kernel
theorem dX0_read_46 : decode cX0_read 46 = .ok (.laload, 1) := by decide +kernel
theorem dX0_read_47 : decode cX0_read 47 = .ok (.lreturn, 1) := by decide +kernel
theorem dX5_about_0 : decode cX5_about 0 = .ok (.iload_n 1, 1) := by decide +kernel
theorem dX5_about_1 : decode cX5_about 1 = .ok (.ifCond .lt 21, 3) := by decide +kernel
theorem dX5_about_4 : decode cX5_about 4 = .ok (.iload_n 1, 1) := by decide +kernel
theorem dX5_about_5 : decode cX5_about 5 = .ok (.bipush 40, 2) := by decide +kernel
theorem dX5_about_7 : decode cX5_about 7 = .ok (.if_icmp .ge 15, 3) := by decide +kernel
theorem dX5_about_10 : decode cX5_about 10 = .ok (.aload_n 0, 1) := by decide +kernel
theorem dX5_about_11 : decode cX5_about 11 = .ok (.getfield 26, 3) := by decide +kernel
theorem dX5_about_14 : decode cX5_about 14 = .ok (.getfield 85, 3) := by decide +kernel
theorem dX5_about_17 : decode cX5_about 17 = .ok (.iload_n 1, 1) := by decide +kernel
theorem dX5_about_18 : decode cX5_about 18 = .ok (.baload, 1) := by decide +kernel
theorem dX5_about_19 : decode cX5_about 19 = .ok (.ifCond .ne 5, 3) := by decide +kernel
theorem dX5_about_22 : decode cX5_about 22 = .ok (.iconst (-1), 1) := by decide +kernel
theorem dX5_about_23 : decode cX5_about 23 = .ok (.ireturn, 1) := by decide +kernel
theorem dX5_about_24 : decode cX5_about 24 = .ok (.iload_n 2, 1) := by decide +kernel
theorem dX5_about_25 : decode cX5_about 25 = .ok (.tableswitch 85 0 4 #[35, 45, 55, 65, 75], 35) := by decide +kernel
theorem dX5_about_60 : decode cX5_about 60 = .ok (.aload_n 0, 1) := by decide +kernel
theorem dX5_about_61 : decode cX5_about 61 = .ok (.getfield 26, 3) := by decide +kernel
theorem dX5_about_64 : decode cX5_about 64 = .ok (.getfield 202, 3) := by decide +kernel
theorem dX5_about_67 : decode cX5_about 67 = .ok (.iload_n 1, 1) := by decide +kernel
theorem dX5_about_68 : decode cX5_about 68 = .ok (.iaload, 1) := by decide +kernel
theorem dX5_about_69 : decode cX5_about 69 = .ok (.ireturn, 1) := by decide +kernel
theorem dX5_about_70 : decode cX5_about 70 = .ok (.aload_n 0, 1) := by decide +kernel
theorem dX5_about_71 : decode cX5_about 71 = .ok (.getfield 26, 3) := by decide +kernel
theorem dX5_about_74 : decode cX5_about 74 = .ok (.getfield 106, 3) := by decide +kernel
theorem dX5_about_77 : decode cX5_about 77 = .ok (.iload_n 1, 1) := by decide +kernel
theorem dX5_about_78 : decode cX5_about 78 = .ok (.iaload, 1) := by decide +kernel
theorem dX5_about_79 : decode cX5_about 79 = .ok (.ireturn, 1) := by decide +kernel
theorem dX5_about_80 : decode cX5_about 80 = .ok (.aload_n 0, 1) := by decide +kernel
theorem dX5_about_81 : decode cX5_about 81 = .ok (.getfield 26, 3) := by decide +kernel
theorem dX5_about_84 : decode cX5_about 84 = .ok (.getfield 110, 3) := by decide +kernel
theorem dX5_about_87 : decode cX5_about 87 = .ok (.iload_n 1, 1) := by decide +kernel
theorem dX5_about_88 : decode cX5_about 88 = .ok (.iaload, 1) := by decide +kernel
theorem dX5_about_89 : decode cX5_about 89 = .ok (.ireturn, 1) := by decide +kernel
theorem dX5_about_90 : decode cX5_about 90 = .ok (.aload_n 0, 1) := by decide +kernel
theorem dX5_about_91 : decode cX5_about 91 = .ok (.getfield 26, 3) := by decide +kernel
theorem dX5_about_94 : decode cX5_about 94 = .ok (.getfield 205, 3) := by decide +kernel
theorem dX5_about_97 : decode cX5_about 97 = .ok (.iload_n 1, 1) := by decide +kernel
theorem dX5_about_98 : decode cX5_about 98 = .ok (.iaload, 1) := by decide +kernel
theorem dX5_about_99 : decode cX5_about 99 = .ok (.ireturn, 1) := by decide +kernel
theorem dX5_about_100 : decode cX5_about 100 = .ok (.aload_n 0, 1) := by decide +kernel
theorem dX5_about_101 : decode cX5_about 101 = .ok (.getfield 26, 3) := by decide +kernel
theorem dX5_about_104 : decode cX5_about 104 = .ok (.getfield 208, 3) := by decide +kernel
theorem dX5_about_107 : decode cX5_about 107 = .ok (.iload_n 1, 1) := by decide +kernel
theorem dX5_about_108 : decode cX5_about 108 = .ok (.iaload, 1) := by decide +kernel
theorem dX5_about_109 : decode cX5_about 109 = .ok (.ireturn, 1) := by decide +kernel
theorem dX5_about_110 : decode cX5_about 110 = .ok (.iconst (-1), 1) := by decide +kernel
theorem dX5_about_111 : decode cX5_about 111 = .ok (.ireturn, 1) := by decide +kernel
theorem dX5_aged_0 : decode cX5_aged 0 = .ok (.iload_n 1, 1) := by decide +kernel
theorem dX5_aged_1 : decode cX5_aged 1 = .ok (.ifCond .lt 14, 3) := by decide +kernel
theorem dX5_aged_4 : decode cX5_aged 4 = .ok (.iload_n 1, 1) := by decide +kernel
theorem dX5_aged_5 : decode cX5_aged 5 = .ok (.aload_n 0, 1) := by decide +kernel
theorem dX5_aged_6 : decode cX5_aged 6 = .ok (.getfield 26, 3) := by decide +kernel
theorem dX5_aged_9 : decode cX5_aged 9 = .ok (.getfield 140, 3) := by decide +kernel
theorem dX5_aged_12 : decode cX5_aged 12 = .ok (.if_icmp .lt 7, 3) := by decide +kernel
theorem dX5_aged_15 : decode cX5_aged 15 = .ok (.iconst (-1), 1) := by decide +kernel
theorem dX5_aged_16 : decode cX5_aged 16 = .ok (.goto 12, 3) := by decide +kernel
theorem dX5_aged_19 : decode cX5_aged 19 = .ok (.aload_n 0, 1) := by decide +kernel
theorem dX5_aged_20 : decode cX5_aged 20 = .ok (.getfield 26, 3) := by decide +kernel
theorem dX5_aged_23 : decode cX5_aged 23 = .ok (.getfield 143, 3) := by decide +kernel
theorem dX5_aged_26 : decode cX5_aged 26 = .ok (.iload_n 1, 1) := by decide +kernel
theorem dX5_aged_27 : decode cX5_aged 27 = .ok (.iaload, 1) := by decide +kernel
theorem dX5_aged_28 : decode cX5_aged 28 = .ok (.ireturn, 1) := by decide +kernel
theorem dL_reach_0 : decode cL_reach 0 = .ok (.aload_n 0, 1) := by decide +kernel
theorem dL_reach_1 : decode cL_reach 1 = .ok (.iload_n 1, 1) := by decide +kernel
theorem dL_reach_2 : decode cL_reach 2 = .ok (.iload_n 2, 1) := by decide +kernel
theorem dL_reach_3 : decode cL_reach 3 = .ok (.invokevirtual 7, 3) := by decide +kernel
theorem dL_reach_6 : decode cL_reach 6 = .ok (.goto 12, 3) := by decide +kernel
theorem dL_reach_9 : decode cL_reach 9 = .ok (.astore_n 3, 1) := by decide +kernel
theorem dL_reach_10 : decode cL_reach 10 = .ok (.iconst 1, 1) := by decide +kernel
theorem dL_reach_11 : decode cL_reach 11 = .ok (.ireturn, 1) := by decide +kernel
theorem dL_reach_12 : decode cL_reach 12 = .ok (.astore_n 3, 1) := by decide +kernel
theorem dL_reach_13 : decode cL_reach 13 = .ok (.iconst 2, 1) := by decide +kernel
theorem dL_reach_14 : decode cL_reach 14 = .ok (.ireturn, 1) := by decide +kernel
theorem dL_reach_15 : decode cL_reach 15 = .ok (.astore_n 3, 1) := by decide +kernel
theorem dL_reach_16 : decode cL_reach 16 = .ok (.iconst 3, 1) := by decide +kernel
theorem dL_reach_17 : decode cL_reach 17 = .ok (.ireturn, 1) := by decide +kernel
theorem dL_reach_18 : decode cL_reach 18 = .ok (.iconst 0, 1) := by decide +kernel
theorem dL_reach_19 : decode cL_reach 19 = .ok (.ireturn, 1) := by decide +kernel
theorem dX5_reach_0 : decode cX5_reach 0 = .ok (.iload_n 1, 1) := by decide +kernel
