theorem dX5_call_67 : decode cX5_call 67 = .ok (.ireturn, 1) := by decide +kernel
theorem dX5_call_68 : decode cX5_call 68 = .ok (.aload_n 0, 1) := by decide +kernel
theorem dX5_call_69 : decode cX5_call 69 = .ok (.getfield 44, 3) := by decide +kernel
theorem dX5_call_72 : decode cX5_call 72 = .ok (.aload_n 0, 1) := by decide +kernel
theorem dX5_call_73 : decode cX5_call 73 = .ok (.getfield 10, 3) := by decide +kernel
theorem dX5_call_76 : decode cX5_call 76 = .ok (.aload_n 0, 1) := by decide +kernel
theorem dX5_call_77 : decode cX5_call 77 = .ok (.getfield 26, 3) := by decide +kernel
theorem dX5_call_80 : decode cX5_call 80 = .ok (.iload_n 1, 1) := by decide +kernel
theorem dX5_call_81 : decode cX5_call 81 = .ok (.iload_n 2, 1) := by decide +kernel
theorem dX5_call_82 : decode cX5_call 82 = .ok (.invokevirtual 169, 3) := by decide +kernel
theorem dX5_call_85 : decode cX5_call 85 = .ok (.aload_n 0, 1) := by decide +kernel
theorem dX5_call_86 : decode cX5_call 86 = .ok (.getfield 44, 3) := by decide +kernel
theorem dX5_call_89 : decode cX5_call 89 = .ok (.aload_n 0, 1) := by decide +kernel
theorem dX5_call_90 : decode cX5_call 90 = .ok (.getfield 10, 3) := by decide +kernel
theorem dX5_call_93 : decode cX5_call 93 = .ok (.aload_n 0, 1) := by decide +kernel
theorem dX5_call_94 : decode cX5_call 94 = .ok (.getfield 26, 3) := by decide +kernel
theorem dX5_call_97 : decode cX5_call 97 = .ok (.iload_n 1, 1) := by decide +kernel
theorem dX5_call_98 : decode cX5_call 98 = .ok (.invokevirtual 173, 3) := by decide +kernel
theorem dX5_call_101 : decode cX5_call 101 = .ok (.aload_n 0, 1) := by decide +kernel
theorem dX5_call_102 : decode cX5_call 102 = .ok (.invokevirtual 177, 3) := by decide +kernel
theorem dX5_call_105 : decode cX5_call 105 = .ok (.ireturn, 1) := by decide +kernel
theorem dX5_oldestThatWouldGetLess_0 : decode cX5_oldestThatWouldGetLess 0 = .ok (.iconst 0, 1) := by decide +kernel
theorem dX5_oldestThatWouldGetLess_1 : decode cX5_oldestThatWouldGetLess 1 = .ok (.istore_n 1, 1) := by decide +kernel
theorem dX5_oldestThatWouldGetLess_2 : decode cX5_oldestThatWouldGetLess 2 = .ok (.iload_n 1, 1) := by decide +kernel
theorem dX5_oldestThatWouldGetLess_3 : decode cX5_oldestThatWouldGetLess 3 = .ok (.aload_n 0, 1) := by decide +kernel
theorem dX5_oldestThatWouldGetLess_4 : decode cX5_oldestThatWouldGetLess 4 = .ok (.getfield 26, 3) := by decide +kernel
theorem dX5_oldestThatWouldGetLess_7 : decode cX5_oldestThatWouldGetLess 7 = .ok (.getfield 140, 3) := by decide +kernel
theorem dX5_oldestThatWouldGetLess_10 : decode cX5_oldestThatWouldGetLess 10 = .ok (.if_icmp .ge 42, 3) := by decide +kernel
theorem dX5_oldestThatWouldGetLess_13 : decode cX5_oldestThatWouldGetLess 13 = .ok (.aload_n 0, 1) := by decide +kernel
theorem dX5_oldestThatWouldGetLess_14 : decode cX5_oldestThatWouldGetLess 14 = .ok (.getfield 26, 3) := by decide +kernel
theorem dX5_oldestThatWouldGetLess_17 : decode cX5_oldestThatWouldGetLess 17 = .ok (.getfield 143, 3) := by decide +kernel
theorem dX5_oldestThatWouldGetLess_20 : decode cX5_oldestThatWouldGetLess 20 = .ok (.iload_n 1, 1) := by decide +kernel
theorem dX5_oldestThatWouldGetLess_21 : decode cX5_oldestThatWouldGetLess 21 = .ok (.iaload, 1) := by decide +kernel
theorem dX5_oldestThatWouldGetLess_22 : decode cX5_oldestThatWouldGetLess 22 = .ok (.istore_n 2, 1) := by decide +kernel
theorem dX5_oldestThatWouldGetLess_23 : decode cX5_oldestThatWouldGetLess 23 = .ok (.aload_n 0, 1) := by decide +kernel
theorem dX5_oldestThatWouldGetLess_24 : decode cX5_oldestThatWouldGetLess 24 = .ok (.getfield 44, 3) := by decide +kernel
theorem dX5_oldestThatWouldGetLess_27 : decode cX5_oldestThatWouldGetLess 27 = .ok (.getfield 149, 3) := by decide +kernel
theorem dX5_oldestThatWouldGetLess_30 : decode cX5_oldestThatWouldGetLess 30 = .ok (.iload_n 2, 1) := by decide +kernel
theorem dX5_oldestThatWouldGetLess_31 : decode cX5_oldestThatWouldGetLess 31 = .ok (.iaload, 1) := by decide +kernel
theorem dX5_oldestThatWouldGetLess_32 : decode cX5_oldestThatWouldGetLess 32 = .ok (.aload_n 0, 1) := by decide +kernel
theorem dX5_oldestThatWouldGetLess_33 : decode cX5_oldestThatWouldGetLess 33 = .ok (.getfield 40, 3) := by decide +kernel
theorem dX5_oldestThatWouldGetLess_36 : decode cX5_oldestThatWouldGetLess 36 = .ok (.getfield 149, 3) := by decide +kernel
theorem dX5_oldestThatWouldGetLess_39 : decode cX5_oldestThatWouldGetLess 39 = .ok (.iload_n 2, 1) := by decide +kernel
theorem dX5_oldestThatWouldGetLess_40 : decode cX5_oldestThatWouldGetLess 40 = .ok (.iaload, 1) := by decide +kernel
theorem dX5_oldestThatWouldGetLess_41 : decode cX5_oldestThatWouldGetLess 41 = .ok (.if_icmp .ge 5, 3) := by decide +kernel
theorem dX5_oldestThatWouldGetLess_44 : decode cX5_oldestThatWouldGetLess 44 = .ok (.iload_n 2, 1) := by decide +kernel
theorem dX5_oldestThatWouldGetLess_45 : decode cX5_oldestThatWouldGetLess 45 = .ok (.ireturn, 1) := by decide +kernel
theorem dX5_oldestThatWouldGetLess_46 : decode cX5_oldestThatWouldGetLess 46 = .ok (.iinc 1 1, 3) := by decide +kernel
theorem dX5_oldestThatWouldGetLess_49 : decode cX5_oldestThatWouldGetLess 49 = .ok (.goto (-47), 3) := by decide +kernel
theorem dX5_oldestThatWouldGetLess_52 : decode cX5_oldestThatWouldGetLess 52 = .ok (.iconst (-1), 1) := by decide +kernel
theorem dX5_oldestThatWouldGetLess_53 : decode cX5_oldestThatWouldGetLess 53 = .ok (.ireturn, 1) := by decide +kernel
theorem dL_futile_0 : decode cL_futile 0 = .ok (.aload_n 3, 1) := by decide +kernel
theorem dL_futile_1 : decode cL_futile 1 = .ok (.iconst 0, 1) := by decide +kernel
theorem dL_futile_2 : decode cL_futile 2 = .ok (.aload_n 0, 1) := by decide +kernel
theorem dL_futile_3 : decode cL_futile 3 = .ok (.iload_n 1, 1) := by decide +kernel
theorem dL_futile_4 : decode cL_futile 4 = .ok (.iload_n 2, 1) := by decide +kernel
theorem dL_futile_5 : decode cL_futile 5 = .ok (.invokevirtual 58, 3) := by decide +kernel
theorem dL_futile_8 : decode cL_futile 8 = .ok (.ifCond .eq 7, 3) := by decide +kernel
theorem dL_futile_11 : decode cL_futile 11 = .ok (.lconst 1, 1) := by decide +kernel
theorem dL_futile_12 : decode cL_futile 12 = .ok (.goto 4, 3) := by decide +kernel
theorem dL_futile_15 : decode cL_futile 15 = .ok (.lconst 0, 1) := by decide +kernel
theorem dL_futile_16 : decode cL_futile 16 = .ok (.lastore, 1) := by decide +kernel
theorem dL_futile_17 : decode cL_futile 17 = .ok (.goto 11, 3) := by decide +kernel
theorem dL_futile_20 : decode cL_futile 20 = .ok (.astore 4, 2) := by decide +kernel
theorem dL_futile_22 : decode cL_futile 22 = .ok (.iconst 1, 1) := by decide +kernel
theorem dL_futile_23 : decode cL_futile 23 = .ok (.ireturn, 1) := by decide +kernel
theorem dL_futile_24 : decode cL_futile 24 = .ok (.astore 4, 2) := by decide +kernel
theorem dL_futile_26 : decode cL_futile 26 = .ok (.iconst 2, 1) := by decide +kernel
theorem dL_futile_27 : decode cL_futile 27 = .ok (.ireturn, 1) := by decide +kernel
theorem dL_futile_28 : decode cL_futile 28 = .ok (.iconst 0, 1) := by decide +kernel
theorem dL_futile_29 : decode cL_futile 29 = .ok (.ireturn, 1) := by decide +kernel
theorem dX5_futile_0 : decode cX5_futile 0 = .ok (.iload_n 1, 1) := by decide +kernel
theorem dX5_futile_1 : decode cX5_futile 1 = .ok (.bipush 40, 2) := by decide +kernel
theorem dX5_futile_3 : decode cX5_futile 3 = .ok (.invokestatic 51, 3) := by decide +kernel
theorem dX5_futile_6 : decode cX5_futile 6 = .ok (.iload_n 2, 1) := by decide +kernel
theorem dX5_futile_7 : decode cX5_futile 7 = .ok (.bipush 40, 2) := by decide +kernel
theorem dX5_futile_9 : decode cX5_futile 9 = .ok (.invokestatic 51, 3) := by decide +kernel
theorem dX5_futile_12 : decode cX5_futile 12 = .ok (.aload_n 0, 1) := by decide +kernel
theorem dX5_futile_13 : decode cX5_futile 13 = .ok (.getfield 26, 3) := by decide +kernel
theorem dX5_futile_16 : decode cX5_futile 16 = .ok (.getfield 85, 3) := by decide +kernel
theorem dX5_futile_19 : decode cX5_futile 19 = .ok (.iload_n 1, 1) := by decide +kernel
theorem dX5_futile_20 : decode cX5_futile 20 = .ok (.baload, 1) := by decide +kernel
theorem dX5_futile_21 : decode cX5_futile 21 = .ok (.invokestatic 59, 3) := by decide +kernel
theorem dX5_futile_24 : decode cX5_futile 24 = .ok (.aload_n 0, 1) := by decide +kernel
theorem dX5_futile_25 : decode cX5_futile 25 = .ok (.getfield 26, 3) := by decide +kernel
theorem dX5_futile_28 : decode cX5_futile 28 = .ok (.getfield 85, 3) := by decide +kernel
theorem dX5_futile_31 : decode cX5_futile 31 = .ok (.iload_n 2, 1) := by decide +kernel
theorem dX5_futile_32 : decode cX5_futile 32 = .ok (.baload, 1) := by decide +kernel
theorem dX5_futile_33 : decode cX5_futile 33 = .ok (.invokestatic 59, 3) := by decide +kernel
theorem dX5_futile_36 : decode cX5_futile 36 = .ok (.aload_n 0, 1) := by decide +kernel
theorem dX5_futile_37 : decode cX5_futile 37 = .ok (.invokevirtual 137, 3) := by decide +kernel
theorem dX5_futile_40 : decode cX5_futile 40 = .ok (.aload_n 0, 1) := by decide +kernel
theorem dX5_futile_41 : decode cX5_futile 41 = .ok (.getfield 44, 3) := by decide +kernel
theorem dX5_futile_44 : decode cX5_futile 44 = .ok (.aload_n 0, 1) := by decide +kernel
theorem dX5_futile_45 : decode cX5_futile 45 = .ok (.getfield 10, 3) := by decide +kernel
theorem dX5_futile_48 : decode cX5_futile 48 = .ok (.aload_n 0, 1) := by decide +kernel
theorem dX5_futile_49 : decode cX5_futile 49 = .ok (.getfield 19, 3) := by decide +kernel
theorem dX5_futile_52 : decode cX5_futile 52 = .ok (.invokevirtual 161, 3) := by decide +kernel
theorem dX5_futile_55 : decode cX5_futile 55 = .ok (.aload_n 0, 1) := by decide +kernel
theorem dX5_futile_56 : decode cX5_futile 56 = .ok (.getfield 44, 3) := by decide +kernel
theorem dX5_futile_59 : decode cX5_futile 59 = .ok (.aload_n 0, 1) := by decide +kernel
theorem dX5_futile_60 : decode cX5_futile 60 = .ok (.getfield 10, 3) := by decide +kernel
theorem dX5_futile_63 : decode cX5_futile 63 = .ok (.aload_n 0, 1) := by decide +kernel
theorem dX5_futile_64 : decode cX5_futile 64 = .ok (.getfield 26, 3) := by decide +kernel
theorem dX5_futile_67 : decode cX5_futile 67 = .ok (.iload_n 1, 1) := by decide +kernel
theorem dX5_futile_68 : decode cX5_futile 68 = .ok (.invokevirtual 173, 3) := by decide +kernel
theorem dX5_futile_71 : decode cX5_futile 71 = .ok (.aload_n 0, 1) := by decide +kernel
theorem dX5_futile_72 : decode cX5_futile 72 = .ok (.getfield 44, 3) := by decide +kernel
theorem dX5_futile_75 : decode cX5_futile 75 = .ok (.getfield 149, 3) := by decide +kernel
theorem dX5_futile_78 : decode cX5_futile 78 = .ok (.iload_n 2, 1) := by decide +kernel
theorem dX5_futile_79 : decode cX5_futile 79 = .ok (.iaload, 1) := by decide +kernel
theorem dX5_futile_80 : decode cX5_futile 80 = .ok (.aload_n 0, 1) := by decide +kernel
theorem dX5_futile_81 : decode cX5_futile 81 = .ok (.getfield 40, 3) := by decide +kernel
theorem dX5_futile_84 : decode cX5_futile 84 = .ok (.getfield 149, 3) := by decide +kernel
theorem dX5_futile_87 : decode cX5_futile 87 = .ok (.iload_n 2, 1) := by decide +kernel
theorem dX5_futile_88 : decode cX5_futile 88 = .ok (.iaload, 1) := by decide +kernel
theorem dX5_futile_89 : decode cX5_futile 89 = .ok (.if_icmp .ne 7, 3) := by decide +kernel
theorem dX5_futile_92 : decode cX5_futile 92 = .ok (.iconst 1, 1) := by decide +kernel
theorem dX5_futile_93 : decode cX5_futile 93 = .ok (.goto 4, 3) := by decide +kernel
theorem dX5_futile_96 : decode cX5_futile 96 = .ok (.iconst 0, 1) := by decide +kernel
theorem dX5_futile_97 : decode cX5_futile 97 = .ok (.ireturn, 1) := by decide +kernel
theorem dX6_init_0 : decode cX6_init 0 = .ok (.aload_n 0, 1) := by decide +kernel
theorem dX6_init_1 : decode cX6_init 1 = .ok (.invokespecial 1, 3) := by decide +kernel
theorem dX6_init_4 : decode cX6_init 4 = .ok (.aload_n 0, 1) := by decide +kernel
theorem dX6_init_5 : decode cX6_init 5 = .ok (.bipush 32, 2) := by decide +kernel
theorem dX6_init_7 : decode cX6_init 7 = .ok (.newarray .boolean, 2) := by decide +kernel
theorem dX6_init_9 : decode cX6_init 9 = .ok (.putfield 7, 3) := by decide +kernel
theorem dX6_init_12 : decode cX6_init 12 = .ok (.aload_n 0, 1) := by decide +kernel
theorem dX6_init_13 : decode cX6_init 13 = .ok (.bipush 32, 2) := by decide +kernel
theorem dX6_init_15 : decode cX6_init 15 = .ok (.newarray .int, 2) := by decide +kernel
theorem dX6_init_17 : decode cX6_init 17 = .ok (.putfield 13, 3) := by decide +kernel
theorem dX6_init_20 : decode cX6_init 20 = .ok (.aload_n 0, 1) := by decide +kernel
theorem dX6_init_21 : decode cX6_init 21 = .ok (.bipush 32, 2) := by decide +kernel
theorem dX6_init_23 : decode cX6_init 23 = .ok (.newarray .int, 2) := by decide +kernel
theorem dX6_init_25 : decode cX6_init 25 = .ok (.putfield 17, 3) := by decide +kernel
theorem dX6_init_28 : decode cX6_init 28 = .ok (.aload_n 0, 1) := by decide +kernel
theorem dX6_init_29 : decode cX6_init 29 = .ok (.bipush 8, 2) := by decide +kernel
theorem dX6_init_31 : decode cX6_init 31 = .ok (.newarray .boolean, 2) := by decide +kernel
theorem dX6_init_33 : decode cX6_init 33 = .ok (.putfield 20, 3) := by decide +kernel
theorem dX6_init_36 : decode cX6_init 36 = .ok (.aload_n 0, 1) := by decide +kernel
theorem dX6_init_37 : decode cX6_init 37 = .ok (.bipush 8, 2) := by decide +kernel
theorem dX6_init_39 : decode cX6_init 39 = .ok (.newarray .int, 2) := by decide +kernel
theorem dX6_init_41 : decode cX6_init 41 = .ok (.putfield 23, 3) := by decide +kernel
theorem dX6_init_44 : decode cX6_init 44 = .ok (.aload_n 0, 1) := by decide +kernel
theorem dX6_init_45 : decode cX6_init 45 = .ok (.bipush 8, 2) := by decide +kernel
theorem dX6_init_47 : decode cX6_init 47 = .ok (.newarray .int, 2) := by decide +kernel
theorem dX6_init_49 : decode cX6_init 49 = .ok (.putfield 26, 3) := by decide +kernel
theorem dX6_init_52 : decode cX6_init 52 = .ok (.aload_n 0, 1) := by decide +kernel
theorem dX6_init_53 : decode cX6_init 53 = .ok (.bipush 8, 2) := by decide +kernel
theorem dX6_init_55 : decode cX6_init 55 = .ok (.newarray .int, 2) := by decide +kernel
theorem dX6_init_57 : decode cX6_init 57 = .ok (.putfield 29, 3) := by decide +kernel
theorem dX6_init_60 : decode cX6_init 60 = .ok (.aload_n 0, 1) := by decide +kernel
theorem dX6_init_61 : decode cX6_init 61 = .ok (.sipush 256, 3) := by decide +kernel
theorem dX6_init_64 : decode cX6_init 64 = .ok (.newarray .long, 2) := by decide +kernel
theorem dX6_init_66 : decode cX6_init 66 = .ok (.putfield 32, 3) := by decide +kernel
theorem dX6_init_69 : decode cX6_init 69 = .ok (.aload_n 0, 1) := by decide +kernel
theorem dX6_init_70 : decode cX6_init 70 = .ok (.bipush 40, 2) := by decide +kernel
theorem dX6_init_72 : decode cX6_init 72 = .ok (.newarray .boolean, 2) := by decide +kernel
theorem dX6_init_74 : decode cX6_init 74 = .ok (.putfield 36, 3) := by decide +kernel
theorem dX6_init_77 : decode cX6_init 77 = .ok (.aload_n 0, 1) := by decide +kernel
theorem dX6_init_78 : decode cX6_init 78 = .ok (.bipush 40, 2) := by decide +kernel
theorem dX6_init_80 : decode cX6_init 80 = .ok (.newarray .int, 2) := by decide +kernel
theorem dX6_init_82 : decode cX6_init 82 = .ok (.putfield 39, 3) := by decide +kernel
theorem dX6_init_85 : decode cX6_init 85 = .ok (.aload_n 0, 1) := by decide +kernel
theorem dX6_init_86 : decode cX6_init 86 = .ok (.bipush 40, 2) := by decide +kernel
theorem dX6_init_88 : decode cX6_init 88 = .ok (.newarray .int, 2) := by decide +kernel
theorem dX6_init_90 : decode cX6_init 90 = .ok (.putfield 42, 3) := by decide +kernel
theorem dX6_init_93 : decode cX6_init 93 = .ok (.aload_n 0, 1) := by decide +kernel
theorem dX6_init_94 : decode cX6_init 94 = .ok (.bipush 40, 2) := by decide +kernel
theorem dX6_init_96 : decode cX6_init 96 = .ok (.newarray .int, 2) := by decide +kernel
theorem dX6_init_98 : decode cX6_init 98 = .ok (.putfield 45, 3) := by decide +kernel
theorem dX6_init_101 : decode cX6_init 101 = .ok (.aload_n 0, 1) := by decide +kernel
theorem dX6_init_102 : decode cX6_init 102 = .ok (.bipush 40, 2) := by decide +kernel
theorem dX6_init_104 : decode cX6_init 104 = .ok (.newarray .int, 2) := by decide +kernel
theorem dX6_init_106 : decode cX6_init 106 = .ok (.putfield 48, 3) := by decide +kernel
theorem dX6_init_109 : decode cX6_init 109 = .ok (.aload_n 0, 1) := by decide +kernel
theorem dX6_init_110 : decode cX6_init 110 = .ok (.bipush 40, 2) := by decide +kernel
theorem dX6_init_112 : decode cX6_init 112 = .ok (.newarray .int, 2) := by decide +kernel
theorem dX6_init_114 : decode cX6_init 114 = .ok (.putfield 51, 3) := by decide +kernel
theorem dX6_init_117 : decode cX6_init 117 = .ok (.aload_n 0, 1) := by decide +kernel
theorem dX6_init_118 : decode cX6_init 118 = .ok (.bipush 40, 2) := by decide +kernel
theorem dX6_init_120 : decode cX6_init 120 = .ok (.newarray .int, 2) := by decide +kernel
theorem dX6_init_122 : decode cX6_init 122 = .ok (.putfield 54, 3) := by decide +kernel
theorem dX6_init_125 : decode cX6_init 125 = .ok (.aload_n 0, 1) := by decide +kernel
theorem dX6_init_126 : decode cX6_init 126 = .ok (.bipush 40, 2) := by decide +kernel
theorem dX6_init_128 : decode cX6_init 128 = .ok (.newarray .int, 2) := by decide +kernel
theorem dX6_init_130 : decode cX6_init 130 = .ok (.putfield 57, 3) := by decide +kernel
theorem dX6_init_133 : decode cX6_init 133 = .ok (.aload_n 0, 1) := by decide +kernel
theorem dX6_init_134 : decode cX6_init 134 = .ok (.sipush 300, 3) := by decide +kernel
theorem dX6_init_137 : decode cX6_init 137 = .ok (.newarray .long, 2) := by decide +kernel
theorem dX6_init_139 : decode cX6_init 139 = .ok (.putfield 60, 3) := by decide +kernel
theorem dX6_init_142 : decode cX6_init 142 = .ok (.aload_n 0, 1) := by decide +kernel
theorem dX6_init_143 : decode cX6_init 143 = .ok (.bipush 40, 2) := by decide +kernel
theorem dX6_init_145 : decode cX6_init 145 = .ok (.newarray .int, 2) := by decide +kernel
theorem dX6_init_147 : decode cX6_init 147 = .ok (.putfield 63, 3) := by decide +kernel
theorem dX6_init_150 : decode cX6_init 150 = .ok (.aload_n 0, 1) := by decide +kernel
theorem dX6_init_151 : decode cX6_init 151 = .ok (.bipush 40, 2) := by decide +kernel
theorem dX6_init_153 : decode cX6_init 153 = .ok (.newarray .int, 2) := by decide +kernel
theorem dX6_init_155 : decode cX6_init 155 = .ok (.putfield 66, 3) := by decide +kernel
theorem dX6_init_158 : decode cX6_init 158 = .ok (.aload_n 0, 1) := by decide +kernel
theorem dX6_init_159 : decode cX6_init 159 = .ok (.bipush 40, 2) := by decide +kernel
theorem dX6_init_161 : decode cX6_init 161 = .ok (.newarray .int, 2) := by decide +kernel
theorem dX6_init_163 : decode cX6_init 163 = .ok (.putfield 69, 3) := by decide +kernel
theorem dX6_init_166 : decode cX6_init 166 = .ok (.return_, 1) := by decide +kernel
theorem dX6_thrown_0 : decode cX6_thrown 0 = .ok (.aload_n 0, 1) := by decide +kernel
theorem dX6_thrown_1 : decode cX6_thrown 1 = .ok (.getfield 72, 3) := by decide +kernel
theorem dX6_thrown_4 : decode cX6_thrown 4 = .ok (.ireturn, 1) := by decide +kernel
theorem dX6_reach_0 : decode cX6_reach 0 = .ok (.aload_n 0, 1) := by decide +kernel
theorem dX6_reach_1 : decode cX6_reach 1 = .ok (.iload_n 1, 1) := by decide +kernel
theorem dX6_reach_2 : decode cX6_reach 2 = .ok (.bipush 32, 2) := by decide +kernel
theorem dX6_reach_4 : decode cX6_reach 4 = .ok (.invokestatic 76, 3) := by decide +kernel
theorem dX6_reach_7 : decode cX6_reach 7 = .ok (.ifCond .eq 14, 3) := by decide +kernel
theorem dX6_reach_10 : decode cX6_reach 10 = .ok (.iload_n 2, 1) := by decide +kernel
theorem dX6_reach_11 : decode cX6_reach 11 = .ok (.iconst (-1), 1) := by decide +kernel
theorem dX6_reach_12 : decode cX6_reach 12 = .ok (.if_icmp .lt 9, 3) := by decide +kernel
theorem dX6_reach_15 : decode cX6_reach 15 = .ok (.iload_n 2, 1) := by decide +kernel
theorem dX6_reach_16 : decode cX6_reach 16 = .ok (.bipush 31, 2) := by decide +kernel
theorem dX6_reach_18 : decode cX6_reach 18 = .ok (.if_icmp .le 7, 3) := by decide +kernel
theorem dX6_reach_21 : decode cX6_reach 21 = .ok (.iconst 1, 1) := by decide +kernel
theorem dX6_reach_22 : decode cX6_reach 22 = .ok (.goto 4, 3) := by decide +kernel
theorem dX6_reach_25 : decode cX6_reach 25 = .ok (.iconst 0, 1) := by decide +kernel
theorem dX6_reach_26 : decode cX6_reach 26 = .ok (.putfield 72, 3) := by decide +kernel
theorem dX6_reach_29 : decode cX6_reach 29 = .ok (.aload_n 0, 1) := by decide +kernel
theorem dX6_reach_30 : decode cX6_reach 30 = .ok (.getfield 72, 3) := by decide +kernel
theorem dX6_reach_33 : decode cX6_reach 33 = .ok (.ifCond .ne 21, 3) := by decide +kernel
theorem dX6_reach_36 : decode cX6_reach 36 = .ok (.iload_n 2, 1) := by decide +kernel
theorem dX6_reach_37 : decode cX6_reach 37 = .ok (.ifCond .lt 17, 3) := by decide +kernel
theorem dX6_reach_40 : decode cX6_reach 40 = .ok (.aload_n 0, 1) := by decide +kernel
theorem dX6_reach_41 : decode cX6_reach 41 = .ok (.getfield 7, 3) := by decide +kernel
theorem dX6_reach_44 : decode cX6_reach 44 = .ok (.iload_n 2, 1) := by decide +kernel
theorem dX6_reach_45 : decode cX6_reach 45 = .ok (.baload, 1) := by decide +kernel
theorem dX6_reach_46 : decode cX6_reach 46 = .ok (.ifCond .ne 8, 3) := by decide +kernel
theorem dX6_reach_49 : decode cX6_reach 49 = .ok (.aload_n 0, 1) := by decide +kernel
theorem dX6_reach_50 : decode cX6_reach 50 = .ok (.iconst 2, 1) := by decide +kernel
theorem dX6_reach_51 : decode cX6_reach 51 = .ok (.putfield 72, 3) := by decide +kernel
theorem dX6_reach_54 : decode cX6_reach 54 = .ok (.iconst 0, 1) := by decide +kernel
theorem dX6_reach_55 : decode cX6_reach 55 = .ok (.istore_n 3, 1) := by decide +kernel
theorem dX6_reach_56 : decode cX6_reach 56 = .ok (.iconst 0, 1) := by decide +kernel
theorem dX6_reach_57 : decode cX6_reach 57 = .ok (.istore 4, 2) := by decide +kernel
theorem dX6_reach_59 : decode cX6_reach 59 = .ok (.iload 4, 2) := by decide +kernel
theorem dX6_reach_61 : decode cX6_reach 61 = .ok (.bipush 32, 2) := by decide +kernel
theorem dX6_reach_63 : decode cX6_reach 63 = .ok (.if_icmp .ge 40, 3) := by decide +kernel
theorem dX6_reach_66 : decode cX6_reach 66 = .ok (.iload_n 3, 1) := by decide +kernel
theorem dX6_reach_67 : decode cX6_reach 67 = .ok (.ifCond .ne 24, 3) := by decide +kernel
theorem dX6_reach_70 : decode cX6_reach 70 = .ok (.aload_n 0, 1) := by decide +kernel
theorem dX6_reach_71 : decode cX6_reach 71 = .ok (.getfield 7, 3) := by decide +kernel
theorem dX6_reach_74 : decode cX6_reach 74 = .ok (.iload 4, 2) := by decide +kernel
theorem dX6_reach_76 : decode cX6_reach 76 = .ok (.baload, 1) := by decide +kernel
theorem dX6_reach_77 : decode cX6_reach 77 = .ok (.ifCond .eq 18, 3) := by decide +kernel
theorem dX6_reach_80 : decode cX6_reach 80 = .ok (.aload_n 0, 1) := by decide +kernel
theorem dX6_reach_81 : decode cX6_reach 81 = .ok (.getfield 13, 3) := by decide +kernel
theorem dX6_reach_84 : decode cX6_reach 84 = .ok (.iload 4, 2) := by decide +kernel
theorem dX6_reach_86 : decode cX6_reach 86 = .ok (.iaload, 1) := by decide +kernel
theorem dX6_reach_87 : decode cX6_reach 87 = .ok (.iconst (-1), 1) := by decide +kernel
theorem dX6_reach_88 : decode cX6_reach 88 = .ok (.if_icmp .ne 7, 3) := by decide +kernel
theorem dX6_reach_91 : decode cX6_reach 91 = .ok (.iconst 1, 1) := by decide +kernel
theorem dX6_reach_92 : decode cX6_reach 92 = .ok (.goto 4, 3) := by decide +kernel
theorem dX6_reach_95 : decode cX6_reach 95 = .ok (.iconst 0, 1) := by decide +kernel
theorem dX6_reach_96 : decode cX6_reach 96 = .ok (.istore_n 3, 1) := by decide +kernel
theorem dX6_reach_97 : decode cX6_reach 97 = .ok (.iinc 4 1, 3) := by decide +kernel
theorem dX6_reach_100 : decode cX6_reach 100 = .ok (.goto (-41), 3) := by decide +kernel
theorem dX6_reach_103 : decode cX6_reach 103 = .ok (.aload_n 0, 1) := by decide +kernel
theorem dX6_reach_104 : decode cX6_reach 104 = .ok (.getfield 72, 3) := by decide +kernel
theorem dX6_reach_107 : decode cX6_reach 107 = .ok (.ifCond .ne 26, 3) := by decide +kernel
theorem dX6_reach_110 : decode cX6_reach 110 = .ok (.aload_n 0, 1) := by decide +kernel
theorem dX6_reach_111 : decode cX6_reach 111 = .ok (.getfield 7, 3) := by decide +kernel
theorem dX6_reach_114 : decode cX6_reach 114 = .ok (.iload_n 1, 1) := by decide +kernel
theorem dX6_reach_115 : decode cX6_reach 115 = .ok (.baload, 1) := by decide +kernel
theorem dX6_reach_116 : decode cX6_reach 116 = .ok (.ifCond .ne 12, 3) := by decide +kernel
theorem dX6_reach_119 : decode cX6_reach 119 = .ok (.iload_n 2, 1) := by decide +kernel
theorem dX6_reach_120 : decode cX6_reach 120 = .ok (.iconst (-1), 1) := by decide +kernel
theorem dX6_reach_121 : decode cX6_reach 121 = .ok (.if_icmp .ne 12, 3) := by decide +kernel
theorem dX6_reach_124 : decode cX6_reach 124 = .ok (.iload_n 3, 1) := by decide +kernel
theorem dX6_reach_125 : decode cX6_reach 125 = .ok (.ifCond .eq 8, 3) := by decide +kernel
theorem dX6_reach_128 : decode cX6_reach 128 = .ok (.aload_n 0, 1) := by decide +kernel
theorem dX6_reach_129 : decode cX6_reach 129 = .ok (.iconst 3, 1) := by decide +kernel
theorem dX6_reach_130 : decode cX6_reach 130 = .ok (.putfield 72, 3) := by decide +kernel
theorem dX6_reach_133 : decode cX6_reach 133 = .ok (.aload_n 0, 1) := by decide +kernel
theorem dX6_reach_134 : decode cX6_reach 134 = .ok (.getfield 72, 3) := by decide +kernel
theorem dX6_reach_137 : decode cX6_reach 137 = .ok (.ifCond .le 4, 3) := by decide +kernel
theorem dX6_reach_140 : decode cX6_reach 140 = .ok (.return_, 1) := by decide +kernel
theorem dX6_reach_141 : decode cX6_reach 141 = .ok (.aload_n 0, 1) := by decide +kernel
theorem dX6_reach_142 : decode cX6_reach 142 = .ok (.getfield 7, 3) := by decide +kernel
theorem dX6_reach_145 : decode cX6_reach 145 = .ok (.iload_n 1, 1) := by decide +kernel
theorem dX6_reach_146 : decode cX6_reach 146 = .ok (.iconst 1, 1) := by decide +kernel
theorem dX6_reach_147 : decode cX6_reach 147 = .ok (.bastore, 1) := by decide +kernel
theorem dX6_reach_148 : decode cX6_reach 148 = .ok (.aload_n 0, 1) := by decide +kernel
theorem dX6_reach_149 : decode cX6_reach 149 = .ok (.getfield 13, 3) := by decide +kernel
theorem dX6_reach_152 : decode cX6_reach 152 = .ok (.iload_n 1, 1) := by decide +kernel
theorem dX6_reach_153 : decode cX6_reach 153 = .ok (.iload_n 2, 1) := by decide +kernel
theorem dX6_reach_154 : decode cX6_reach 154 = .ok (.iastore, 1) := by decide +kernel
theorem dX6_reach_155 : decode cX6_reach 155 = .ok (.aload_n 0, 1) := by decide +kernel
theorem dX6_reach_156 : decode cX6_reach 156 = .ok (.getfield 17, 3) := by decide +kernel
theorem dX6_reach_159 : decode cX6_reach 159 = .ok (.iload_n 1, 1) := by decide +kernel
theorem dX6_reach_160 : decode cX6_reach 160 = .ok (.iconst 0, 1) := by decide +kernel
theorem dX6_reach_161 : decode cX6_reach 161 = .ok (.iastore, 1) := by decide +kernel
theorem dX6_reach_162 : decode cX6_reach 162 = .ok (.return_, 1) := by decide +kernel
theorem dX6_isNumber_0 : decode cX6_isNumber 0 = .ok (.iload_n 0, 1) := by decide +kernel
theorem dX6_isNumber_1 : decode cX6_isNumber 1 = .ok (.ifCond .lt 12, 3) := by decide +kernel
theorem dX6_isNumber_4 : decode cX6_isNumber 4 = .ok (.iload_n 0, 1) := by decide +kernel
theorem dX6_isNumber_5 : decode cX6_isNumber 5 = .ok (.iload_n 1, 1) := by decide +kernel
theorem dX6_isNumber_6 : decode cX6_isNumber 6 = .ok (.if_icmp .ge 7, 3) := by decide +kernel
theorem dX6_isNumber_9 : decode cX6_isNumber 9 = .ok (.iconst 1, 1) := by decide +kernel
theorem dX6_isNumber_10 : decode cX6_isNumber 10 = .ok (.goto 4, 3) := by decide +kernel
theorem dX6_isNumber_13 : decode cX6_isNumber 13 = .ok (.iconst 0, 1) := by decide +kernel
theorem dX6_isNumber_14 : decode cX6_isNumber 14 = .ok (.ireturn, 1) := by decide +kernel
theorem dX6_reservoir_0 : decode cX6_reservoir 0 = .ok (.aload_n 0, 1) := by decide +kernel
theorem dX6_reservoir_1 : decode cX6_reservoir 1 = .ok (.iload_n 1, 1) := by decide +kernel
theorem dX6_reservoir_2 : decode cX6_reservoir 2 = .ok (.bipush 8, 2) := by decide +kernel
theorem dX6_reservoir_4 : decode cX6_reservoir 4 = .ok (.invokestatic 76, 3) := by decide +kernel
theorem dX6_reservoir_7 : decode cX6_reservoir 7 = .ok (.ifCond .eq 12, 3) := by decide +kernel
theorem dX6_reservoir_10 : decode cX6_reservoir 10 = .ok (.iload_n 2, 1) := by decide +kernel
theorem dX6_reservoir_11 : decode cX6_reservoir 11 = .ok (.bipush 32, 2) := by decide +kernel
theorem dX6_reservoir_13 : decode cX6_reservoir 13 = .ok (.invokestatic 76, 3) := by decide +kernel
theorem dX6_reservoir_16 : decode cX6_reservoir 16 = .ok (.ifCond .ne 7, 3) := by decide +kernel
theorem dX6_reservoir_19 : decode cX6_reservoir 19 = .ok (.iconst 1, 1) := by decide +kernel
theorem dX6_reservoir_20 : decode cX6_reservoir 20 = .ok (.goto 44, 3) := by decide +kernel
theorem dX6_reservoir_23 : decode cX6_reservoir 23 = .ok (.aload_n 0, 1) := by decide +kernel
theorem dX6_reservoir_24 : decode cX6_reservoir 24 = .ok (.getfield 7, 3) := by decide +kernel
theorem dX6_reservoir_27 : decode cX6_reservoir 27 = .ok (.iload_n 2, 1) := by decide +kernel
theorem dX6_reservoir_28 : decode cX6_reservoir 28 = .ok (.baload, 1) := by decide +kernel
theorem dX6_reservoir_29 : decode cX6_reservoir 29 = .ok (.ifCond .ne 7, 3) := by decide +kernel
theorem dX6_reservoir_32 : decode cX6_reservoir 32 = .ok (.iconst 2, 1) := by decide +kernel
theorem dX6_reservoir_33 : decode cX6_reservoir 33 = .ok (.goto 31, 3) := by decide +kernel
theorem dX6_reservoir_36 : decode cX6_reservoir 36 = .ok (.iload_n 3, 1) := by decide +kernel
theorem dX6_reservoir_37 : decode cX6_reservoir 37 = .ok (.ifCond .lt 9, 3) := by decide +kernel
theorem dX6_reservoir_40 : decode cX6_reservoir 40 = .ok (.iload_n 3, 1) := by decide +kernel
theorem dX6_reservoir_41 : decode cX6_reservoir 41 = .ok (.ldc 80, 2) := by decide +kernel
theorem dX6_reservoir_43 : decode cX6_reservoir 43 = .ok (.if_icmp .le 7, 3) := by decide +kernel
theorem dX6_reservoir_46 : decode cX6_reservoir 46 = .ok (.iconst 3, 1) := by decide +kernel
theorem dX6_reservoir_47 : decode cX6_reservoir 47 = .ok (.goto 17, 3) := by decide +kernel
theorem dX6_reservoir_50 : decode cX6_reservoir 50 = .ok (.aload_n 0, 1) := by decide +kernel
theorem dX6_reservoir_51 : decode cX6_reservoir 51 = .ok (.getfield 20, 3) := by decide +kernel
theorem dX6_reservoir_54 : decode cX6_reservoir 54 = .ok (.iload_n 1, 1) := by decide +kernel
theorem dX6_reservoir_55 : decode cX6_reservoir 55 = .ok (.baload, 1) := by decide +kernel
theorem dX6_reservoir_56 : decode cX6_reservoir 56 = .ok (.ifCond .eq 7, 3) := by decide +kernel
theorem dX6_reservoir_59 : decode cX6_reservoir 59 = .ok (.iconst 4, 1) := by decide +kernel
theorem dX6_reservoir_60 : decode cX6_reservoir 60 = .ok (.goto 4, 3) := by decide +kernel
theorem dX6_reservoir_63 : decode cX6_reservoir 63 = .ok (.iconst 0, 1) := by decide +kernel
theorem dX6_reservoir_64 : decode cX6_reservoir 64 = .ok (.putfield 72, 3) := by decide +kernel
theorem dX6_reservoir_67 : decode cX6_reservoir 67 = .ok (.aload_n 0, 1) := by decide +kernel
theorem dX6_reservoir_68 : decode cX6_reservoir 68 = .ok (.getfield 72, 3) := by decide +kernel
theorem dX6_reservoir_71 : decode cX6_reservoir 71 = .ok (.ifCond .le 4, 3) := by decide +kernel
theorem dX6_reservoir_74 : decode cX6_reservoir 74 = .ok (.return_, 1) := by decide +kernel
theorem dX6_reservoir_75 : decode cX6_reservoir 75 = .ok (.aload_n 0, 1) := by decide +kernel
theorem dX6_reservoir_76 : decode cX6_reservoir 76 = .ok (.getfield 20, 3) := by decide +kernel
theorem dX6_reservoir_79 : decode cX6_reservoir 79 = .ok (.iload_n 1, 1) := by decide +kernel
theorem dX6_reservoir_80 : decode cX6_reservoir 80 = .ok (.iconst 1, 1) := by decide +kernel
theorem dX6_reservoir_81 : decode cX6_reservoir 81 = .ok (.bastore, 1) := by decide +kernel
theorem dX6_reservoir_82 : decode cX6_reservoir 82 = .ok (.aload_n 0, 1) := by decide +kernel
theorem dX6_reservoir_83 : decode cX6_reservoir 83 = .ok (.getfield 23, 3) := by decide +kernel
theorem dX6_reservoir_86 : decode cX6_reservoir 86 = .ok (.iload_n 1, 1) := by decide +kernel
theorem dX6_reservoir_87 : decode cX6_reservoir 87 = .ok (.iload_n 2, 1) := by decide +kernel
theorem dX6_reservoir_88 : decode cX6_reservoir 88 = .ok (.iastore, 1) := by decide +kernel
theorem dX6_reservoir_89 : decode cX6_reservoir 89 = .ok (.aload_n 0, 1) := by decide +kernel
theorem dX6_reservoir_90 : decode cX6_reservoir 90 = .ok (.getfield 26, 3) := by decide +kernel
theorem dX6_reservoir_93 : decode cX6_reservoir 93 = .ok (.iload_n 1, 1) := by decide +kernel
theorem dX6_reservoir_94 : decode cX6_reservoir 94 = .ok (.iload_n 3, 1) := by decide +kernel
theorem dX6_reservoir_95 : decode cX6_reservoir 95 = .ok (.iastore, 1) := by decide +kernel
theorem dX6_reservoir_96 : decode cX6_reservoir 96 = .ok (.aload_n 0, 1) := by decide +kernel
theorem dX6_reservoir_97 : decode cX6_reservoir 97 = .ok (.getfield 29, 3) := by decide +kernel
theorem dX6_reservoir_100 : decode cX6_reservoir 100 = .ok (.iload_n 1, 1) := by decide +kernel
theorem dX6_reservoir_101 : decode cX6_reservoir 101 = .ok (.iconst 0, 1) := by decide +kernel
theorem dX6_reservoir_102 : decode cX6_reservoir 102 = .ok (.iastore, 1) := by decide +kernel
theorem dX6_reservoir_103 : decode cX6_reservoir 103 = .ok (.return_, 1) := by decide +kernel
theorem dX6_right_0 : decode cX6_right 0 = .ok (.aload_n 0, 1) := by decide +kernel
theorem dX6_right_1 : decode cX6_right 1 = .ok (.iload_n 1, 1) := by decide +kernel
theorem dX6_right_2 : decode cX6_right 2 = .ok (.bipush 40, 2) := by decide +kernel
theorem dX6_right_4 : decode cX6_right 4 = .ok (.invokestatic 76, 3) := by decide +kernel
theorem dX6_right_7 : decode cX6_right 7 = .ok (.ifCond .eq 22, 3) := by decide +kernel
theorem dX6_right_10 : decode cX6_right 10 = .ok (.iload_n 2, 1) := by decide +kernel
theorem dX6_right_11 : decode cX6_right 11 = .ok (.bipush 32, 2) := by decide +kernel
theorem dX6_right_13 : decode cX6_right 13 = .ok (.invokestatic 76, 3) := by decide +kernel
theorem dX6_right_16 : decode cX6_right 16 = .ok (.ifCond .eq 13, 3) := by decide +kernel
theorem dX6_right_19 : decode cX6_right 19 = .ok (.iload 6, 2) := by decide +kernel
theorem dX6_right_21 : decode cX6_right 21 = .ok (.bipush 32, 2) := by decide +kernel
theorem dX6_right_23 : decode cX6_right 23 = .ok (.invokestatic 76, 3) := by decide +kernel
theorem dX6_right_26 : decode cX6_right 26 = .ok (.ifCond .ne 7, 3) := by decide +kernel
theorem dX6_right_29 : decode cX6_right 29 = .ok (.iconst 1, 1) := by decide +kernel
theorem dX6_right_30 : decode cX6_right 30 = .ok (.goto 27, 3) := by decide +kernel
theorem dX6_right_33 : decode cX6_right 33 = .ok (.aload_n 0, 1) := by decide +kernel
theorem dX6_right_34 : decode cX6_right 34 = .ok (.getfield 7, 3) := by decide +kernel
theorem dX6_right_37 : decode cX6_right 37 = .ok (.iload_n 2, 1) := by decide +kernel
theorem dX6_right_38 : decode cX6_right 38 = .ok (.baload, 1) := by decide +kernel
theorem dX6_right_39 : decode cX6_right 39 = .ok (.ifCond .eq 13, 3) := by decide +kernel
theorem dX6_right_42 : decode cX6_right 42 = .ok (.aload_n 0, 1) := by decide +kernel
theorem dX6_right_43 : decode cX6_right 43 = .ok (.getfield 7, 3) := by decide +kernel
theorem dX6_right_46 : decode cX6_right 46 = .ok (.iload 6, 2) := by decide +kernel
theorem dX6_right_48 : decode cX6_right 48 = .ok (.baload, 1) := by decide +kernel
theorem dX6_right_49 : decode cX6_right 49 = .ok (.ifCond .ne 7, 3) := by decide +kernel
theorem dX6_right_52 : decode cX6_right 52 = .ok (.iconst 2, 1) := by decide +kernel
theorem dX6_right_53 : decode cX6_right 53 = .ok (.goto 4, 3) := by decide +kernel
theorem dX6_right_56 : decode cX6_right 56 = .ok (.iconst 0, 1) := by decide +kernel
theorem dX6_right_57 : decode cX6_right 57 = .ok (.putfield 72, 3) := by decide +kernel
theorem dX6_right_60 : decode cX6_right 60 = .ok (.iload_n 3, 1) := by decide +kernel
theorem dX6_right_61 : decode cX6_right 61 = .ok (.iconst 1, 1) := by decide +kernel
theorem dX6_right_62 : decode cX6_right 62 = .ok (.if_icmp .lt 38, 3) := by decide +kernel
theorem dX6_right_65 : decode cX6_right 65 = .ok (.iload_n 3, 1) := by decide +kernel
theorem dX6_right_66 : decode cX6_right 66 = .ok (.ldc 81, 2) := by decide +kernel
theorem dX6_right_68 : decode cX6_right 68 = .ok (.if_icmp .gt 32, 3) := by decide +kernel
theorem dX6_right_71 : decode cX6_right 71 = .ok (.iload 4, 2) := by decide +kernel
theorem dX6_right_73 : decode cX6_right 73 = .ok (.ifCond .lt 27, 3) := by decide +kernel
theorem dX6_right_76 : decode cX6_right 76 = .ok (.iload 4, 2) := by decide +kernel
theorem dX6_right_78 : decode cX6_right 78 = .ok (.ldc 80, 2) := by decide +kernel
theorem dX6_right_80 : decode cX6_right 80 = .ok (.if_icmp .gt 20, 3) := by decide +kernel
theorem dX6_right_83 : decode cX6_right 83 = .ok (.iload 5, 2) := by decide +kernel
theorem dX6_right_85 : decode cX6_right 85 = .ok (.ifCond .lt 15, 3) := by decide +kernel
theorem dX6_right_88 : decode cX6_right 88 = .ok (.iload 5, 2) := by decide +kernel
theorem dX6_right_90 : decode cX6_right 90 = .ok (.sipush 1000, 3) := by decide +kernel
theorem dX6_right_93 : decode cX6_right 93 = .ok (.if_icmp .gt 7, 3) := by decide +kernel
theorem dX6_right_96 : decode cX6_right 96 = .ok (.iconst 1, 1) := by decide +kernel
theorem dX6_right_97 : decode cX6_right 97 = .ok (.goto 4, 3) := by decide +kernel
theorem dX6_right_100 : decode cX6_right 100 = .ok (.iconst 0, 1) := by decide +kernel
theorem dX6_right_101 : decode cX6_right 101 = .ok (.istore 7, 2) := by decide +kernel
theorem dX6_right_103 : decode cX6_right 103 = .ok (.aload_n 0, 1) := by decide +kernel
theorem dX6_right_104 : decode cX6_right 104 = .ok (.getfield 72, 3) := by decide +kernel
theorem dX6_right_107 : decode cX6_right 107 = .ok (.ifCond .ne 40, 3) := by decide +kernel
theorem dX6_right_110 : decode cX6_right 110 = .ok (.aload_n 0, 1) := by decide +kernel
theorem dX6_right_111 : decode cX6_right 111 = .ok (.iload 7, 2) := by decide +kernel
theorem dX6_right_113 : decode cX6_right 113 = .ok (.ifCond .eq 13, 3) := by decide +kernel
theorem dX6_right_116 : decode cX6_right 116 = .ok (.aload_n 0, 1) := by decide +kernel
theorem dX6_right_117 : decode cX6_right 117 = .ok (.iload_n 2, 1) := by decide +kernel
theorem dX6_right_118 : decode cX6_right 118 = .ok (.iload 6, 2) := by decide +kernel
theorem dX6_right_120 : decode cX6_right 120 = .ok (.invokevirtual 82, 3) := by decide +kernel
theorem dX6_right_123 : decode cX6_right 123 = .ok (.ifCond .ne 7, 3) := by decide +kernel
theorem dX6_right_126 : decode cX6_right 126 = .ok (.iconst 3, 1) := by decide +kernel
theorem dX6_right_127 : decode cX6_right 127 = .ok (.goto 17, 3) := by decide +kernel
theorem dX6_right_130 : decode cX6_right 130 = .ok (.aload_n 0, 1) := by decide +kernel
theorem dX6_right_131 : decode cX6_right 131 = .ok (.iload_n 1, 1) := by decide +kernel
theorem dX6_right_132 : decode cX6_right 132 = .ok (.iload_n 3, 1) := by decide +kernel
theorem dX6_right_133 : decode cX6_right 133 = .ok (.invokevirtual 85, 3) := by decide +kernel
theorem dX6_right_136 : decode cX6_right 136 = .ok (.ifCond .eq 7, 3) := by decide +kernel
theorem dX6_right_139 : decode cX6_right 139 = .ok (.iconst 4, 1) := by decide +kernel
theorem dX6_right_140 : decode cX6_right 140 = .ok (.goto 4, 3) := by decide +kernel
theorem dX6_right_143 : decode cX6_right 143 = .ok (.iconst 0, 1) := by decide +kernel
theorem dX6_right_144 : decode cX6_right 144 = .ok (.putfield 72, 3) := by decide +kernel
theorem dX6_right_147 : decode cX6_right 147 = .ok (.aload_n 0, 1) := by decide +kernel
theorem dX6_right_148 : decode cX6_right 148 = .ok (.getfield 72, 3) := by decide +kernel
theorem dX6_right_151 : decode cX6_right 151 = .ok (.ifCond .le 4, 3) := by decide +kernel
theorem dX6_right_154 : decode cX6_right 154 = .ok (.return_, 1) := by decide +kernel
theorem dX6_right_155 : decode cX6_right 155 = .ok (.aload_n 0, 1) := by decide +kernel
theorem dX6_right_156 : decode cX6_right 156 = .ok (.iload_n 1, 1) := by decide +kernel
theorem dX6_right_157 : decode cX6_right 157 = .ok (.iload_n 2, 1) := by decide +kernel
theorem dX6_right_158 : decode cX6_right 158 = .ok (.iload_n 3, 1) := by decide +kernel
theorem dX6_right_159 : decode cX6_right 159 = .ok (.iload 4, 2) := by decide +kernel
theorem dX6_right_161 : decode cX6_right 161 = .ok (.invokevirtual 88, 3) := by decide +kernel
theorem dX6_right_164 : decode cX6_right 164 = .ok (.aload_n 0, 1) := by decide +kernel
theorem dX6_right_165 : decode cX6_right 165 = .ok (.getfield 48, 3) := by decide +kernel
theorem dX6_right_168 : decode cX6_right 168 = .ok (.iload_n 1, 1) := by decide +kernel
theorem dX6_right_169 : decode cX6_right 169 = .ok (.iload 5, 2) := by decide +kernel
theorem dX6_right_171 : decode cX6_right 171 = .ok (.iastore, 1) := by decide +kernel
theorem dX6_right_172 : decode cX6_right 172 = .ok (.aload_n 0, 1) := by decide +kernel
theorem dX6_right_173 : decode cX6_right 173 = .ok (.getfield 51, 3) := by decide +kernel
theorem dX6_right_176 : decode cX6_right 176 = .ok (.iload_n 1, 1) := by decide +kernel
theorem dX6_right_177 : decode cX6_right 177 = .ok (.iload 6, 2) := by decide +kernel
theorem dX6_right_179 : decode cX6_right 179 = .ok (.iastore, 1) := by decide +kernel
theorem dX6_right_180 : decode cX6_right 180 = .ok (.aload_n 0, 1) := by decide +kernel
theorem dX6_right_181 : decode cX6_right 181 = .ok (.getfield 54, 3) := by decide +kernel
theorem dX6_right_184 : decode cX6_right 184 = .ok (.iload_n 1, 1) := by decide +kernel
theorem dX6_right_185 : decode cX6_right 185 = .ok (.iconst (-1), 1) := by decide +kernel
theorem dX6_right_186 : decode cX6_right 186 = .ok (.iastore, 1) := by decide +kernel
theorem dX6_right_187 : decode cX6_right 187 = .ok (.return_, 1) := by decide +kernel
theorem dX6_isOn_0 : decode cX6_isOn 0 = .ok (.iload_n 1, 1) := by decide +kernel
theorem dX6_isOn_1 : decode cX6_isOn 1 = .ok (.istore_n 3, 1) := by decide +kernel
theorem dX6_isOn_2 : decode cX6_isOn 2 = .ok (.iload_n 3, 1) := by decide +kernel
theorem dX6_isOn_3 : decode cX6_isOn 3 = .ok (.ifCond .lt 18, 3) := by decide +kernel
theorem dX6_isOn_6 : decode cX6_isOn 6 = .ok (.iload_n 3, 1) := by decide +kernel
theorem dX6_isOn_7 : decode cX6_isOn 7 = .ok (.iload_n 2, 1) := by decide +kernel
theorem dX6_isOn_8 : decode cX6_isOn 8 = .ok (.if_icmp .eq 13, 3) := by decide +kernel
theorem dX6_isOn_11 : decode cX6_isOn 11 = .ok (.aload_n 0, 1) := by decide +kernel
theorem dX6_isOn_12 : decode cX6_isOn 12 = .ok (.getfield 13, 3) := by decide +kernel
theorem dX6_isOn_15 : decode cX6_isOn 15 = .ok (.iload_n 3, 1) := by decide +kernel
theorem dX6_isOn_16 : decode cX6_isOn 16 = .ok (.iaload, 1) := by decide +kernel
theorem dX6_isOn_17 : decode cX6_isOn 17 = .ok (.istore_n 3, 1) := by decide +kernel
theorem dX6_isOn_18 : decode cX6_isOn 18 = .ok (.goto (-16), 3) := by decide +kernel
theorem dX6_isOn_21 : decode cX6_isOn 21 = .ok (.iload_n 3, 1) := by decide +kernel
theorem dX6_isOn_22 : decode cX6_isOn 22 = .ok (.iload_n 2, 1) := by decide +kernel
theorem dX6_isOn_23 : decode cX6_isOn 23 = .ok (.if_icmp .ne 7, 3) := by decide +kernel
theorem dX6_isOn_26 : decode cX6_isOn 26 = .ok (.iconst 1, 1) := by decide +kernel
theorem dX6_isOn_27 : decode cX6_isOn 27 = .ok (.goto 4, 3) := by decide +kernel
theorem dX6_isOn_30 : decode cX6_isOn 30 = .ok (.iconst 0, 1) := by decide +kernel
theorem dX6_isOn_31 : decode cX6_isOn 31 = .ok (.ireturn, 1) := by decide +kernel
theorem dX6_isTaken_0 : decode cX6_isTaken 0 = .ok (.aload_n 0, 1) := by decide +kernel
theorem dX6_isTaken_1 : decode cX6_isTaken 1 = .ok (.getfield 36, 3) := by decide +kernel
theorem dX6_isTaken_4 : decode cX6_isTaken 4 = .ok (.iload_n 1, 1) := by decide +kernel
theorem dX6_isTaken_5 : decode cX6_isTaken 5 = .ok (.baload, 1) := by decide +kernel
theorem dX6_isTaken_6 : decode cX6_isTaken 6 = .ok (.istore_n 3, 1) := by decide +kernel
theorem dX6_isTaken_7 : decode cX6_isTaken 7 = .ok (.iconst 0, 1) := by decide +kernel
theorem dX6_isTaken_8 : decode cX6_isTaken 8 = .ok (.istore 4, 2) := by decide +kernel
theorem dX6_isTaken_10 : decode cX6_isTaken 10 = .ok (.iload 4, 2) := by decide +kernel
theorem dX6_isTaken_12 : decode cX6_isTaken 12 = .ok (.bipush 40, 2) := by decide +kernel
theorem dX6_isTaken_14 : decode cX6_isTaken 14 = .ok (.if_icmp .ge 40, 3) := by decide +kernel
theorem dX6_isTaken_17 : decode cX6_isTaken 17 = .ok (.iload_n 3, 1) := by decide +kernel
theorem dX6_isTaken_18 : decode cX6_isTaken 18 = .ok (.ifCond .ne 24, 3) := by decide +kernel
theorem dX6_isTaken_21 : decode cX6_isTaken 21 = .ok (.aload_n 0, 1) := by decide +kernel
theorem dX6_isTaken_22 : decode cX6_isTaken 22 = .ok (.getfield 36, 3) := by decide +kernel
theorem dX6_isTaken_25 : decode cX6_isTaken 25 = .ok (.iload 4, 2) := by decide +kernel
theorem dX6_isTaken_27 : decode cX6_isTaken 27 = .ok (.baload, 1) := by decide +kernel
theorem dX6_isTaken_28 : decode cX6_isTaken 28 = .ok (.ifCond .eq 18, 3) := by decide +kernel
theorem dX6_isTaken_31 : decode cX6_isTaken 31 = .ok (.aload_n 0, 1) := by decide +kernel
theorem dX6_isTaken_32 : decode cX6_isTaken 32 = .ok (.getfield 42, 3) := by decide +kernel
theorem dX6_isTaken_35 : decode cX6_isTaken 35 = .ok (.iload 4, 2) := by decide +kernel
theorem dX6_isTaken_37 : decode cX6_isTaken 37 = .ok (.iaload, 1) := by decide +kernel
theorem dX6_isTaken_38 : decode cX6_isTaken 38 = .ok (.iload_n 2, 1) := by decide +kernel
theorem dX6_isTaken_39 : decode cX6_isTaken 39 = .ok (.if_icmp .ne 7, 3) := by decide +kernel
theorem dX6_isTaken_42 : decode cX6_isTaken 42 = .ok (.iconst 1, 1) := by decide +kernel
theorem dX6_isTaken_43 : decode cX6_isTaken 43 = .ok (.goto 4, 3) := by decide +kernel
theorem dX6_isTaken_46 : decode cX6_isTaken 46 = .ok (.iconst 0, 1) := by decide +kernel
theorem dX6_isTaken_47 : decode cX6_isTaken 47 = .ok (.istore_n 3, 1) := by decide +kernel
theorem dX6_isTaken_48 : decode cX6_isTaken 48 = .ok (.iinc 4 1, 3) := by decide +kernel
theorem dX6_isTaken_51 : decode cX6_isTaken 51 = .ok (.goto (-41), 3) := by decide +kernel
theorem dX6_isTaken_54 : decode cX6_isTaken 54 = .ok (.iload_n 3, 1) := by decide +kernel
theorem dX6_isTaken_55 : decode cX6_isTaken 55 = .ok (.ireturn, 1) := by decide +kernel
theorem dX6_lay_0 : decode cX6_lay 0 = .ok (.aload_n 0, 1) := by decide +kernel
theorem dX6_lay_1 : decode cX6_lay 1 = .ok (.getfield 36, 3) := by decide +kernel
theorem dX6_lay_4 : decode cX6_lay 4 = .ok (.iload_n 1, 1) := by decide +kernel
theorem dX6_lay_5 : decode cX6_lay 5 = .ok (.iconst 1, 1) := by decide +kernel
theorem dX6_lay_6 : decode cX6_lay 6 = .ok (.bastore, 1) := by decide +kernel
theorem dX6_lay_7 : decode cX6_lay 7 = .ok (.aload_n 0, 1) := by decide +kernel
theorem dX6_lay_8 : decode cX6_lay 8 = .ok (.getfield 39, 3) := by decide +kernel
theorem dX6_lay_11 : decode cX6_lay 11 = .ok (.iload_n 1, 1) := by decide +kernel
theorem dX6_lay_12 : decode cX6_lay 12 = .ok (.iload_n 2, 1) := by decide +kernel
theorem dX6_lay_13 : decode cX6_lay 13 = .ok (.iastore, 1) := by decide +kernel
theorem dX6_lay_14 : decode cX6_lay 14 = .ok (.aload_n 0, 1) := by decide +kernel
theorem dX6_lay_15 : decode cX6_lay 15 = .ok (.getfield 42, 3) := by decide +kernel
theorem dX6_lay_18 : decode cX6_lay 18 = .ok (.iload_n 1, 1) := by decide +kernel
theorem dX6_lay_19 : decode cX6_lay 19 = .ok (.iload_n 3, 1) := by decide +kernel
theorem dX6_lay_20 : decode cX6_lay 20 = .ok (.iastore, 1) := by decide +kernel
theorem dX6_lay_21 : decode cX6_lay 21 = .ok (.aload_n 0, 1) := by decide +kernel
theorem dX6_lay_22 : decode cX6_lay 22 = .ok (.getfield 45, 3) := by decide +kernel
theorem dX6_lay_25 : decode cX6_lay 25 = .ok (.iload_n 1, 1) := by decide +kernel
theorem dX6_lay_26 : decode cX6_lay 26 = .ok (.iload 4, 2) := by decide +kernel
theorem dX6_lay_28 : decode cX6_lay 28 = .ok (.iastore, 1) := by decide +kernel
theorem dX6_lay_29 : decode cX6_lay 29 = .ok (.aload_n 0, 1) := by decide +kernel
theorem dX6_lay_30 : decode cX6_lay 30 = .ok (.getfield 57, 3) := by decide +kernel
theorem dX6_lay_33 : decode cX6_lay 33 = .ok (.iload_n 1, 1) := by decide +kernel
theorem dX6_lay_34 : decode cX6_lay 34 = .ok (.iload 4, 2) := by decide +kernel
theorem dX6_lay_36 : decode cX6_lay 36 = .ok (.iastore, 1) := by decide +kernel
theorem dX6_lay_37 : decode cX6_lay 37 = .ok (.return_, 1) := by decide +kernel
theorem dX6_storage_0 : decode cX6_storage 0 = .ok (.aload_n 0, 1) := by decide +kernel
theorem dX6_storage_1 : decode cX6_storage 1 = .ok (.iload_n 1, 1) := by decide +kernel
theorem dX6_storage_2 : decode cX6_storage 2 = .ok (.bipush 40, 2) := by decide +kernel
theorem dX6_storage_4 : decode cX6_storage 4 = .ok (.invokestatic 76, 3) := by decide +kernel
theorem dX6_storage_7 : decode cX6_storage 7 = .ok (.ifCond .eq 22, 3) := by decide +kernel
theorem dX6_storage_10 : decode cX6_storage 10 = .ok (.iload_n 2, 1) := by decide +kernel
theorem dX6_storage_11 : decode cX6_storage 11 = .ok (.bipush 32, 2) := by decide +kernel
theorem dX6_storage_13 : decode cX6_storage 13 = .ok (.invokestatic 76, 3) := by decide +kernel
theorem dX6_storage_16 : decode cX6_storage 16 = .ok (.ifCond .eq 13, 3) := by decide +kernel
theorem dX6_storage_19 : decode cX6_storage 19 = .ok (.iload 5, 2) := by decide +kernel
theorem dX6_storage_21 : decode cX6_storage 21 = .ok (.bipush 8, 2) := by decide +kernel
theorem dX6_storage_23 : decode cX6_storage 23 = .ok (.invokestatic 76, 3) := by decide +kernel
theorem dX6_storage_26 : decode cX6_storage 26 = .ok (.ifCond .ne 7, 3) := by decide +kernel
theorem dX6_storage_29 : decode cX6_storage 29 = .ok (.iconst 1, 1) := by decide +kernel
theorem dX6_storage_30 : decode cX6_storage 30 = .ok (.goto 27, 3) := by decide +kernel
theorem dX6_storage_33 : decode cX6_storage 33 = .ok (.aload_n 0, 1) := by decide +kernel
theorem dX6_storage_34 : decode cX6_storage 34 = .ok (.getfield 7, 3) := by decide +kernel
theorem dX6_storage_37 : decode cX6_storage 37 = .ok (.iload_n 2, 1) := by decide +kernel
theorem dX6_storage_38 : decode cX6_storage 38 = .ok (.baload, 1) := by decide +kernel
theorem dX6_storage_39 : decode cX6_storage 39 = .ok (.ifCond .eq 13, 3) := by decide +kernel
theorem dX6_storage_42 : decode cX6_storage 42 = .ok (.aload_n 0, 1) := by decide +kernel
theorem dX6_storage_43 : decode cX6_storage 43 = .ok (.getfield 20, 3) := by decide +kernel
theorem dX6_storage_46 : decode cX6_storage 46 = .ok (.iload 5, 2) := by decide +kernel
theorem dX6_storage_48 : decode cX6_storage 48 = .ok (.baload, 1) := by decide +kernel
theorem dX6_storage_49 : decode cX6_storage 49 = .ok (.ifCond .ne 7, 3) := by decide +kernel
theorem dX6_storage_52 : decode cX6_storage 52 = .ok (.iconst 2, 1) := by decide +kernel
theorem dX6_storage_53 : decode cX6_storage 53 = .ok (.goto 4, 3) := by decide +kernel
theorem dX6_storage_56 : decode cX6_storage 56 = .ok (.iconst 0, 1) := by decide +kernel
theorem dX6_storage_57 : decode cX6_storage 57 = .ok (.putfield 72, 3) := by decide +kernel
theorem dX6_storage_60 : decode cX6_storage 60 = .ok (.iload_n 3, 1) := by decide +kernel
theorem dX6_storage_61 : decode cX6_storage 61 = .ok (.iconst 1, 1) := by decide +kernel
theorem dX6_storage_62 : decode cX6_storage 62 = .ok (.if_icmp .lt 25, 3) := by decide +kernel
theorem dX6_storage_65 : decode cX6_storage 65 = .ok (.iload_n 3, 1) := by decide +kernel
theorem dX6_storage_66 : decode cX6_storage 66 = .ok (.ldc 81, 2) := by decide +kernel
theorem dX6_storage_68 : decode cX6_storage 68 = .ok (.if_icmp .gt 19, 3) := by decide +kernel
theorem dX6_storage_71 : decode cX6_storage 71 = .ok (.iload 4, 2) := by decide +kernel
theorem dX6_storage_73 : decode cX6_storage 73 = .ok (.ifCond .lt 14, 3) := by decide +kernel
theorem dX6_storage_76 : decode cX6_storage 76 = .ok (.iload 4, 2) := by decide +kernel
theorem dX6_storage_78 : decode cX6_storage 78 = .ok (.ldc 80, 2) := by decide +kernel
theorem dX6_storage_80 : decode cX6_storage 80 = .ok (.if_icmp .gt 7, 3) := by decide +kernel
theorem dX6_storage_83 : decode cX6_storage 83 = .ok (.iconst 1, 1) := by decide +kernel
theorem dX6_storage_84 : decode cX6_storage 84 = .ok (.goto 4, 3) := by decide +kernel
theorem dX6_storage_87 : decode cX6_storage 87 = .ok (.iconst 0, 1) := by decide +kernel
theorem dX6_storage_88 : decode cX6_storage 88 = .ok (.istore 6, 2) := by decide +kernel
theorem dX6_storage_90 : decode cX6_storage 90 = .ok (.aload_n 0, 1) := by decide +kernel
theorem dX6_storage_91 : decode cX6_storage 91 = .ok (.getfield 72, 3) := by decide +kernel
theorem dX6_storage_94 : decode cX6_storage 94 = .ok (.ifCond .ne 30, 3) := by decide +kernel
theorem dX6_storage_97 : decode cX6_storage 97 = .ok (.aload_n 0, 1) := by decide +kernel
theorem dX6_storage_98 : decode cX6_storage 98 = .ok (.iload 6, 2) := by decide +kernel
theorem dX6_storage_100 : decode cX6_storage 100 = .ok (.ifCond .ne 7, 3) := by decide +kernel
theorem dX6_storage_103 : decode cX6_storage 103 = .ok (.iconst 3, 1) := by decide +kernel
theorem dX6_storage_104 : decode cX6_storage 104 = .ok (.goto 17, 3) := by decide +kernel
theorem dX6_storage_107 : decode cX6_storage 107 = .ok (.aload_n 0, 1) := by decide +kernel
theorem dX6_storage_108 : decode cX6_storage 108 = .ok (.iload_n 1, 1) := by decide +kernel
theorem dX6_storage_109 : decode cX6_storage 109 = .ok (.iload_n 3, 1) := by decide +kernel
theorem dX6_storage_110 : decode cX6_storage 110 = .ok (.invokevirtual 85, 3) := by decide +kernel
theorem dX6_storage_113 : decode cX6_storage 113 = .ok (.ifCond .eq 7, 3) := by decide +kernel
theorem dX6_storage_116 : decode cX6_storage 116 = .ok (.iconst 4, 1) := by decide +kernel
theorem dX6_storage_117 : decode cX6_storage 117 = .ok (.goto 4, 3) := by decide +kernel
theorem dX6_storage_120 : decode cX6_storage 120 = .ok (.iconst 0, 1) := by decide +kernel
theorem dX6_storage_121 : decode cX6_storage 121 = .ok (.putfield 72, 3) := by decide +kernel
theorem dX6_storage_124 : decode cX6_storage 124 = .ok (.aload_n 0, 1) := by decide +kernel
theorem dX6_storage_125 : decode cX6_storage 125 = .ok (.getfield 72, 3) := by decide +kernel
theorem dX6_storage_128 : decode cX6_storage 128 = .ok (.ifCond .le 4, 3) := by decide +kernel
theorem dX6_storage_131 : decode cX6_storage 131 = .ok (.return_, 1) := by decide +kernel
theorem dX6_storage_132 : decode cX6_storage 132 = .ok (.aload_n 0, 1) := by decide +kernel
theorem dX6_storage_133 : decode cX6_storage 133 = .ok (.iload_n 1, 1) := by decide +kernel
theorem dX6_storage_134 : decode cX6_storage 134 = .ok (.iload_n 2, 1) := by decide +kernel
theorem dX6_storage_135 : decode cX6_storage 135 = .ok (.iload_n 3, 1) := by decide +kernel
theorem dX6_storage_136 : decode cX6_storage 136 = .ok (.iload 4, 2) := by decide +kernel
theorem dX6_storage_138 : decode cX6_storage 138 = .ok (.invokevirtual 88, 3) := by decide +kernel
theorem dX6_storage_141 : decode cX6_storage 141 = .ok (.aload_n 0, 1) := by decide +kernel
theorem dX6_storage_142 : decode cX6_storage 142 = .ok (.getfield 48, 3) := by decide +kernel
theorem dX6_storage_145 : decode cX6_storage 145 = .ok (.iload_n 1, 1) := by decide +kernel
theorem dX6_storage_146 : decode cX6_storage 146 = .ok (.iconst 0, 1) := by decide +kernel
theorem dX6_storage_147 : decode cX6_storage 147 = .ok (.iastore, 1) := by decide +kernel
theorem dX6_storage_148 : decode cX6_storage 148 = .ok (.aload_n 0, 1) := by decide +kernel
theorem dX6_storage_149 : decode cX6_storage 149 = .ok (.getfield 51, 3) := by decide +kernel
theorem dX6_storage_152 : decode cX6_storage 152 = .ok (.iload_n 1, 1) := by decide +kernel
theorem dX6_storage_153 : decode cX6_storage 153 = .ok (.iload_n 2, 1) := by decide +kernel
theorem dX6_storage_154 : decode cX6_storage 154 = .ok (.iastore, 1) := by decide +kernel
theorem dX6_storage_155 : decode cX6_storage 155 = .ok (.aload_n 0, 1) := by decide +kernel
theorem dX6_storage_156 : decode cX6_storage 156 = .ok (.getfield 54, 3) := by decide +kernel
theorem dX6_storage_159 : decode cX6_storage 159 = .ok (.iload_n 1, 1) := by decide +kernel
theorem dX6_storage_160 : decode cX6_storage 160 = .ok (.iload 5, 2) := by decide +kernel
theorem dX6_storage_162 : decode cX6_storage 162 = .ok (.iastore, 1) := by decide +kernel
theorem dX6_storage_163 : decode cX6_storage 163 = .ok (.return_, 1) := by decide +kernel
theorem dX6_drop_0 : decode cX6_drop 0 = .ok (.aload_n 0, 1) := by decide +kernel
theorem dX6_drop_1 : decode cX6_drop 1 = .ok (.aload_n 0, 1) := by decide +kernel
theorem dX6_drop_2 : decode cX6_drop 2 = .ok (.iload_n 1, 1) := by decide +kernel
theorem dX6_drop_3 : decode cX6_drop 3 = .ok (.invokevirtual 92, 3) := by decide +kernel
theorem dX6_drop_6 : decode cX6_drop 6 = .ok (.putfield 72, 3) := by decide +kernel
theorem dX6_drop_9 : decode cX6_drop 9 = .ok (.aload_n 0, 1) := by decide +kernel
theorem dX6_drop_10 : decode cX6_drop 10 = .ok (.getfield 72, 3) := by decide +kernel
theorem dX6_drop_13 : decode cX6_drop 13 = .ok (.ifCond .ne 10, 3) := by decide +kernel
theorem dX6_drop_16 : decode cX6_drop 16 = .ok (.aload_n 0, 1) := by decide +kernel
theorem dX6_drop_17 : decode cX6_drop 17 = .ok (.getfield 36, 3) := by decide +kernel
theorem dX6_drop_20 : decode cX6_drop 20 = .ok (.iload_n 1, 1) := by decide +kernel
theorem dX6_drop_21 : decode cX6_drop 21 = .ok (.iconst 0, 1) := by decide +kernel
theorem dX6_drop_22 : decode cX6_drop 22 = .ok (.bastore, 1) := by decide +kernel
theorem dX6_drop_23 : decode cX6_drop 23 = .ok (.return_, 1) := by decide +kernel
theorem dX6_wrongRight_0 : decode cX6_wrongRight 0 = .ok (.iload_n 1, 1) := by decide +kernel
theorem dX6_wrongRight_1 : decode cX6_wrongRight 1 = .ok (.bipush 40, 2) := by decide +kernel
theorem dX6_wrongRight_3 : decode cX6_wrongRight 3 = .ok (.invokestatic 76, 3) := by decide +kernel
theorem dX6_wrongRight_6 : decode cX6_wrongRight 6 = .ok (.ifCond .ne 7, 3) := by decide +kernel
theorem dX6_wrongRight_9 : decode cX6_wrongRight 9 = .ok (.iconst 1, 1) := by decide +kernel
theorem dX6_wrongRight_10 : decode cX6_wrongRight 10 = .ok (.goto 17, 3) := by decide +kernel
theorem dX6_wrongRight_13 : decode cX6_wrongRight 13 = .ok (.aload_n 0, 1) := by decide +kernel
theorem dX6_wrongRight_14 : decode cX6_wrongRight 14 = .ok (.getfield 36, 3) := by decide +kernel
theorem dX6_wrongRight_17 : decode cX6_wrongRight 17 = .ok (.iload_n 1, 1) := by decide +kernel
theorem dX6_wrongRight_18 : decode cX6_wrongRight 18 = .ok (.baload, 1) := by decide +kernel
theorem dX6_wrongRight_19 : decode cX6_wrongRight 19 = .ok (.ifCond .eq 7, 3) := by decide +kernel
theorem dX6_wrongRight_22 : decode cX6_wrongRight 22 = .ok (.iconst 0, 1) := by decide +kernel
theorem dX6_wrongRight_23 : decode cX6_wrongRight 23 = .ok (.goto 4, 3) := by decide +kernel
theorem dX6_wrongRight_26 : decode cX6_wrongRight 26 = .ok (.iconst 2, 1) := by decide +kernel
theorem dX6_wrongRight_27 : decode cX6_wrongRight 27 = .ok (.ireturn, 1) := by decide +kernel
theorem dX6_want_0 : decode cX6_want 0 = .ok (.aload_n 0, 1) := by decide +kernel
theorem dX6_want_1 : decode cX6_want 1 = .ok (.aload_n 0, 1) := by decide +kernel
theorem dX6_want_2 : decode cX6_want 2 = .ok (.iload_n 1, 1) := by decide +kernel
theorem dX6_want_3 : decode cX6_want 3 = .ok (.invokevirtual 92, 3) := by decide +kernel
theorem dX6_want_6 : decode cX6_want 6 = .ok (.putfield 72, 3) := by decide +kernel
theorem dX6_want_9 : decode cX6_want 9 = .ok (.aload_n 0, 1) := by decide +kernel
theorem dX6_want_10 : decode cX6_want 10 = .ok (.getfield 72, 3) := by decide +kernel
theorem dX6_want_13 : decode cX6_want 13 = .ok (.ifCond .ne 22, 3) := by decide +kernel
theorem dX6_want_16 : decode cX6_want 16 = .ok (.iload_n 2, 1) := by decide +kernel
theorem dX6_want_17 : decode cX6_want 17 = .ok (.ifCond .lt 13, 3) := by decide +kernel
theorem dX6_want_20 : decode cX6_want 20 = .ok (.iload_n 2, 1) := by decide +kernel
theorem dX6_want_21 : decode cX6_want 21 = .ok (.aload_n 0, 1) := by decide +kernel
theorem dX6_want_22 : decode cX6_want 22 = .ok (.getfield 45, 3) := by decide +kernel
theorem dX6_want_25 : decode cX6_want 25 = .ok (.iload_n 1, 1) := by decide +kernel
theorem dX6_want_26 : decode cX6_want 26 = .ok (.iaload, 1) := by decide +kernel
theorem dX6_want_27 : decode cX6_want 27 = .ok (.if_icmp .le 8, 3) := by decide +kernel
theorem dX6_want_30 : decode cX6_want 30 = .ok (.aload_n 0, 1) := by decide +kernel
theorem dX6_want_31 : decode cX6_want 31 = .ok (.iconst 3, 1) := by decide +kernel
theorem dX6_want_32 : decode cX6_want 32 = .ok (.putfield 72, 3) := by decide +kernel
theorem dX6_want_35 : decode cX6_want 35 = .ok (.aload_n 0, 1) := by decide +kernel
theorem dX6_want_36 : decode cX6_want 36 = .ok (.getfield 72, 3) := by decide +kernel
theorem dX6_want_39 : decode cX6_want 39 = .ok (.ifCond .ne 10, 3) := by decide +kernel
theorem dX6_want_42 : decode cX6_want 42 = .ok (.aload_n 0, 1) := by decide +kernel
theorem dX6_want_43 : decode cX6_want 43 = .ok (.getfield 57, 3) := by decide +kernel
theorem dX6_want_46 : decode cX6_want 46 = .ok (.iload_n 1, 1) := by decide +kernel
theorem dX6_want_47 : decode cX6_want 47 = .ok (.iload_n 2, 1) := by decide +kernel
theorem dX6_want_48 : decode cX6_want 48 = .ok (.iastore, 1) := by decide +kernel
theorem dX6_want_49 : decode cX6_want 49 = .ok (.return_, 1) := by decide +kernel
theorem dX6_inflow_0 : decode cX6_inflow 0 = .ok (.aload_n 0, 1) := by decide +kernel
theorem dX6_inflow_1 : decode cX6_inflow 1 = .ok (.aload_n 0, 1) := by decide +kernel
theorem dX6_inflow_2 : decode cX6_inflow 2 = .ok (.iload_n 1, 1) := by decide +kernel
theorem dX6_inflow_3 : decode cX6_inflow 3 = .ok (.invokevirtual 96, 3) := by decide +kernel
theorem dX6_inflow_6 : decode cX6_inflow 6 = .ok (.putfield 72, 3) := by decide +kernel
theorem dX6_inflow_9 : decode cX6_inflow 9 = .ok (.aload_n 0, 1) := by decide +kernel
theorem dX6_inflow_10 : decode cX6_inflow 10 = .ok (.getfield 72, 3) := by decide +kernel
theorem dX6_inflow_13 : decode cX6_inflow 13 = .ok (.ifCond .ne 18, 3) := by decide +kernel
theorem dX6_inflow_16 : decode cX6_inflow 16 = .ok (.iload_n 2, 1) := by decide +kernel
theorem dX6_inflow_17 : decode cX6_inflow 17 = .ok (.ifCond .lt 9, 3) := by decide +kernel
theorem dX6_inflow_20 : decode cX6_inflow 20 = .ok (.iload_n 2, 1) := by decide +kernel
theorem dX6_inflow_21 : decode cX6_inflow 21 = .ok (.ldc 80, 2) := by decide +kernel
theorem dX6_inflow_23 : decode cX6_inflow 23 = .ok (.if_icmp .le 8, 3) := by decide +kernel
theorem dX6_inflow_26 : decode cX6_inflow 26 = .ok (.aload_n 0, 1) := by decide +kernel
theorem dX6_inflow_27 : decode cX6_inflow 27 = .ok (.iconst 3, 1) := by decide +kernel
theorem dX6_inflow_28 : decode cX6_inflow 28 = .ok (.putfield 72, 3) := by decide +kernel
theorem dX6_inflow_31 : decode cX6_inflow 31 = .ok (.aload_n 0, 1) := by decide +kernel
theorem dX6_inflow_32 : decode cX6_inflow 32 = .ok (.getfield 72, 3) := by decide +kernel
theorem dX6_inflow_35 : decode cX6_inflow 35 = .ok (.ifCond .ne 10, 3) := by decide +kernel
theorem dX6_inflow_38 : decode cX6_inflow 38 = .ok (.aload_n 0, 1) := by decide +kernel
theorem dX6_inflow_39 : decode cX6_inflow 39 = .ok (.getfield 17, 3) := by decide +kernel
theorem dX6_inflow_42 : decode cX6_inflow 42 = .ok (.iload_n 1, 1) := by decide +kernel
theorem dX6_inflow_43 : decode cX6_inflow 43 = .ok (.iload_n 2, 1) := by decide +kernel
theorem dX6_inflow_44 : decode cX6_inflow 44 = .ok (.iastore, 1) := by decide +kernel
theorem dX6_inflow_45 : decode cX6_inflow 45 = .ok (.return_, 1) := by decide +kernel
theorem dX6_wrongReach_0 : decode cX6_wrongReach 0 = .ok (.iload_n 1, 1) := by decide +kernel
theorem dX6_wrongReach_1 : decode cX6_wrongReach 1 = .ok (.bipush 32, 2) := by decide +kernel
theorem dX6_wrongReach_3 : decode cX6_wrongReach 3 = .ok (.invokestatic 76, 3) := by decide +kernel
theorem dX6_wrongReach_6 : decode cX6_wrongReach 6 = .ok (.ifCond .ne 7, 3) := by decide +kernel
theorem dX6_wrongReach_9 : decode cX6_wrongReach 9 = .ok (.iconst 1, 1) := by decide +kernel
theorem dX6_wrongReach_10 : decode cX6_wrongReach 10 = .ok (.goto 17, 3) := by decide +kernel
theorem dX6_wrongReach_13 : decode cX6_wrongReach 13 = .ok (.aload_n 0, 1) := by decide +kernel
theorem dX6_wrongReach_14 : decode cX6_wrongReach 14 = .ok (.getfield 7, 3) := by decide +kernel
theorem dX6_wrongReach_17 : decode cX6_wrongReach 17 = .ok (.iload_n 1, 1) := by decide +kernel
theorem dX6_wrongReach_18 : decode cX6_wrongReach 18 = .ok (.baload, 1) := by decide +kernel
theorem dX6_wrongReach_19 : decode cX6_wrongReach 19 = .ok (.ifCond .eq 7, 3) := by decide +kernel
theorem dX6_wrongReach_22 : decode cX6_wrongReach 22 = .ok (.iconst 0, 1) := by decide +kernel
theorem dX6_wrongReach_23 : decode cX6_wrongReach 23 = .ok (.goto 4, 3) := by decide +kernel
theorem dX6_wrongReach_26 : decode cX6_wrongReach 26 = .ok (.iconst 2, 1) := by decide +kernel
theorem dX6_wrongReach_27 : decode cX6_wrongReach 27 = .ok (.ireturn, 1) := by decide +kernel
theorem dX6_release_0 : decode cX6_release 0 = .ok (.aload_n 0, 1) := by decide +kernel
theorem dX6_release_1 : decode cX6_release 1 = .ok (.iload_n 1, 1) := by decide +kernel
theorem dX6_release_2 : decode cX6_release 2 = .ok (.bipush 8, 2) := by decide +kernel
theorem dX6_release_4 : decode cX6_release 4 = .ok (.invokestatic 76, 3) := by decide +kernel
theorem dX6_release_7 : decode cX6_release 7 = .ok (.ifCond .eq 12, 3) := by decide +kernel
theorem dX6_release_10 : decode cX6_release 10 = .ok (.iload_n 3, 1) := by decide +kernel
theorem dX6_release_11 : decode cX6_release 11 = .ok (.bipush 32, 2) := by decide +kernel
theorem dX6_release_13 : decode cX6_release 13 = .ok (.invokestatic 76, 3) := by decide +kernel
theorem dX6_release_16 : decode cX6_release 16 = .ok (.ifCond .ne 7, 3) := by decide +kernel
theorem dX6_release_19 : decode cX6_release 19 = .ok (.iconst 1, 1) := by decide +kernel
theorem dX6_release_20 : decode cX6_release 20 = .ok (.goto 26, 3) := by decide +kernel
theorem dX6_release_23 : decode cX6_release 23 = .ok (.aload_n 0, 1) := by decide +kernel
theorem dX6_release_24 : decode cX6_release 24 = .ok (.getfield 20, 3) := by decide +kernel
theorem dX6_release_27 : decode cX6_release 27 = .ok (.iload_n 1, 1) := by decide +kernel
theorem dX6_release_28 : decode cX6_release 28 = .ok (.baload, 1) := by decide +kernel
theorem dX6_release_29 : decode cX6_release 29 = .ok (.ifCond .eq 12, 3) := by decide +kernel
theorem dX6_release_32 : decode cX6_release 32 = .ok (.aload_n 0, 1) := by decide +kernel
theorem dX6_release_33 : decode cX6_release 33 = .ok (.getfield 7, 3) := by decide +kernel
theorem dX6_release_36 : decode cX6_release 36 = .ok (.iload_n 3, 1) := by decide +kernel
theorem dX6_release_37 : decode cX6_release 37 = .ok (.baload, 1) := by decide +kernel
theorem dX6_release_38 : decode cX6_release 38 = .ok (.ifCond .ne 7, 3) := by decide +kernel
theorem dX6_release_41 : decode cX6_release 41 = .ok (.iconst 2, 1) := by decide +kernel
theorem dX6_release_42 : decode cX6_release 42 = .ok (.goto 4, 3) := by decide +kernel
theorem dX6_release_45 : decode cX6_release 45 = .ok (.iconst 0, 1) := by decide +kernel
theorem dX6_release_46 : decode cX6_release 46 = .ok (.putfield 72, 3) := by decide +kernel
theorem dX6_release_49 : decode cX6_release 49 = .ok (.aload_n 0, 1) := by decide +kernel
theorem dX6_release_50 : decode cX6_release 50 = .ok (.getfield 72, 3) := by decide +kernel
theorem dX6_release_53 : decode cX6_release 53 = .ok (.ifCond .ne 44, 3) := by decide +kernel
theorem dX6_release_56 : decode cX6_release 56 = .ok (.aload_n 0, 1) := by decide +kernel
theorem dX6_release_57 : decode cX6_release 57 = .ok (.iload_n 2, 1) := by decide +kernel
theorem dX6_release_58 : decode cX6_release 58 = .ok (.ifCond .lt 17, 3) := by decide +kernel
theorem dX6_release_61 : decode cX6_release 61 = .ok (.aload_n 0, 1) := by decide +kernel
theorem dX6_release_62 : decode cX6_release 62 = .ok (.aload_n 0, 1) := by decide +kernel
theorem dX6_release_63 : decode cX6_release 63 = .ok (.getfield 23, 3) := by decide +kernel
theorem dX6_release_66 : decode cX6_release 66 = .ok (.iload_n 1, 1) := by decide +kernel
theorem dX6_release_67 : decode cX6_release 67 = .ok (.iaload, 1) := by decide +kernel
theorem dX6_release_68 : decode cX6_release 68 = .ok (.iload_n 3, 1) := by decide +kernel
theorem dX6_release_69 : decode cX6_release 69 = .ok (.invokevirtual 82, 3) := by decide +kernel
theorem dX6_release_72 : decode cX6_release 72 = .ok (.ifCond .ne 7, 3) := by decide +kernel
theorem dX6_release_75 : decode cX6_release 75 = .ok (.iconst 3, 1) := by decide +kernel
theorem dX6_release_76 : decode cX6_release 76 = .ok (.goto 18, 3) := by decide +kernel
theorem dX6_release_79 : decode cX6_release 79 = .ok (.iload_n 2, 1) := by decide +kernel
theorem dX6_release_80 : decode cX6_release 80 = .ok (.aload_n 0, 1) := by decide +kernel
theorem dX6_release_81 : decode cX6_release 81 = .ok (.getfield 29, 3) := by decide +kernel
theorem dX6_release_84 : decode cX6_release 84 = .ok (.iload_n 1, 1) := by decide +kernel
theorem dX6_release_85 : decode cX6_release 85 = .ok (.iaload, 1) := by decide +kernel
theorem dX6_release_86 : decode cX6_release 86 = .ok (.if_icmp .le 7, 3) := by decide +kernel
theorem dX6_release_89 : decode cX6_release 89 = .ok (.iconst 4, 1) := by decide +kernel
theorem dX6_release_90 : decode cX6_release 90 = .ok (.goto 4, 3) := by decide +kernel
theorem dX6_release_93 : decode cX6_release 93 = .ok (.iconst 0, 1) := by decide +kernel
theorem dX6_release_94 : decode cX6_release 94 = .ok (.putfield 72, 3) := by decide +kernel
theorem dX6_release_97 : decode cX6_release 97 = .ok (.aload_n 0, 1) := by decide +kernel
theorem dX6_release_98 : decode cX6_release 98 = .ok (.getfield 72, 3) := by decide +kernel
theorem dX6_release_101 : decode cX6_release 101 = .ok (.ifCond .le 5, 3) := by decide +kernel
theorem dX6_release_104 : decode cX6_release 104 = .ok (.iconst 0, 1) := by decide +kernel
theorem dX6_release_105 : decode cX6_release 105 = .ok (.ireturn, 1) := by decide +kernel
theorem dX6_release_106 : decode cX6_release 106 = .ok (.aload_n 0, 1) := by decide +kernel
theorem dX6_release_107 : decode cX6_release 107 = .ok (.getfield 29, 3) := by decide +kernel
theorem dX6_release_110 : decode cX6_release 110 = .ok (.iload_n 1, 1) := by decide +kernel
theorem dX6_release_111 : decode cX6_release 111 = .ok (.dup2, 1) := by decide +kernel
theorem dX6_release_112 : decode cX6_release 112 = .ok (.iaload, 1) := by decide +kernel
theorem dX6_release_113 : decode cX6_release 113 = .ok (.iload_n 2, 1) := by decide +kernel
theorem dX6_release_114 : decode cX6_release 114 = .ok (.isub, 1) := by decide +kernel
theorem dX6_release_115 : decode cX6_release 115 = .ok (.iastore, 1) := by decide +kernel
theorem dX6_release_116 : decode cX6_release 116 = .ok (.aload_n 0, 1) := by decide +kernel
theorem dX6_release_117 : decode cX6_release 117 = .ok (.getfield 32, 3) := by decide +kernel
theorem dX6_release_120 : decode cX6_release 120 = .ok (.bipush 32, 2) := by decide +kernel
theorem dX6_release_122 : decode cX6_release 122 = .ok (.iload_n 1, 1) := by decide +kernel
theorem dX6_release_123 : decode cX6_release 123 = .ok (.imul, 1) := by decide +kernel
theorem dX6_release_124 : decode cX6_release 124 = .ok (.iload_n 3, 1) := by decide +kernel
theorem dX6_release_125 : decode cX6_release 125 = .ok (.iadd, 1) := by decide +kernel
theorem dX6_release_126 : decode cX6_release 126 = .ok (.dup2, 1) := by decide +kernel
theorem dX6_release_127 : decode cX6_release 127 = .ok (.laload, 1) := by decide +kernel
theorem dX6_release_128 : decode cX6_release 128 = .ok (.iload_n 2, 1) := by decide +kernel
theorem dX6_release_129 : decode cX6_release 129 = .ok (.i2l, 1) := by decide +kernel
theorem dX6_release_130 : decode cX6_release 130 = .ok (.ladd, 1) := by decide +kernel
theorem dX6_release_131 : decode cX6_release 131 = .ok (.lastore, 1) := by decide +kernel
theorem dX6_release_132 : decode cX6_release 132 = .ok (.aload_n 0, 1) := by decide +kernel
theorem dX6_release_133 : decode cX6_release 133 = .ok (.getfield 29, 3) := by decide +kernel
theorem dX6_release_136 : decode cX6_release 136 = .ok (.iload_n 1, 1) := by decide +kernel
theorem dX6_release_137 : decode cX6_release 137 = .ok (.iaload, 1) := by decide +kernel
theorem dX6_release_138 : decode cX6_release 138 = .ok (.ireturn, 1) := by decide +kernel
theorem dX6_plan_0 : decode cX6_plan 0 = .ok (.aload_n 0, 1) := by decide +kernel
theorem dX6_plan_1 : decode cX6_plan 1 = .ok (.iconst 0, 1) := by decide +kernel
theorem dX6_plan_2 : decode cX6_plan 2 = .ok (.putfield 72, 3) := by decide +kernel
theorem dX6_plan_5 : decode cX6_plan 5 = .ok (.aload_n 0, 1) := by decide +kernel
theorem dX6_plan_6 : decode cX6_plan 6 = .ok (.iconst (-1), 1) := by decide +kernel
theorem dX6_plan_7 : decode cX6_plan 7 = .ok (.iconst (-1), 1) := by decide +kernel
theorem dX6_plan_8 : decode cX6_plan 8 = .ok (.iconst 0, 1) := by decide +kernel
theorem dX6_plan_9 : decode cX6_plan 9 = .ok (.invokevirtual 119, 3) := by decide +kernel
theorem dX6_plan_12 : decode cX6_plan 12 = .ok (.pop, 1) := by decide +kernel
theorem dX6_plan_13 : decode cX6_plan 13 = .ok (.iconst 0, 1) := by decide +kernel
theorem dX6_plan_14 : decode cX6_plan 14 = .ok (.istore_n 1, 1) := by decide +kernel
theorem dX6_plan_15 : decode cX6_plan 15 = .ok (.iconst 0, 1) := by decide +kernel
theorem dX6_plan_16 : decode cX6_plan 16 = .ok (.istore_n 2, 1) := by decide +kernel
theorem dX6_plan_17 : decode cX6_plan 17 = .ok (.iload_n 2, 1) := by decide +kernel
theorem dX6_plan_18 : decode cX6_plan 18 = .ok (.aload_n 0, 1) := by decide +kernel
theorem dX6_plan_19 : decode cX6_plan 19 = .ok (.getfield 109, 3) := by decide +kernel
theorem dX6_plan_22 : decode cX6_plan 22 = .ok (.if_icmp .ge 30, 3) := by decide +kernel
theorem dX6_plan_25 : decode cX6_plan 25 = .ok (.aload_n 0, 1) := by decide +kernel
theorem dX6_plan_26 : decode cX6_plan 26 = .ok (.aload_n 0, 1) := by decide +kernel
theorem dX6_plan_27 : decode cX6_plan 27 = .ok (.getfield 69, 3) := by decide +kernel
theorem dX6_plan_30 : decode cX6_plan 30 = .ok (.iload_n 2, 1) := by decide +kernel
theorem dX6_plan_31 : decode cX6_plan 31 = .ok (.iaload, 1) := by decide +kernel
theorem dX6_plan_32 : decode cX6_plan 32 = .ok (.invokevirtual 123, 3) := by decide +kernel
theorem dX6_plan_35 : decode cX6_plan 35 = .ok (.ifCond .eq 9, 3) := by decide +kernel
theorem dX6_plan_38 : decode cX6_plan 38 = .ok (.iload_n 1, 1) := by decide +kernel
theorem dX6_plan_39 : decode cX6_plan 39 = .ok (.iconst 1, 1) := by decide +kernel
theorem dX6_plan_40 : decode cX6_plan 40 = .ok (.iadd, 1) := by decide +kernel
theorem dX6_plan_41 : decode cX6_plan 41 = .ok (.goto 4, 3) := by decide +kernel
theorem dX6_plan_44 : decode cX6_plan 44 = .ok (.iload_n 1, 1) := by decide +kernel
theorem dX6_plan_45 : decode cX6_plan 45 = .ok (.istore_n 1, 1) := by decide +kernel
theorem dX6_plan_46 : decode cX6_plan 46 = .ok (.iinc 2 1, 3) := by decide +kernel
theorem dX6_plan_49 : decode cX6_plan 49 = .ok (.goto (-32), 3) := by decide +kernel
theorem dX6_plan_52 : decode cX6_plan 52 = .ok (.iload_n 1, 1) := by decide +kernel
theorem dX6_plan_53 : decode cX6_plan 53 = .ok (.ireturn, 1) := by decide +kernel
theorem dX6_make_0 : decode cX6_make 0 = .ok (.aload_n 0, 1) := by decide +kernel
theorem dX6_make_1 : decode cX6_make 1 = .ok (.invokevirtual 112, 3) := by decide +kernel
theorem dX6_make_4 : decode cX6_make 4 = .ok (.iconst 0, 1) := by decide +kernel
theorem dX6_make_5 : decode cX6_make 5 = .ok (.istore 4, 2) := by decide +kernel
theorem dX6_make_7 : decode cX6_make 7 = .ok (.iload 4, 2) := by decide +kernel
theorem dX6_make_9 : decode cX6_make 9 = .ok (.bipush 40, 2) := by decide +kernel
theorem dX6_make_11 : decode cX6_make 11 = .ok (.if_icmp .ge 17, 3) := by decide +kernel
theorem dX6_make_14 : decode cX6_make 14 = .ok (.aload_n 0, 1) := by decide +kernel
theorem dX6_make_15 : decode cX6_make 15 = .ok (.getfield 63, 3) := by decide +kernel
theorem dX6_make_18 : decode cX6_make 18 = .ok (.iload 4, 2) := by decide +kernel
theorem dX6_make_20 : decode cX6_make 20 = .ok (.iconst 0, 1) := by decide +kernel
theorem dX6_make_21 : decode cX6_make 21 = .ok (.iastore, 1) := by decide +kernel
theorem dX6_make_22 : decode cX6_make 22 = .ok (.iinc 4 1, 3) := by decide +kernel
theorem dX6_make_25 : decode cX6_make 25 = .ok (.goto (-18), 3) := by decide +kernel
theorem dX6_make_28 : decode cX6_make 28 = .ok (.iload_n 2, 1) := by decide +kernel
theorem dX6_make_29 : decode cX6_make 29 = .ok (.ifCond .lt 20, 3) := by decide +kernel
theorem dX6_make_32 : decode cX6_make 32 = .ok (.aload_n 0, 1) := by decide +kernel
theorem dX6_make_33 : decode cX6_make 33 = .ok (.getfield 63, 3) := by decide +kernel
theorem dX6_make_36 : decode cX6_make 36 = .ok (.iload_n 2, 1) := by decide +kernel
theorem dX6_make_37 : decode cX6_make 37 = .ok (.iload_n 3, 1) := by decide +kernel
theorem dX6_make_38 : decode cX6_make 38 = .ok (.iastore, 1) := by decide +kernel
theorem dX6_make_39 : decode cX6_make 39 = .ok (.aload_n 0, 1) := by decide +kernel
theorem dX6_make_40 : decode cX6_make 40 = .ok (.iload_n 2, 1) := by decide +kernel
theorem dX6_make_41 : decode cX6_make 41 = .ok (.invokevirtual 115, 3) := by decide +kernel
theorem dX6_make_44 : decode cX6_make 44 = .ok (.ifCond .ne 5, 3) := by decide +kernel
theorem dX6_make_47 : decode cX6_make 47 = .ok (.iconst 0, 1) := by decide +kernel
theorem dX6_make_48 : decode cX6_make 48 = .ok (.ireturn, 1) := by decide +kernel
theorem dX6_make_49 : decode cX6_make 49 = .ok (.iconst 0, 1) := by decide +kernel
theorem dX6_make_50 : decode cX6_make 50 = .ok (.istore 4, 2) := by decide +kernel
theorem dX6_make_52 : decode cX6_make 52 = .ok (.iload 4, 2) := by decide +kernel
theorem dX6_make_54 : decode cX6_make 54 = .ok (.aload_n 0, 1) := by decide +kernel
theorem dX6_make_55 : decode cX6_make 55 = .ok (.getfield 109, 3) := by decide +kernel
theorem dX6_make_58 : decode cX6_make 58 = .ok (.if_icmp .ge 115, 3) := by decide +kernel
theorem dX6_make_61 : decode cX6_make 61 = .ok (.aload_n 0, 1) := by decide +kernel
theorem dX6_make_62 : decode cX6_make 62 = .ok (.getfield 69, 3) := by decide +kernel
theorem dX6_make_65 : decode cX6_make 65 = .ok (.iload 4, 2) := by decide +kernel
theorem dX6_make_67 : decode cX6_make 67 = .ok (.iaload, 1) := by decide +kernel
theorem dX6_make_68 : decode cX6_make 68 = .ok (.istore 5, 2) := by decide +kernel
theorem dX6_make_70 : decode cX6_make 70 = .ok (.iload 5, 2) := by decide +kernel
theorem dX6_make_72 : decode cX6_make 72 = .ok (.iload_n 1, 1) := by decide +kernel
theorem dX6_make_73 : decode cX6_make 73 = .ok (.if_icmp .eq 94, 3) := by decide +kernel
theorem dX6_make_76 : decode cX6_make 76 = .ok (.iload 5, 2) := by decide +kernel
theorem dX6_make_78 : decode cX6_make 78 = .ok (.iload_n 2, 1) := by decide +kernel
theorem dX6_make_79 : decode cX6_make 79 = .ok (.if_icmp .ne 6, 3) := by decide +kernel
theorem dX6_make_82 : decode cX6_make 82 = .ok (.goto 85, 3) := by decide +kernel
theorem dX6_make_85 : decode cX6_make 85 = .ok (.iconst 0, 1) := by decide +kernel
theorem dX6_make_86 : decode cX6_make 86 = .ok (.istore 6, 2) := by decide +kernel
theorem dX6_make_88 : decode cX6_make 88 = .ok (.aload_n 0, 1) := by decide +kernel
theorem dX6_make_89 : decode cX6_make 89 = .ok (.getfield 57, 3) := by decide +kernel
theorem dX6_make_92 : decode cX6_make 92 = .ok (.iload 5, 2) := by decide +kernel
theorem dX6_make_94 : decode cX6_make 94 = .ok (.iaload, 1) := by decide +kernel
theorem dX6_make_95 : decode cX6_make 95 = .ok (.iconst 1, 1) := by decide +kernel
theorem dX6_make_96 : decode cX6_make 96 = .ok (.iadd, 1) := by decide +kernel
theorem dX6_make_97 : decode cX6_make 97 = .ok (.istore 7, 2) := by decide +kernel
theorem dX6_make_99 : decode cX6_make 99 = .ok (.iload 7, 2) := by decide +kernel
theorem dX6_make_101 : decode cX6_make 101 = .ok (.iload 6, 2) := by decide +kernel
theorem dX6_make_103 : decode cX6_make 103 = .ok (.isub, 1) := by decide +kernel
theorem dX6_make_104 : decode cX6_make 104 = .ok (.iconst 1, 1) := by decide +kernel
theorem dX6_make_105 : decode cX6_make 105 = .ok (.if_icmp .le 53, 3) := by decide +kernel
theorem dX6_make_108 : decode cX6_make 108 = .ok (.aload_n 0, 1) := by decide +kernel
theorem dX6_make_109 : decode cX6_make 109 = .ok (.getfield 63, 3) := by decide +kernel
