theorem dX6_make_112 : decode cX6_make 112 = .ok (.iload 5, 2) := by decide +kernel
theorem dX6_make_114 : decode cX6_make 114 = .ok (.iload 6, 2) := by decide +kernel
theorem dX6_make_116 : decode cX6_make 116 = .ok (.iload 7, 2) := by decide +kernel
theorem dX6_make_118 : decode cX6_make 118 = .ok (.iload 6, 2) := by decide +kernel
theorem dX6_make_120 : decode cX6_make 120 = .ok (.isub, 1) := by decide +kernel
theorem dX6_make_121 : decode cX6_make 121 = .ok (.iconst 2, 1) := by decide +kernel
theorem dX6_make_122 : decode cX6_make 122 = .ok (.idiv, 1) := by decide +kernel
theorem dX6_make_123 : decode cX6_make 123 = .ok (.iadd, 1) := by decide +kernel
theorem dX6_make_124 : decode cX6_make 124 = .ok (.iastore, 1) := by decide +kernel
theorem dX6_make_125 : decode cX6_make 125 = .ok (.aload_n 0, 1) := by decide +kernel
theorem dX6_make_126 : decode cX6_make 126 = .ok (.iload 5, 2) := by decide +kernel
theorem dX6_make_128 : decode cX6_make 128 = .ok (.invokevirtual 115, 3) := by decide +kernel
theorem dX6_make_131 : decode cX6_make 131 = .ok (.ifCond .eq 15, 3) := by decide +kernel
theorem dX6_make_134 : decode cX6_make 134 = .ok (.aload_n 0, 1) := by decide +kernel
theorem dX6_make_135 : decode cX6_make 135 = .ok (.getfield 63, 3) := by decide +kernel
theorem dX6_make_138 : decode cX6_make 138 = .ok (.iload 5, 2) := by decide +kernel
theorem dX6_make_140 : decode cX6_make 140 = .ok (.iaload, 1) := by decide +kernel
theorem dX6_make_141 : decode cX6_make 141 = .ok (.istore 6, 2) := by decide +kernel
theorem dX6_make_143 : decode cX6_make 143 = .ok (.goto (-44), 3) := by decide +kernel
theorem dX6_make_146 : decode cX6_make 146 = .ok (.aload_n 0, 1) := by decide +kernel
theorem dX6_make_147 : decode cX6_make 147 = .ok (.getfield 63, 3) := by decide +kernel
theorem dX6_make_150 : decode cX6_make 150 = .ok (.iload 5, 2) := by decide +kernel
theorem dX6_make_152 : decode cX6_make 152 = .ok (.iaload, 1) := by decide +kernel
theorem dX6_make_153 : decode cX6_make 153 = .ok (.istore 7, 2) := by decide +kernel
theorem dX6_make_155 : decode cX6_make 155 = .ok (.goto (-56), 3) := by decide +kernel
theorem dX6_make_158 : decode cX6_make 158 = .ok (.aload_n 0, 1) := by decide +kernel
theorem dX6_make_159 : decode cX6_make 159 = .ok (.getfield 63, 3) := by decide +kernel
theorem dX6_make_162 : decode cX6_make 162 = .ok (.iload 5, 2) := by decide +kernel
theorem dX6_make_164 : decode cX6_make 164 = .ok (.iload 6, 2) := by decide +kernel
theorem dX6_make_166 : decode cX6_make 166 = .ok (.iastore, 1) := by decide +kernel
theorem dX6_make_167 : decode cX6_make 167 = .ok (.iinc 4 1, 3) := by decide +kernel
theorem dX6_make_170 : decode cX6_make 170 = .ok (.goto (-118), 3) := by decide +kernel
theorem dX6_make_173 : decode cX6_make 173 = .ok (.iconst 1, 1) := by decide +kernel
theorem dX6_make_174 : decode cX6_make 174 = .ok (.ireturn, 1) := by decide +kernel
theorem dX6_age_0 : decode cX6_age 0 = .ok (.aload_n 0, 1) := by decide +kernel
theorem dX6_age_1 : decode cX6_age 1 = .ok (.iconst 0, 1) := by decide +kernel
theorem dX6_age_2 : decode cX6_age 2 = .ok (.putfield 109, 3) := by decide +kernel
theorem dX6_age_5 : decode cX6_age 5 = .ok (.iconst 0, 1) := by decide +kernel
theorem dX6_age_6 : decode cX6_age 6 = .ok (.istore_n 1, 1) := by decide +kernel
theorem dX6_age_7 : decode cX6_age 7 = .ok (.iconst 1, 1) := by decide +kernel
theorem dX6_age_8 : decode cX6_age 8 = .ok (.istore_n 2, 1) := by decide +kernel
theorem dX6_age_9 : decode cX6_age 9 = .ok (.iload_n 2, 1) := by decide +kernel
theorem dX6_age_10 : decode cX6_age 10 = .ok (.ifCond .eq 109, 3) := by decide +kernel
theorem dX6_age_13 : decode cX6_age 13 = .ok (.iconst (-1), 1) := by decide +kernel
theorem dX6_age_14 : decode cX6_age 14 = .ok (.istore_n 3, 1) := by decide +kernel
theorem dX6_age_15 : decode cX6_age 15 = .ok (.iconst 0, 1) := by decide +kernel
theorem dX6_age_16 : decode cX6_age 16 = .ok (.istore 4, 2) := by decide +kernel
theorem dX6_age_18 : decode cX6_age 18 = .ok (.iload 4, 2) := by decide +kernel
theorem dX6_age_20 : decode cX6_age 20 = .ok (.bipush 40, 2) := by decide +kernel
theorem dX6_age_22 : decode cX6_age 22 = .ok (.if_icmp .ge 53, 3) := by decide +kernel
theorem dX6_age_25 : decode cX6_age 25 = .ok (.aload_n 0, 1) := by decide +kernel
theorem dX6_age_26 : decode cX6_age 26 = .ok (.getfield 36, 3) := by decide +kernel
theorem dX6_age_29 : decode cX6_age 29 = .ok (.iload 4, 2) := by decide +kernel
theorem dX6_age_31 : decode cX6_age 31 = .ok (.baload, 1) := by decide +kernel
theorem dX6_age_32 : decode cX6_age 32 = .ok (.ifCond .eq 37, 3) := by decide +kernel
theorem dX6_age_35 : decode cX6_age 35 = .ok (.aload_n 0, 1) := by decide +kernel
theorem dX6_age_36 : decode cX6_age 36 = .ok (.getfield 42, 3) := by decide +kernel
theorem dX6_age_39 : decode cX6_age 39 = .ok (.iload 4, 2) := by decide +kernel
theorem dX6_age_41 : decode cX6_age 41 = .ok (.iaload, 1) := by decide +kernel
theorem dX6_age_42 : decode cX6_age 42 = .ok (.iload_n 1, 1) := by decide +kernel
theorem dX6_age_43 : decode cX6_age 43 = .ok (.if_icmp .le 26, 3) := by decide +kernel
theorem dX6_age_46 : decode cX6_age 46 = .ok (.iload_n 3, 1) := by decide +kernel
theorem dX6_age_47 : decode cX6_age 47 = .ok (.ifCond .lt 19, 3) := by decide +kernel
theorem dX6_age_50 : decode cX6_age 50 = .ok (.aload_n 0, 1) := by decide +kernel
theorem dX6_age_51 : decode cX6_age 51 = .ok (.getfield 42, 3) := by decide +kernel
theorem dX6_age_54 : decode cX6_age 54 = .ok (.iload 4, 2) := by decide +kernel
theorem dX6_age_56 : decode cX6_age 56 = .ok (.iaload, 1) := by decide +kernel
theorem dX6_age_57 : decode cX6_age 57 = .ok (.aload_n 0, 1) := by decide +kernel
theorem dX6_age_58 : decode cX6_age 58 = .ok (.getfield 42, 3) := by decide +kernel
theorem dX6_age_61 : decode cX6_age 61 = .ok (.iload_n 3, 1) := by decide +kernel
theorem dX6_age_62 : decode cX6_age 62 = .ok (.iaload, 1) := by decide +kernel
theorem dX6_age_63 : decode cX6_age 63 = .ok (.if_icmp .ge 6, 3) := by decide +kernel
theorem dX6_age_66 : decode cX6_age 66 = .ok (.iload 4, 2) := by decide +kernel
theorem dX6_age_68 : decode cX6_age 68 = .ok (.istore_n 3, 1) := by decide +kernel
theorem dX6_age_69 : decode cX6_age 69 = .ok (.iinc 4 1, 3) := by decide +kernel
theorem dX6_age_72 : decode cX6_age 72 = .ok (.goto (-54), 3) := by decide +kernel
theorem dX6_age_75 : decode cX6_age 75 = .ok (.iload_n 3, 1) := by decide +kernel
theorem dX6_age_76 : decode cX6_age 76 = .ok (.ifCond .lt 7, 3) := by decide +kernel
theorem dX6_age_79 : decode cX6_age 79 = .ok (.iconst 1, 1) := by decide +kernel
theorem dX6_age_80 : decode cX6_age 80 = .ok (.goto 4, 3) := by decide +kernel
theorem dX6_age_83 : decode cX6_age 83 = .ok (.iconst 0, 1) := by decide +kernel
theorem dX6_age_84 : decode cX6_age 84 = .ok (.istore_n 2, 1) := by decide +kernel
theorem dX6_age_85 : decode cX6_age 85 = .ok (.iload_n 2, 1) := by decide +kernel
theorem dX6_age_86 : decode cX6_age 86 = .ok (.ifCond .eq 30, 3) := by decide +kernel
theorem dX6_age_89 : decode cX6_age 89 = .ok (.aload_n 0, 1) := by decide +kernel
theorem dX6_age_90 : decode cX6_age 90 = .ok (.getfield 69, 3) := by decide +kernel
theorem dX6_age_93 : decode cX6_age 93 = .ok (.aload_n 0, 1) := by decide +kernel
theorem dX6_age_94 : decode cX6_age 94 = .ok (.getfield 109, 3) := by decide +kernel
theorem dX6_age_97 : decode cX6_age 97 = .ok (.iload_n 3, 1) := by decide +kernel
theorem dX6_age_98 : decode cX6_age 98 = .ok (.iastore, 1) := by decide +kernel
theorem dX6_age_99 : decode cX6_age 99 = .ok (.aload_n 0, 1) := by decide +kernel
theorem dX6_age_100 : decode cX6_age 100 = .ok (.dup, 1) := by decide +kernel
theorem dX6_age_101 : decode cX6_age 101 = .ok (.getfield 109, 3) := by decide +kernel
theorem dX6_age_104 : decode cX6_age 104 = .ok (.iconst 1, 1) := by decide +kernel
theorem dX6_age_105 : decode cX6_age 105 = .ok (.iadd, 1) := by decide +kernel
theorem dX6_age_106 : decode cX6_age 106 = .ok (.putfield 109, 3) := by decide +kernel
theorem dX6_age_109 : decode cX6_age 109 = .ok (.aload_n 0, 1) := by decide +kernel
theorem dX6_age_110 : decode cX6_age 110 = .ok (.getfield 42, 3) := by decide +kernel
theorem dX6_age_113 : decode cX6_age 113 = .ok (.iload_n 3, 1) := by decide +kernel
theorem dX6_age_114 : decode cX6_age 114 = .ok (.iaload, 1) := by decide +kernel
theorem dX6_age_115 : decode cX6_age 115 = .ok (.istore_n 1, 1) := by decide +kernel
theorem dX6_age_116 : decode cX6_age 116 = .ok (.goto (-107), 3) := by decide +kernel
theorem dX6_age_119 : decode cX6_age 119 = .ok (.return_, 1) := by decide +kernel
theorem dX6_holdsPlan_0 : decode cX6_holdsPlan 0 = .ok (.iconst 1, 1) := by decide +kernel
theorem dX6_holdsPlan_1 : decode cX6_holdsPlan 1 = .ok (.istore_n 2, 1) := by decide +kernel
theorem dX6_holdsPlan_2 : decode cX6_holdsPlan 2 = .ok (.aload_n 0, 1) := by decide +kernel
theorem dX6_holdsPlan_3 : decode cX6_holdsPlan 3 = .ok (.getfield 39, 3) := by decide +kernel
theorem dX6_holdsPlan_6 : decode cX6_holdsPlan 6 = .ok (.iload_n 1, 1) := by decide +kernel
theorem dX6_holdsPlan_7 : decode cX6_holdsPlan 7 = .ok (.iaload, 1) := by decide +kernel
theorem dX6_holdsPlan_8 : decode cX6_holdsPlan 8 = .ok (.istore_n 3, 1) := by decide +kernel
theorem dX6_holdsPlan_9 : decode cX6_holdsPlan 9 = .ok (.iload_n 3, 1) := by decide +kernel
theorem dX6_holdsPlan_10 : decode cX6_holdsPlan 10 = .ok (.ifCond .lt 33, 3) := by decide +kernel
theorem dX6_holdsPlan_13 : decode cX6_holdsPlan 13 = .ok (.iload_n 2, 1) := by decide +kernel
theorem dX6_holdsPlan_14 : decode cX6_holdsPlan 14 = .ok (.ifCond .eq 29, 3) := by decide +kernel
theorem dX6_holdsPlan_17 : decode cX6_holdsPlan 17 = .ok (.aload_n 0, 1) := by decide +kernel
theorem dX6_holdsPlan_18 : decode cX6_holdsPlan 18 = .ok (.iload_n 3, 1) := by decide +kernel
theorem dX6_holdsPlan_19 : decode cX6_holdsPlan 19 = .ok (.invokevirtual 105, 3) := by decide +kernel
theorem dX6_holdsPlan_22 : decode cX6_holdsPlan 22 = .ok (.lconst 0, 1) := by decide +kernel
theorem dX6_holdsPlan_23 : decode cX6_holdsPlan 23 = .ok (.lcmp, 1) := by decide +kernel
theorem dX6_holdsPlan_24 : decode cX6_holdsPlan 24 = .ok (.ifCond .lt 7, 3) := by decide +kernel
theorem dX6_holdsPlan_27 : decode cX6_holdsPlan 27 = .ok (.iconst 1, 1) := by decide +kernel
theorem dX6_holdsPlan_28 : decode cX6_holdsPlan 28 = .ok (.goto 4, 3) := by decide +kernel
theorem dX6_holdsPlan_31 : decode cX6_holdsPlan 31 = .ok (.iconst 0, 1) := by decide +kernel
theorem dX6_holdsPlan_32 : decode cX6_holdsPlan 32 = .ok (.istore_n 2, 1) := by decide +kernel
theorem dX6_holdsPlan_33 : decode cX6_holdsPlan 33 = .ok (.aload_n 0, 1) := by decide +kernel
theorem dX6_holdsPlan_34 : decode cX6_holdsPlan 34 = .ok (.getfield 13, 3) := by decide +kernel
theorem dX6_holdsPlan_37 : decode cX6_holdsPlan 37 = .ok (.iload_n 3, 1) := by decide +kernel
theorem dX6_holdsPlan_38 : decode cX6_holdsPlan 38 = .ok (.iaload, 1) := by decide +kernel
theorem dX6_holdsPlan_39 : decode cX6_holdsPlan 39 = .ok (.istore_n 3, 1) := by decide +kernel
theorem dX6_holdsPlan_40 : decode cX6_holdsPlan 40 = .ok (.goto (-31), 3) := by decide +kernel
theorem dX6_holdsPlan_43 : decode cX6_holdsPlan 43 = .ok (.aload_n 0, 1) := by decide +kernel
theorem dX6_holdsPlan_44 : decode cX6_holdsPlan 44 = .ok (.getfield 54, 3) := by decide +kernel
theorem dX6_holdsPlan_47 : decode cX6_holdsPlan 47 = .ok (.iload_n 1, 1) := by decide +kernel
theorem dX6_holdsPlan_48 : decode cX6_holdsPlan 48 = .ok (.iaload, 1) := by decide +kernel
theorem dX6_holdsPlan_49 : decode cX6_holdsPlan 49 = .ok (.ifCond .lt 7, 3) := by decide +kernel
theorem dX6_holdsPlan_52 : decode cX6_holdsPlan 52 = .ok (.iload_n 2, 1) := by decide +kernel
theorem dX6_holdsPlan_53 : decode cX6_holdsPlan 53 = .ok (.ifCond .ne 5, 3) := by decide +kernel
theorem dX6_holdsPlan_56 : decode cX6_holdsPlan 56 = .ok (.iload_n 2, 1) := by decide +kernel
theorem dX6_holdsPlan_57 : decode cX6_holdsPlan 57 = .ok (.ireturn, 1) := by decide +kernel
theorem dX6_holdsPlan_58 : decode cX6_holdsPlan 58 = .ok (.lconst 0, 1) := by decide +kernel
theorem dX6_holdsPlan_59 : decode cX6_holdsPlan 59 = .ok (.lstore_n 3, 1) := by decide +kernel
theorem dX6_holdsPlan_60 : decode cX6_holdsPlan 60 = .ok (.iconst 0, 1) := by decide +kernel
theorem dX6_holdsPlan_61 : decode cX6_holdsPlan 61 = .ok (.istore 5, 2) := by decide +kernel
theorem dX6_holdsPlan_63 : decode cX6_holdsPlan 63 = .ok (.iload 5, 2) := by decide +kernel
theorem dX6_holdsPlan_65 : decode cX6_holdsPlan 65 = .ok (.bipush 40, 2) := by decide +kernel
theorem dX6_holdsPlan_67 : decode cX6_holdsPlan 67 = .ok (.if_icmp .ge 50, 3) := by decide +kernel
theorem dX6_holdsPlan_70 : decode cX6_holdsPlan 70 = .ok (.aload_n 0, 1) := by decide +kernel
theorem dX6_holdsPlan_71 : decode cX6_holdsPlan 71 = .ok (.getfield 36, 3) := by decide +kernel
theorem dX6_holdsPlan_74 : decode cX6_holdsPlan 74 = .ok (.iload 5, 2) := by decide +kernel
theorem dX6_holdsPlan_76 : decode cX6_holdsPlan 76 = .ok (.baload, 1) := by decide +kernel
theorem dX6_holdsPlan_77 : decode cX6_holdsPlan 77 = .ok (.ifCond .eq 32, 3) := by decide +kernel
theorem dX6_holdsPlan_80 : decode cX6_holdsPlan 80 = .ok (.aload_n 0, 1) := by decide +kernel
theorem dX6_holdsPlan_81 : decode cX6_holdsPlan 81 = .ok (.getfield 54, 3) := by decide +kernel
theorem dX6_holdsPlan_84 : decode cX6_holdsPlan 84 = .ok (.iload 5, 2) := by decide +kernel
theorem dX6_holdsPlan_86 : decode cX6_holdsPlan 86 = .ok (.iaload, 1) := by decide +kernel
theorem dX6_holdsPlan_87 : decode cX6_holdsPlan 87 = .ok (.aload_n 0, 1) := by decide +kernel
theorem dX6_holdsPlan_88 : decode cX6_holdsPlan 88 = .ok (.getfield 54, 3) := by decide +kernel
theorem dX6_holdsPlan_91 : decode cX6_holdsPlan 91 = .ok (.iload_n 1, 1) := by decide +kernel
theorem dX6_holdsPlan_92 : decode cX6_holdsPlan 92 = .ok (.iaload, 1) := by decide +kernel
theorem dX6_holdsPlan_93 : decode cX6_holdsPlan 93 = .ok (.if_icmp .ne 16, 3) := by decide +kernel
theorem dX6_holdsPlan_96 : decode cX6_holdsPlan 96 = .ok (.lload_n 3, 1) := by decide +kernel
theorem dX6_holdsPlan_97 : decode cX6_holdsPlan 97 = .ok (.aload_n 0, 1) := by decide +kernel
theorem dX6_holdsPlan_98 : decode cX6_holdsPlan 98 = .ok (.getfield 63, 3) := by decide +kernel
theorem dX6_holdsPlan_101 : decode cX6_holdsPlan 101 = .ok (.iload 5, 2) := by decide +kernel
theorem dX6_holdsPlan_103 : decode cX6_holdsPlan 103 = .ok (.iaload, 1) := by decide +kernel
theorem dX6_holdsPlan_104 : decode cX6_holdsPlan 104 = .ok (.i2l, 1) := by decide +kernel
theorem dX6_holdsPlan_105 : decode cX6_holdsPlan 105 = .ok (.ladd, 1) := by decide +kernel
theorem dX6_holdsPlan_106 : decode cX6_holdsPlan 106 = .ok (.goto 4, 3) := by decide +kernel
theorem dX6_holdsPlan_109 : decode cX6_holdsPlan 109 = .ok (.lload_n 3, 1) := by decide +kernel
theorem dX6_holdsPlan_110 : decode cX6_holdsPlan 110 = .ok (.lstore_n 3, 1) := by decide +kernel
theorem dX6_holdsPlan_111 : decode cX6_holdsPlan 111 = .ok (.iinc 5 1, 3) := by decide +kernel
theorem dX6_holdsPlan_114 : decode cX6_holdsPlan 114 = .ok (.goto (-51), 3) := by decide +kernel
theorem dX6_holdsPlan_117 : decode cX6_holdsPlan 117 = .ok (.lload_n 3, 1) := by decide +kernel
theorem dX6_holdsPlan_118 : decode cX6_holdsPlan 118 = .ok (.aload_n 0, 1) := by decide +kernel
theorem dX6_holdsPlan_119 : decode cX6_holdsPlan 119 = .ok (.getfield 26, 3) := by decide +kernel
theorem dX6_holdsPlan_122 : decode cX6_holdsPlan 122 = .ok (.aload_n 0, 1) := by decide +kernel
theorem dX6_holdsPlan_123 : decode cX6_holdsPlan 123 = .ok (.getfield 54, 3) := by decide +kernel
theorem dX6_holdsPlan_126 : decode cX6_holdsPlan 126 = .ok (.iload_n 1, 1) := by decide +kernel
theorem dX6_holdsPlan_127 : decode cX6_holdsPlan 127 = .ok (.iaload, 1) := by decide +kernel
theorem dX6_holdsPlan_128 : decode cX6_holdsPlan 128 = .ok (.iaload, 1) := by decide +kernel
theorem dX6_holdsPlan_129 : decode cX6_holdsPlan 129 = .ok (.aload_n 0, 1) := by decide +kernel
theorem dX6_holdsPlan_130 : decode cX6_holdsPlan 130 = .ok (.getfield 29, 3) := by decide +kernel
theorem dX6_holdsPlan_133 : decode cX6_holdsPlan 133 = .ok (.aload_n 0, 1) := by decide +kernel
theorem dX6_holdsPlan_134 : decode cX6_holdsPlan 134 = .ok (.getfield 54, 3) := by decide +kernel
theorem dX6_holdsPlan_137 : decode cX6_holdsPlan 137 = .ok (.iload_n 1, 1) := by decide +kernel
theorem dX6_holdsPlan_138 : decode cX6_holdsPlan 138 = .ok (.iaload, 1) := by decide +kernel
theorem dX6_holdsPlan_139 : decode cX6_holdsPlan 139 = .ok (.iaload, 1) := by decide +kernel
theorem dX6_holdsPlan_140 : decode cX6_holdsPlan 140 = .ok (.isub, 1) := by decide +kernel
theorem dX6_holdsPlan_141 : decode cX6_holdsPlan 141 = .ok (.i2l, 1) := by decide +kernel
theorem dX6_holdsPlan_142 : decode cX6_holdsPlan 142 = .ok (.lcmp, 1) := by decide +kernel
theorem dX6_holdsPlan_143 : decode cX6_holdsPlan 143 = .ok (.ifCond .gt 7, 3) := by decide +kernel
theorem dX6_holdsPlan_146 : decode cX6_holdsPlan 146 = .ok (.iconst 1, 1) := by decide +kernel
theorem dX6_holdsPlan_147 : decode cX6_holdsPlan 147 = .ok (.goto 4, 3) := by decide +kernel
theorem dX6_holdsPlan_150 : decode cX6_holdsPlan 150 = .ok (.iconst 0, 1) := by decide +kernel
theorem dX6_holdsPlan_151 : decode cX6_holdsPlan 151 = .ok (.ireturn, 1) := by decide +kernel
theorem dX6_natural_0 : decode cX6_natural 0 = .ok (.lconst 0, 1) := by decide +kernel
theorem dX6_natural_1 : decode cX6_natural 1 = .ok (.lstore_n 2, 1) := by decide +kernel
theorem dX6_natural_2 : decode cX6_natural 2 = .ok (.iconst 0, 1) := by decide +kernel
theorem dX6_natural_3 : decode cX6_natural 3 = .ok (.istore 4, 2) := by decide +kernel
theorem dX6_natural_5 : decode cX6_natural 5 = .ok (.iload 4, 2) := by decide +kernel
theorem dX6_natural_7 : decode cX6_natural 7 = .ok (.bipush 32, 2) := by decide +kernel
theorem dX6_natural_9 : decode cX6_natural 9 = .ok (.if_icmp .ge 44, 3) := by decide +kernel
theorem dX6_natural_12 : decode cX6_natural 12 = .ok (.aload_n 0, 1) := by decide +kernel
theorem dX6_natural_13 : decode cX6_natural 13 = .ok (.getfield 7, 3) := by decide +kernel
theorem dX6_natural_16 : decode cX6_natural 16 = .ok (.iload 4, 2) := by decide +kernel
theorem dX6_natural_18 : decode cX6_natural 18 = .ok (.baload, 1) := by decide +kernel
theorem dX6_natural_19 : decode cX6_natural 19 = .ok (.ifCond .eq 26, 3) := by decide +kernel
theorem dX6_natural_22 : decode cX6_natural 22 = .ok (.aload_n 0, 1) := by decide +kernel
theorem dX6_natural_23 : decode cX6_natural 23 = .ok (.iload 4, 2) := by decide +kernel
theorem dX6_natural_25 : decode cX6_natural 25 = .ok (.iload_n 1, 1) := by decide +kernel
theorem dX6_natural_26 : decode cX6_natural 26 = .ok (.invokevirtual 82, 3) := by decide +kernel
theorem dX6_natural_29 : decode cX6_natural 29 = .ok (.ifCond .eq 16, 3) := by decide +kernel
theorem dX6_natural_32 : decode cX6_natural 32 = .ok (.lload_n 2, 1) := by decide +kernel
theorem dX6_natural_33 : decode cX6_natural 33 = .ok (.aload_n 0, 1) := by decide +kernel
theorem dX6_natural_34 : decode cX6_natural 34 = .ok (.getfield 17, 3) := by decide +kernel
theorem dX6_natural_37 : decode cX6_natural 37 = .ok (.iload 4, 2) := by decide +kernel
theorem dX6_natural_39 : decode cX6_natural 39 = .ok (.iaload, 1) := by decide +kernel
theorem dX6_natural_40 : decode cX6_natural 40 = .ok (.i2l, 1) := by decide +kernel
theorem dX6_natural_41 : decode cX6_natural 41 = .ok (.ladd, 1) := by decide +kernel
theorem dX6_natural_42 : decode cX6_natural 42 = .ok (.goto 4, 3) := by decide +kernel
theorem dX6_natural_45 : decode cX6_natural 45 = .ok (.lload_n 2, 1) := by decide +kernel
theorem dX6_natural_46 : decode cX6_natural 46 = .ok (.lstore_n 2, 1) := by decide +kernel
theorem dX6_natural_47 : decode cX6_natural 47 = .ok (.iinc 4 1, 3) := by decide +kernel
theorem dX6_natural_50 : decode cX6_natural 50 = .ok (.goto (-45), 3) := by decide +kernel
theorem dX6_natural_53 : decode cX6_natural 53 = .ok (.iconst 0, 1) := by decide +kernel
theorem dX6_natural_54 : decode cX6_natural 54 = .ok (.istore 4, 2) := by decide +kernel
theorem dX6_natural_56 : decode cX6_natural 56 = .ok (.iload 4, 2) := by decide +kernel
theorem dX6_natural_58 : decode cX6_natural 58 = .ok (.bipush 40, 2) := by decide +kernel
theorem dX6_natural_60 : decode cX6_natural 60 = .ok (.if_icmp .ge 98, 3) := by decide +kernel
theorem dX6_natural_63 : decode cX6_natural 63 = .ok (.aload_n 0, 1) := by decide +kernel
theorem dX6_natural_64 : decode cX6_natural 64 = .ok (.getfield 36, 3) := by decide +kernel
theorem dX6_natural_67 : decode cX6_natural 67 = .ok (.iload 4, 2) := by decide +kernel
theorem dX6_natural_69 : decode cX6_natural 69 = .ok (.baload, 1) := by decide +kernel
theorem dX6_natural_70 : decode cX6_natural 70 = .ok (.ifCond .ne 6, 3) := by decide +kernel
theorem dX6_natural_73 : decode cX6_natural 73 = .ok (.goto 79, 3) := by decide +kernel
theorem dX6_natural_76 : decode cX6_natural 76 = .ok (.aload_n 0, 1) := by decide +kernel
theorem dX6_natural_77 : decode cX6_natural 77 = .ok (.aload_n 0, 1) := by decide +kernel
theorem dX6_natural_78 : decode cX6_natural 78 = .ok (.getfield 39, 3) := by decide +kernel
theorem dX6_natural_81 : decode cX6_natural 81 = .ok (.iload 4, 2) := by decide +kernel
theorem dX6_natural_83 : decode cX6_natural 83 = .ok (.iaload, 1) := by decide +kernel
theorem dX6_natural_84 : decode cX6_natural 84 = .ok (.iload_n 1, 1) := by decide +kernel
theorem dX6_natural_85 : decode cX6_natural 85 = .ok (.invokevirtual 82, 3) := by decide +kernel
theorem dX6_natural_88 : decode cX6_natural 88 = .ok (.ifCond .eq 16, 3) := by decide +kernel
theorem dX6_natural_91 : decode cX6_natural 91 = .ok (.lload_n 2, 1) := by decide +kernel
theorem dX6_natural_92 : decode cX6_natural 92 = .ok (.aload_n 0, 1) := by decide +kernel
theorem dX6_natural_93 : decode cX6_natural 93 = .ok (.getfield 63, 3) := by decide +kernel
theorem dX6_natural_96 : decode cX6_natural 96 = .ok (.iload 4, 2) := by decide +kernel
theorem dX6_natural_98 : decode cX6_natural 98 = .ok (.iaload, 1) := by decide +kernel
theorem dX6_natural_99 : decode cX6_natural 99 = .ok (.i2l, 1) := by decide +kernel
theorem dX6_natural_100 : decode cX6_natural 100 = .ok (.lsub, 1) := by decide +kernel
theorem dX6_natural_101 : decode cX6_natural 101 = .ok (.goto 4, 3) := by decide +kernel
theorem dX6_natural_104 : decode cX6_natural 104 = .ok (.lload_n 2, 1) := by decide +kernel
theorem dX6_natural_105 : decode cX6_natural 105 = .ok (.lstore_n 2, 1) := by decide +kernel
theorem dX6_natural_106 : decode cX6_natural 106 = .ok (.aload_n 0, 1) := by decide +kernel
theorem dX6_natural_107 : decode cX6_natural 107 = .ok (.getfield 54, 3) := by decide +kernel
theorem dX6_natural_110 : decode cX6_natural 110 = .ok (.iload 4, 2) := by decide +kernel
theorem dX6_natural_112 : decode cX6_natural 112 = .ok (.iaload, 1) := by decide +kernel
theorem dX6_natural_113 : decode cX6_natural 113 = .ok (.ifCond .ge 37, 3) := by decide +kernel
theorem dX6_natural_116 : decode cX6_natural 116 = .ok (.aload_n 0, 1) := by decide +kernel
theorem dX6_natural_117 : decode cX6_natural 117 = .ok (.aload_n 0, 1) := by decide +kernel
theorem dX6_natural_118 : decode cX6_natural 118 = .ok (.getfield 51, 3) := by decide +kernel
theorem dX6_natural_121 : decode cX6_natural 121 = .ok (.iload 4, 2) := by decide +kernel
theorem dX6_natural_123 : decode cX6_natural 123 = .ok (.iaload, 1) := by decide +kernel
theorem dX6_natural_124 : decode cX6_natural 124 = .ok (.iload_n 1, 1) := by decide +kernel
theorem dX6_natural_125 : decode cX6_natural 125 = .ok (.invokevirtual 82, 3) := by decide +kernel
theorem dX6_natural_128 : decode cX6_natural 128 = .ok (.ifCond .eq 22, 3) := by decide +kernel
theorem dX6_natural_131 : decode cX6_natural 131 = .ok (.lload_n 2, 1) := by decide +kernel
theorem dX6_natural_132 : decode cX6_natural 132 = .ok (.aload_n 0, 1) := by decide +kernel
theorem dX6_natural_133 : decode cX6_natural 133 = .ok (.iload 4, 2) := by decide +kernel
theorem dX6_natural_135 : decode cX6_natural 135 = .ok (.aload_n 0, 1) := by decide +kernel
theorem dX6_natural_136 : decode cX6_natural 136 = .ok (.getfield 63, 3) := by decide +kernel
theorem dX6_natural_139 : decode cX6_natural 139 = .ok (.iload 4, 2) := by decide +kernel
theorem dX6_natural_141 : decode cX6_natural 141 = .ok (.iaload, 1) := by decide +kernel
theorem dX6_natural_142 : decode cX6_natural 142 = .ok (.i2l, 1) := by decide +kernel
theorem dX6_natural_143 : decode cX6_natural 143 = .ok (.invokevirtual 101, 3) := by decide +kernel
theorem dX6_natural_146 : decode cX6_natural 146 = .ok (.ladd, 1) := by decide +kernel
theorem dX6_natural_147 : decode cX6_natural 147 = .ok (.goto 4, 3) := by decide +kernel
theorem dX6_natural_150 : decode cX6_natural 150 = .ok (.lload_n 2, 1) := by decide +kernel
theorem dX6_natural_151 : decode cX6_natural 151 = .ok (.lstore_n 2, 1) := by decide +kernel
theorem dX6_natural_152 : decode cX6_natural 152 = .ok (.iinc 4 1, 3) := by decide +kernel
theorem dX6_natural_155 : decode cX6_natural 155 = .ok (.goto (-99), 3) := by decide +kernel
theorem dX6_natural_158 : decode cX6_natural 158 = .ok (.lload_n 2, 1) := by decide +kernel
theorem dX6_natural_159 : decode cX6_natural 159 = .ok (.lreturn, 1) := by decide +kernel
theorem dX6_returned_0 : decode cX6_returned 0 = .ok (.lload_n 2, 1) := by decide +kernel
theorem dX6_returned_1 : decode cX6_returned 1 = .ok (.aload_n 0, 1) := by decide +kernel
theorem dX6_returned_2 : decode cX6_returned 2 = .ok (.getfield 48, 3) := by decide +kernel
theorem dX6_returned_5 : decode cX6_returned 5 = .ok (.iload_n 1, 1) := by decide +kernel
theorem dX6_returned_6 : decode cX6_returned 6 = .ok (.iaload, 1) := by decide +kernel
theorem dX6_returned_7 : decode cX6_returned 7 = .ok (.i2l, 1) := by decide +kernel
theorem dX6_returned_8 : decode cX6_returned 8 = .ok (.lmul, 1) := by decide +kernel
theorem dX6_returned_9 : decode cX6_returned 9 = .ok (.ldc2_w 99, 3) := by decide +kernel
theorem dX6_returned_12 : decode cX6_returned 12 = .ok (.ldiv, 1) := by decide +kernel
theorem dX6_returned_13 : decode cX6_returned 13 = .ok (.lreturn, 1) := by decide +kernel
theorem dX6_isShort_0 : decode cX6_isShort 0 = .ok (.aload_n 0, 1) := by decide +kernel
theorem dX6_isShort_1 : decode cX6_isShort 1 = .ok (.getfield 63, 3) := by decide +kernel
theorem dX6_isShort_4 : decode cX6_isShort 4 = .ok (.iload_n 1, 1) := by decide +kernel
theorem dX6_isShort_5 : decode cX6_isShort 5 = .ok (.iaload, 1) := by decide +kernel
theorem dX6_isShort_6 : decode cX6_isShort 6 = .ok (.aload_n 0, 1) := by decide +kernel
theorem dX6_isShort_7 : decode cX6_isShort 7 = .ok (.getfield 57, 3) := by decide +kernel
theorem dX6_isShort_10 : decode cX6_isShort 10 = .ok (.iload_n 1, 1) := by decide +kernel
theorem dX6_isShort_11 : decode cX6_isShort 11 = .ok (.iaload, 1) := by decide +kernel
theorem dX6_isShort_12 : decode cX6_isShort 12 = .ok (.if_icmp .ge 7, 3) := by decide +kernel
theorem dX6_isShort_15 : decode cX6_isShort 15 = .ok (.iconst 1, 1) := by decide +kernel
theorem dX6_isShort_16 : decode cX6_isShort 16 = .ok (.goto 4, 3) := by decide +kernel
theorem dX6_isShort_19 : decode cX6_isShort 19 = .ok (.iconst 0, 1) := by decide +kernel
theorem dX6_isShort_20 : decode cX6_isShort 20 = .ok (.ireturn, 1) := by decide +kernel
theorem dX6_given_0 : decode cX6_given 0 = .ok (.aload_n 0, 1) := by decide +kernel
theorem dX6_given_1 : decode cX6_given 1 = .ok (.aload_n 0, 1) := by decide +kernel
theorem dX6_given_2 : decode cX6_given 2 = .ok (.iload_n 1, 1) := by decide +kernel
theorem dX6_given_3 : decode cX6_given 3 = .ok (.invokevirtual 92, 3) := by decide +kernel
theorem dX6_given_6 : decode cX6_given 6 = .ok (.putfield 72, 3) := by decide +kernel
theorem dX6_given_9 : decode cX6_given 9 = .ok (.aload_n 0, 1) := by decide +kernel
theorem dX6_given_10 : decode cX6_given 10 = .ok (.getfield 72, 3) := by decide +kernel
theorem dX6_given_13 : decode cX6_given 13 = .ok (.ifCond .le 5, 3) := by decide +kernel
theorem dX6_given_16 : decode cX6_given 16 = .ok (.iconst 0, 1) := by decide +kernel
theorem dX6_given_17 : decode cX6_given 17 = .ok (.ireturn, 1) := by decide +kernel
theorem dX6_given_18 : decode cX6_given 18 = .ok (.aload_n 0, 1) := by decide +kernel
theorem dX6_given_19 : decode cX6_given 19 = .ok (.iconst (-1), 1) := by decide +kernel
theorem dX6_given_20 : decode cX6_given 20 = .ok (.iconst (-1), 1) := by decide +kernel
theorem dX6_given_21 : decode cX6_given 21 = .ok (.iconst 0, 1) := by decide +kernel
theorem dX6_given_22 : decode cX6_given 22 = .ok (.invokevirtual 119, 3) := by decide +kernel
theorem dX6_given_25 : decode cX6_given 25 = .ok (.pop, 1) := by decide +kernel
theorem dX6_given_26 : decode cX6_given 26 = .ok (.aload_n 0, 1) := by decide +kernel
theorem dX6_given_27 : decode cX6_given 27 = .ok (.getfield 63, 3) := by decide +kernel
theorem dX6_given_30 : decode cX6_given 30 = .ok (.iload_n 1, 1) := by decide +kernel
theorem dX6_given_31 : decode cX6_given 31 = .ok (.iaload, 1) := by decide +kernel
theorem dX6_given_32 : decode cX6_given 32 = .ok (.ireturn, 1) := by decide +kernel
theorem dX6_flow_0 : decode cX6_flow 0 = .ok (.aload_n 0, 1) := by decide +kernel
theorem dX6_flow_1 : decode cX6_flow 1 = .ok (.aload_n 0, 1) := by decide +kernel
theorem dX6_flow_2 : decode cX6_flow 2 = .ok (.iload_n 1, 1) := by decide +kernel
theorem dX6_flow_3 : decode cX6_flow 3 = .ok (.invokevirtual 96, 3) := by decide +kernel
theorem dX6_flow_6 : decode cX6_flow 6 = .ok (.putfield 72, 3) := by decide +kernel
theorem dX6_flow_9 : decode cX6_flow 9 = .ok (.aload_n 0, 1) := by decide +kernel
theorem dX6_flow_10 : decode cX6_flow 10 = .ok (.getfield 72, 3) := by decide +kernel
theorem dX6_flow_13 : decode cX6_flow 13 = .ok (.ifCond .le 5, 3) := by decide +kernel
theorem dX6_flow_16 : decode cX6_flow 16 = .ok (.lconst 0, 1) := by decide +kernel
theorem dX6_flow_17 : decode cX6_flow 17 = .ok (.lreturn, 1) := by decide +kernel
theorem dX6_flow_18 : decode cX6_flow 18 = .ok (.iload_n 2, 1) := by decide +kernel
theorem dX6_flow_19 : decode cX6_flow 19 = .ok (.ifCond .ne 17, 3) := by decide +kernel
theorem dX6_flow_22 : decode cX6_flow 22 = .ok (.aload_n 0, 1) := by decide +kernel
theorem dX6_flow_23 : decode cX6_flow 23 = .ok (.iconst (-1), 1) := by decide +kernel
theorem dX6_flow_24 : decode cX6_flow 24 = .ok (.iconst (-1), 1) := by decide +kernel
theorem dX6_flow_25 : decode cX6_flow 25 = .ok (.iconst 0, 1) := by decide +kernel
theorem dX6_flow_26 : decode cX6_flow 26 = .ok (.invokevirtual 119, 3) := by decide +kernel
theorem dX6_flow_29 : decode cX6_flow 29 = .ok (.pop, 1) := by decide +kernel
theorem dX6_flow_30 : decode cX6_flow 30 = .ok (.aload_n 0, 1) := by decide +kernel
theorem dX6_flow_31 : decode cX6_flow 31 = .ok (.iload_n 1, 1) := by decide +kernel
theorem dX6_flow_32 : decode cX6_flow 32 = .ok (.invokevirtual 105, 3) := by decide +kernel
theorem dX6_flow_35 : decode cX6_flow 35 = .ok (.lreturn, 1) := by decide +kernel
theorem dX6_flow_36 : decode cX6_flow 36 = .ok (.iload_n 2, 1) := by decide +kernel
theorem dX6_flow_37 : decode cX6_flow 37 = .ok (.iconst 1, 1) := by decide +kernel
theorem dX6_flow_38 : decode cX6_flow 38 = .ok (.if_icmp .eq 7, 3) := by decide +kernel
theorem dX6_flow_41 : decode cX6_flow 41 = .ok (.ldc2_w 126, 3) := by decide +kernel
theorem dX6_flow_44 : decode cX6_flow 44 = .ok (.lreturn, 1) := by decide +kernel
theorem dX6_flow_45 : decode cX6_flow 45 = .ok (.lconst 0, 1) := by decide +kernel
theorem dX6_flow_46 : decode cX6_flow 46 = .ok (.lstore_n 3, 1) := by decide +kernel
theorem dX6_flow_47 : decode cX6_flow 47 = .ok (.iconst 0, 1) := by decide +kernel
theorem dX6_flow_48 : decode cX6_flow 48 = .ok (.istore 5, 2) := by decide +kernel
theorem dX6_flow_50 : decode cX6_flow 50 = .ok (.iload 5, 2) := by decide +kernel
theorem dX6_flow_52 : decode cX6_flow 52 = .ok (.bipush 8, 2) := by decide +kernel
theorem dX6_flow_54 : decode cX6_flow 54 = .ok (.if_icmp .ge 84, 3) := by decide +kernel
theorem dX6_flow_57 : decode cX6_flow 57 = .ok (.iconst 0, 1) := by decide +kernel
theorem dX6_flow_58 : decode cX6_flow 58 = .ok (.istore 6, 2) := by decide +kernel
theorem dX6_flow_60 : decode cX6_flow 60 = .ok (.iload 6, 2) := by decide +kernel
theorem dX6_flow_62 : decode cX6_flow 62 = .ok (.bipush 32, 2) := by decide +kernel
theorem dX6_flow_64 : decode cX6_flow 64 = .ok (.if_icmp .ge 68, 3) := by decide +kernel
theorem dX6_flow_67 : decode cX6_flow 67 = .ok (.aload_n 0, 1) := by decide +kernel
theorem dX6_flow_68 : decode cX6_flow 68 = .ok (.getfield 32, 3) := by decide +kernel
theorem dX6_flow_71 : decode cX6_flow 71 = .ok (.bipush 32, 2) := by decide +kernel
theorem dX6_flow_73 : decode cX6_flow 73 = .ok (.iload 5, 2) := by decide +kernel
theorem dX6_flow_75 : decode cX6_flow 75 = .ok (.imul, 1) := by decide +kernel
theorem dX6_flow_76 : decode cX6_flow 76 = .ok (.iload 6, 2) := by decide +kernel
theorem dX6_flow_78 : decode cX6_flow 78 = .ok (.iadd, 1) := by decide +kernel
theorem dX6_flow_79 : decode cX6_flow 79 = .ok (.laload, 1) := by decide +kernel
theorem dX6_flow_80 : decode cX6_flow 80 = .ok (.lconst 0, 1) := by decide +kernel
theorem dX6_flow_81 : decode cX6_flow 81 = .ok (.lcmp, 1) := by decide +kernel
theorem dX6_flow_82 : decode cX6_flow 82 = .ok (.ifCond .le 44, 3) := by decide +kernel
theorem dX6_flow_85 : decode cX6_flow 85 = .ok (.aload_n 0, 1) := by decide +kernel
theorem dX6_flow_86 : decode cX6_flow 86 = .ok (.aload_n 0, 1) := by decide +kernel
theorem dX6_flow_87 : decode cX6_flow 87 = .ok (.getfield 23, 3) := by decide +kernel
theorem dX6_flow_90 : decode cX6_flow 90 = .ok (.iload 5, 2) := by decide +kernel
theorem dX6_flow_92 : decode cX6_flow 92 = .ok (.iaload, 1) := by decide +kernel
theorem dX6_flow_93 : decode cX6_flow 93 = .ok (.iload_n 1, 1) := by decide +kernel
theorem dX6_flow_94 : decode cX6_flow 94 = .ok (.invokevirtual 82, 3) := by decide +kernel
theorem dX6_flow_97 : decode cX6_flow 97 = .ok (.ifCond .eq 29, 3) := by decide +kernel
theorem dX6_flow_100 : decode cX6_flow 100 = .ok (.aload_n 0, 1) := by decide +kernel
theorem dX6_flow_101 : decode cX6_flow 101 = .ok (.iload_n 1, 1) := by decide +kernel
theorem dX6_flow_102 : decode cX6_flow 102 = .ok (.iload 6, 2) := by decide +kernel
theorem dX6_flow_104 : decode cX6_flow 104 = .ok (.invokevirtual 82, 3) := by decide +kernel
theorem dX6_flow_107 : decode cX6_flow 107 = .ok (.ifCond .eq 19, 3) := by decide +kernel
theorem dX6_flow_110 : decode cX6_flow 110 = .ok (.lload_n 3, 1) := by decide +kernel
theorem dX6_flow_111 : decode cX6_flow 111 = .ok (.aload_n 0, 1) := by decide +kernel
theorem dX6_flow_112 : decode cX6_flow 112 = .ok (.getfield 32, 3) := by decide +kernel
theorem dX6_flow_115 : decode cX6_flow 115 = .ok (.bipush 32, 2) := by decide +kernel
theorem dX6_flow_117 : decode cX6_flow 117 = .ok (.iload 5, 2) := by decide +kernel
theorem dX6_flow_119 : decode cX6_flow 119 = .ok (.imul, 1) := by decide +kernel
theorem dX6_flow_120 : decode cX6_flow 120 = .ok (.iload 6, 2) := by decide +kernel
theorem dX6_flow_122 : decode cX6_flow 122 = .ok (.iadd, 1) := by decide +kernel
theorem dX6_flow_123 : decode cX6_flow 123 = .ok (.laload, 1) := by decide +kernel
theorem dX6_flow_124 : decode cX6_flow 124 = .ok (.ladd, 1) := by decide +kernel
theorem dX6_flow_125 : decode cX6_flow 125 = .ok (.lstore_n 3, 1) := by decide +kernel
theorem dX6_flow_126 : decode cX6_flow 126 = .ok (.iinc 6 1, 3) := by decide +kernel
theorem dX6_flow_129 : decode cX6_flow 129 = .ok (.goto (-69), 3) := by decide +kernel
theorem dX6_flow_132 : decode cX6_flow 132 = .ok (.iinc 5 1, 3) := by decide +kernel
theorem dX6_flow_135 : decode cX6_flow 135 = .ok (.goto (-85), 3) := by decide +kernel
theorem dX6_flow_138 : decode cX6_flow 138 = .ok (.lload_n 3, 1) := by decide +kernel
theorem dX6_flow_139 : decode cX6_flow 139 = .ok (.lreturn, 1) := by decide +kernel
theorem dX6_call_0 : decode cX6_call 0 = .ok (.aload_n 0, 1) := by decide +kernel
theorem dX6_call_1 : decode cX6_call 1 = .ok (.aload_n 0, 1) := by decide +kernel
theorem dX6_call_2 : decode cX6_call 2 = .ok (.iload_n 1, 1) := by decide +kernel
theorem dX6_call_3 : decode cX6_call 3 = .ok (.invokevirtual 92, 3) := by decide +kernel
theorem dX6_call_6 : decode cX6_call 6 = .ok (.putfield 72, 3) := by decide +kernel
theorem dX6_call_9 : decode cX6_call 9 = .ok (.aload_n 0, 1) := by decide +kernel
theorem dX6_call_10 : decode cX6_call 10 = .ok (.getfield 72, 3) := by decide +kernel
theorem dX6_call_13 : decode cX6_call 13 = .ok (.ifCond .le 5, 3) := by decide +kernel
theorem dX6_call_16 : decode cX6_call 16 = .ok (.iconst 0, 1) := by decide +kernel
theorem dX6_call_17 : decode cX6_call 17 = .ok (.ireturn, 1) := by decide +kernel
theorem dX6_call_18 : decode cX6_call 18 = .ok (.aload_n 0, 1) := by decide +kernel
theorem dX6_call_19 : decode cX6_call 19 = .ok (.iconst (-1), 1) := by decide +kernel
theorem dX6_call_20 : decode cX6_call 20 = .ok (.iconst (-1), 1) := by decide +kernel
theorem dX6_call_21 : decode cX6_call 21 = .ok (.iconst 0, 1) := by decide +kernel
theorem dX6_call_22 : decode cX6_call 22 = .ok (.invokevirtual 119, 3) := by decide +kernel
theorem dX6_call_25 : decode cX6_call 25 = .ok (.pop, 1) := by decide +kernel
theorem dX6_call_26 : decode cX6_call 26 = .ok (.aload_n 0, 1) := by decide +kernel
theorem dX6_call_27 : decode cX6_call 27 = .ok (.iload_n 1, 1) := by decide +kernel
theorem dX6_call_28 : decode cX6_call 28 = .ok (.invokevirtual 123, 3) := by decide +kernel
theorem dX6_call_31 : decode cX6_call 31 = .ok (.ifCond .ne 5, 3) := by decide +kernel
theorem dX6_call_34 : decode cX6_call 34 = .ok (.iconst (-1), 1) := by decide +kernel
theorem dX6_call_35 : decode cX6_call 35 = .ok (.ireturn, 1) := by decide +kernel
theorem dX6_call_36 : decode cX6_call 36 = .ok (.iconst 0, 1) := by decide +kernel
theorem dX6_call_37 : decode cX6_call 37 = .ok (.istore_n 2, 1) := by decide +kernel
theorem dX6_call_38 : decode cX6_call 38 = .ok (.iload_n 2, 1) := by decide +kernel
theorem dX6_call_39 : decode cX6_call 39 = .ok (.bipush 40, 2) := by decide +kernel
theorem dX6_call_41 : decode cX6_call 41 = .ok (.if_icmp .ge 21, 3) := by decide +kernel
theorem dX6_call_44 : decode cX6_call 44 = .ok (.aload_n 0, 1) := by decide +kernel
theorem dX6_call_45 : decode cX6_call 45 = .ok (.getfield 66, 3) := by decide +kernel
theorem dX6_call_48 : decode cX6_call 48 = .ok (.iload_n 2, 1) := by decide +kernel
theorem dX6_call_49 : decode cX6_call 49 = .ok (.aload_n 0, 1) := by decide +kernel
theorem dX6_call_50 : decode cX6_call 50 = .ok (.getfield 63, 3) := by decide +kernel
theorem dX6_call_53 : decode cX6_call 53 = .ok (.iload_n 2, 1) := by decide +kernel
theorem dX6_call_54 : decode cX6_call 54 = .ok (.iaload, 1) := by decide +kernel
theorem dX6_call_55 : decode cX6_call 55 = .ok (.iastore, 1) := by decide +kernel
theorem dX6_call_56 : decode cX6_call 56 = .ok (.iinc 2 1, 3) := by decide +kernel
theorem dX6_call_59 : decode cX6_call 59 = .ok (.goto (-21), 3) := by decide +kernel
theorem dX6_call_62 : decode cX6_call 62 = .ok (.aload_n 0, 1) := by decide +kernel
theorem dX6_call_63 : decode cX6_call 63 = .ok (.iconst (-1), 1) := by decide +kernel
theorem dX6_call_64 : decode cX6_call 64 = .ok (.iload_n 1, 1) := by decide +kernel
theorem dX6_call_65 : decode cX6_call 65 = .ok (.aload_n 0, 1) := by decide +kernel
theorem dX6_call_66 : decode cX6_call 66 = .ok (.getfield 66, 3) := by decide +kernel
theorem dX6_call_69 : decode cX6_call 69 = .ok (.iload_n 1, 1) := by decide +kernel
theorem dX6_call_70 : decode cX6_call 70 = .ok (.iaload, 1) := by decide +kernel
theorem dX6_call_71 : decode cX6_call 71 = .ok (.iconst 1, 1) := by decide +kernel
theorem dX6_call_72 : decode cX6_call 72 = .ok (.iadd, 1) := by decide +kernel
theorem dX6_call_73 : decode cX6_call 73 = .ok (.invokevirtual 119, 3) := by decide +kernel
theorem dX6_call_76 : decode cX6_call 76 = .ok (.ifCond .ne 5, 3) := by decide +kernel
theorem dX6_call_79 : decode cX6_call 79 = .ok (.iconst (-1), 1) := by decide +kernel
theorem dX6_call_80 : decode cX6_call 80 = .ok (.ireturn, 1) := by decide +kernel
theorem dX6_call_81 : decode cX6_call 81 = .ok (.iconst 0, 1) := by decide +kernel
theorem dX6_call_82 : decode cX6_call 82 = .ok (.istore_n 2, 1) := by decide +kernel
theorem dX6_call_83 : decode cX6_call 83 = .ok (.iload_n 2, 1) := by decide +kernel
theorem dX6_call_84 : decode cX6_call 84 = .ok (.aload_n 0, 1) := by decide +kernel
theorem dX6_call_85 : decode cX6_call 85 = .ok (.getfield 109, 3) := by decide +kernel
theorem dX6_call_88 : decode cX6_call 88 = .ok (.if_icmp .ge 34, 3) := by decide +kernel
theorem dX6_call_91 : decode cX6_call 91 = .ok (.aload_n 0, 1) := by decide +kernel
theorem dX6_call_92 : decode cX6_call 92 = .ok (.getfield 63, 3) := by decide +kernel
theorem dX6_call_95 : decode cX6_call 95 = .ok (.aload_n 0, 1) := by decide +kernel
theorem dX6_call_96 : decode cX6_call 96 = .ok (.getfield 69, 3) := by decide +kernel
theorem dX6_call_99 : decode cX6_call 99 = .ok (.iload_n 2, 1) := by decide +kernel
theorem dX6_call_100 : decode cX6_call 100 = .ok (.iaload, 1) := by decide +kernel
theorem dX6_call_101 : decode cX6_call 101 = .ok (.iaload, 1) := by decide +kernel
theorem dX6_call_102 : decode cX6_call 102 = .ok (.aload_n 0, 1) := by decide +kernel
theorem dX6_call_103 : decode cX6_call 103 = .ok (.getfield 66, 3) := by decide +kernel
theorem dX6_call_106 : decode cX6_call 106 = .ok (.aload_n 0, 1) := by decide +kernel
theorem dX6_call_107 : decode cX6_call 107 = .ok (.getfield 69, 3) := by decide +kernel
theorem dX6_call_110 : decode cX6_call 110 = .ok (.iload_n 2, 1) := by decide +kernel
theorem dX6_call_111 : decode cX6_call 111 = .ok (.iaload, 1) := by decide +kernel
theorem dX6_call_112 : decode cX6_call 112 = .ok (.iaload, 1) := by decide +kernel
theorem dX6_call_113 : decode cX6_call 113 = .ok (.if_icmp .lt 9, 3) := by decide +kernel
theorem dX6_call_116 : decode cX6_call 116 = .ok (.iinc 2 1, 3) := by decide +kernel
theorem dX6_call_119 : decode cX6_call 119 = .ok (.goto (-36), 3) := by decide +kernel
theorem dX6_call_122 : decode cX6_call 122 = .ok (.iload_n 2, 1) := by decide +kernel
theorem dX6_call_123 : decode cX6_call 123 = .ok (.aload_n 0, 1) := by decide +kernel
theorem dX6_call_124 : decode cX6_call 124 = .ok (.getfield 109, 3) := by decide +kernel
theorem dX6_call_127 : decode cX6_call 127 = .ok (.if_icmp .ge 12, 3) := by decide +kernel
theorem dX6_call_130 : decode cX6_call 130 = .ok (.aload_n 0, 1) := by decide +kernel
theorem dX6_call_131 : decode cX6_call 131 = .ok (.getfield 69, 3) := by decide +kernel
theorem dX6_call_134 : decode cX6_call 134 = .ok (.iload_n 2, 1) := by decide +kernel
theorem dX6_call_135 : decode cX6_call 135 = .ok (.iaload, 1) := by decide +kernel
theorem dX6_call_136 : decode cX6_call 136 = .ok (.goto 4, 3) := by decide +kernel
theorem dX6_call_139 : decode cX6_call 139 = .ok (.iconst (-1), 1) := by decide +kernel
theorem dX6_call_140 : decode cX6_call 140 = .ok (.ireturn, 1) := by decide +kernel
theorem dX6_futile_0 : decode cX6_futile 0 = .ok (.aload_n 0, 1) := by decide +kernel
theorem dX6_futile_1 : decode cX6_futile 1 = .ok (.iload_n 1, 1) := by decide +kernel
theorem dX6_futile_2 : decode cX6_futile 2 = .ok (.bipush 40, 2) := by decide +kernel
theorem dX6_futile_4 : decode cX6_futile 4 = .ok (.invokestatic 76, 3) := by decide +kernel
theorem dX6_futile_7 : decode cX6_futile 7 = .ok (.ifCond .eq 12, 3) := by decide +kernel
theorem dX6_futile_10 : decode cX6_futile 10 = .ok (.iload_n 2, 1) := by decide +kernel
theorem dX6_futile_11 : decode cX6_futile 11 = .ok (.bipush 40, 2) := by decide +kernel
theorem dX6_futile_13 : decode cX6_futile 13 = .ok (.invokestatic 76, 3) := by decide +kernel
theorem dX6_futile_16 : decode cX6_futile 16 = .ok (.ifCond .ne 7, 3) := by decide +kernel
theorem dX6_futile_19 : decode cX6_futile 19 = .ok (.iconst 1, 1) := by decide +kernel
theorem dX6_futile_20 : decode cX6_futile 20 = .ok (.goto 26, 3) := by decide +kernel
theorem dX6_futile_23 : decode cX6_futile 23 = .ok (.aload_n 0, 1) := by decide +kernel
theorem dX6_futile_24 : decode cX6_futile 24 = .ok (.getfield 36, 3) := by decide +kernel
theorem dX6_futile_27 : decode cX6_futile 27 = .ok (.iload_n 1, 1) := by decide +kernel
theorem dX6_futile_28 : decode cX6_futile 28 = .ok (.baload, 1) := by decide +kernel
theorem dX6_futile_29 : decode cX6_futile 29 = .ok (.ifCond .eq 12, 3) := by decide +kernel
theorem dX6_futile_32 : decode cX6_futile 32 = .ok (.aload_n 0, 1) := by decide +kernel
theorem dX6_futile_33 : decode cX6_futile 33 = .ok (.getfield 36, 3) := by decide +kernel
theorem dX6_futile_36 : decode cX6_futile 36 = .ok (.iload_n 2, 1) := by decide +kernel
theorem dX6_futile_37 : decode cX6_futile 37 = .ok (.baload, 1) := by decide +kernel
theorem dX6_futile_38 : decode cX6_futile 38 = .ok (.ifCond .ne 7, 3) := by decide +kernel
theorem dX6_futile_41 : decode cX6_futile 41 = .ok (.iconst 2, 1) := by decide +kernel
theorem dX6_futile_42 : decode cX6_futile 42 = .ok (.goto 4, 3) := by decide +kernel
theorem dX6_futile_45 : decode cX6_futile 45 = .ok (.iconst 0, 1) := by decide +kernel
theorem dX6_futile_46 : decode cX6_futile 46 = .ok (.putfield 72, 3) := by decide +kernel
theorem dX6_futile_49 : decode cX6_futile 49 = .ok (.aload_n 0, 1) := by decide +kernel
theorem dX6_futile_50 : decode cX6_futile 50 = .ok (.getfield 72, 3) := by decide +kernel
theorem dX6_futile_53 : decode cX6_futile 53 = .ok (.ifCond .le 5, 3) := by decide +kernel
theorem dX6_futile_56 : decode cX6_futile 56 = .ok (.iconst 0, 1) := by decide +kernel
theorem dX6_futile_57 : decode cX6_futile 57 = .ok (.ireturn, 1) := by decide +kernel
theorem dX6_futile_58 : decode cX6_futile 58 = .ok (.aload_n 0, 1) := by decide +kernel
theorem dX6_futile_59 : decode cX6_futile 59 = .ok (.iconst (-1), 1) := by decide +kernel
theorem dX6_futile_60 : decode cX6_futile 60 = .ok (.iconst (-1), 1) := by decide +kernel
theorem dX6_futile_61 : decode cX6_futile 61 = .ok (.iconst 0, 1) := by decide +kernel
theorem dX6_futile_62 : decode cX6_futile 62 = .ok (.invokevirtual 119, 3) := by decide +kernel
theorem dX6_futile_65 : decode cX6_futile 65 = .ok (.pop, 1) := by decide +kernel
theorem dX6_futile_66 : decode cX6_futile 66 = .ok (.aload_n 0, 1) := by decide +kernel
theorem dX6_futile_67 : decode cX6_futile 67 = .ok (.getfield 63, 3) := by decide +kernel
theorem dX6_futile_70 : decode cX6_futile 70 = .ok (.iload_n 2, 1) := by decide +kernel
theorem dX6_futile_71 : decode cX6_futile 71 = .ok (.iaload, 1) := by decide +kernel
theorem dX6_futile_72 : decode cX6_futile 72 = .ok (.istore_n 3, 1) := by decide +kernel
theorem dX6_futile_73 : decode cX6_futile 73 = .ok (.aload_n 0, 1) := by decide +kernel
theorem dX6_futile_74 : decode cX6_futile 74 = .ok (.iload_n 1, 1) := by decide +kernel
theorem dX6_futile_75 : decode cX6_futile 75 = .ok (.iconst (-1), 1) := by decide +kernel
theorem dX6_futile_76 : decode cX6_futile 76 = .ok (.iconst 0, 1) := by decide +kernel
theorem dX6_futile_77 : decode cX6_futile 77 = .ok (.invokevirtual 119, 3) := by decide +kernel
theorem dX6_futile_80 : decode cX6_futile 80 = .ok (.pop, 1) := by decide +kernel
theorem dX6_futile_81 : decode cX6_futile 81 = .ok (.aload_n 0, 1) := by decide +kernel
theorem dX6_futile_82 : decode cX6_futile 82 = .ok (.getfield 63, 3) := by decide +kernel
theorem dX6_futile_85 : decode cX6_futile 85 = .ok (.iload_n 2, 1) := by decide +kernel
theorem dX6_futile_86 : decode cX6_futile 86 = .ok (.iaload, 1) := by decide +kernel
theorem dX6_futile_87 : decode cX6_futile 87 = .ok (.iload_n 3, 1) := by decide +kernel
theorem dX6_futile_88 : decode cX6_futile 88 = .ok (.if_icmp .ne 7, 3) := by decide +kernel
theorem dX6_futile_91 : decode cX6_futile 91 = .ok (.iconst 1, 1) := by decide +kernel
theorem dX6_futile_92 : decode cX6_futile 92 = .ok (.goto 4, 3) := by decide +kernel
theorem dX6_futile_95 : decode cX6_futile 95 = .ok (.iconst 0, 1) := by decide +kernel
theorem dX6_futile_96 : decode cX6_futile 96 = .ok (.ireturn, 1) := by decide +kernel
theorem dX6_close_0 : decode cX6_close 0 = .ok (.aload_n 0, 1) := by decide +kernel
theorem dX6_close_1 : decode cX6_close 1 = .ok (.iconst 0, 1) := by decide +kernel
theorem dX6_close_2 : decode cX6_close 2 = .ok (.putfield 72, 3) := by decide +kernel
theorem dX6_close_5 : decode cX6_close 5 = .ok (.aload_n 0, 1) := by decide +kernel
theorem dX6_close_6 : decode cX6_close 6 = .ok (.iconst (-1), 1) := by decide +kernel
theorem dX6_close_7 : decode cX6_close 7 = .ok (.iconst (-1), 1) := by decide +kernel
theorem dX6_close_8 : decode cX6_close 8 = .ok (.iconst 0, 1) := by decide +kernel
theorem dX6_close_9 : decode cX6_close 9 = .ok (.invokevirtual 119, 3) := by decide +kernel
theorem dX6_close_12 : decode cX6_close 12 = .ok (.pop, 1) := by decide +kernel
theorem dX6_close_13 : decode cX6_close 13 = .ok (.iconst 5, 1) := by decide +kernel
theorem dX6_close_14 : decode cX6_close 14 = .ok (.aload_n 0, 1) := by decide +kernel
theorem dX6_close_15 : decode cX6_close 15 = .ok (.getfield 128, 3) := by decide +kernel
theorem dX6_close_18 : decode cX6_close 18 = .ok (.bipush 60, 2) := by decide +kernel
theorem dX6_close_20 : decode cX6_close 20 = .ok (.irem, 1) := by decide +kernel
theorem dX6_close_21 : decode cX6_close 21 = .ok (.imul, 1) := by decide +kernel
theorem dX6_close_22 : decode cX6_close 22 = .ok (.istore_n 1, 1) := by decide +kernel
theorem dX6_close_23 : decode cX6_close 23 = .ok (.iconst 0, 1) := by decide +kernel
theorem dX6_close_24 : decode cX6_close 24 = .ok (.istore_n 2, 1) := by decide +kernel
theorem dX6_close_25 : decode cX6_close 25 = .ok (.iload_n 2, 1) := by decide +kernel
theorem dX6_close_26 : decode cX6_close 26 = .ok (.iconst 5, 1) := by decide +kernel
theorem dX6_close_27 : decode cX6_close 27 = .ok (.if_icmp .ge 18, 3) := by decide +kernel
theorem dX6_close_30 : decode cX6_close 30 = .ok (.aload_n 0, 1) := by decide +kernel
theorem dX6_close_31 : decode cX6_close 31 = .ok (.getfield 60, 3) := by decide +kernel
theorem dX6_close_34 : decode cX6_close 34 = .ok (.iload_n 1, 1) := by decide +kernel
theorem dX6_close_35 : decode cX6_close 35 = .ok (.iload_n 2, 1) := by decide +kernel
theorem dX6_close_36 : decode cX6_close 36 = .ok (.iadd, 1) := by decide +kernel
theorem dX6_close_37 : decode cX6_close 37 = .ok (.lconst 0, 1) := by decide +kernel
theorem dX6_close_38 : decode cX6_close 38 = .ok (.lastore, 1) := by decide +kernel
theorem dX6_close_39 : decode cX6_close 39 = .ok (.iinc 2 1, 3) := by decide +kernel
theorem dX6_close_42 : decode cX6_close 42 = .ok (.goto (-17), 3) := by decide +kernel
theorem dX6_close_45 : decode cX6_close 45 = .ok (.iconst 0, 1) := by decide +kernel
theorem dX6_close_46 : decode cX6_close 46 = .ok (.istore_n 2, 1) := by decide +kernel
theorem dX6_close_47 : decode cX6_close 47 = .ok (.iload_n 2, 1) := by decide +kernel
theorem dX6_close_48 : decode cX6_close 48 = .ok (.bipush 32, 2) := by decide +kernel
theorem dX6_close_50 : decode cX6_close 50 = .ok (.if_icmp .ge 60, 3) := by decide +kernel
theorem dX6_close_53 : decode cX6_close 53 = .ok (.aload_n 0, 1) := by decide +kernel
theorem dX6_close_54 : decode cX6_close 54 = .ok (.getfield 7, 3) := by decide +kernel
theorem dX6_close_57 : decode cX6_close 57 = .ok (.iload_n 2, 1) := by decide +kernel
theorem dX6_close_58 : decode cX6_close 58 = .ok (.baload, 1) := by decide +kernel
theorem dX6_close_59 : decode cX6_close 59 = .ok (.ifCond .ne 6, 3) := by decide +kernel
theorem dX6_close_62 : decode cX6_close 62 = .ok (.goto 42, 3) := by decide +kernel
theorem dX6_close_65 : decode cX6_close 65 = .ok (.aload_n 0, 1) := by decide +kernel
theorem dX6_close_66 : decode cX6_close 66 = .ok (.getfield 60, 3) := by decide +kernel
theorem dX6_close_69 : decode cX6_close 69 = .ok (.iload_n 1, 1) := by decide +kernel
theorem dX6_close_70 : decode cX6_close 70 = .ok (.dup2, 1) := by decide +kernel
theorem dX6_close_71 : decode cX6_close 71 = .ok (.laload, 1) := by decide +kernel
theorem dX6_close_72 : decode cX6_close 72 = .ok (.aload_n 0, 1) := by decide +kernel
theorem dX6_close_73 : decode cX6_close 73 = .ok (.getfield 17, 3) := by decide +kernel
theorem dX6_close_76 : decode cX6_close 76 = .ok (.iload_n 2, 1) := by decide +kernel
theorem dX6_close_77 : decode cX6_close 77 = .ok (.iaload, 1) := by decide +kernel
theorem dX6_close_78 : decode cX6_close 78 = .ok (.i2l, 1) := by decide +kernel
theorem dX6_close_79 : decode cX6_close 79 = .ok (.ladd, 1) := by decide +kernel
theorem dX6_close_80 : decode cX6_close 80 = .ok (.lastore, 1) := by decide +kernel
theorem dX6_close_81 : decode cX6_close 81 = .ok (.aload_n 0, 1) := by decide +kernel
theorem dX6_close_82 : decode cX6_close 82 = .ok (.getfield 13, 3) := by decide +kernel
theorem dX6_close_85 : decode cX6_close 85 = .ok (.iload_n 2, 1) := by decide +kernel
theorem dX6_close_86 : decode cX6_close 86 = .ok (.iaload, 1) := by decide +kernel
theorem dX6_close_87 : decode cX6_close 87 = .ok (.iconst (-1), 1) := by decide +kernel
theorem dX6_close_88 : decode cX6_close 88 = .ok (.if_icmp .ne 16, 3) := by decide +kernel
theorem dX6_close_91 : decode cX6_close 91 = .ok (.aload_n 0, 1) := by decide +kernel
theorem dX6_close_92 : decode cX6_close 92 = .ok (.getfield 60, 3) := by decide +kernel
theorem dX6_close_95 : decode cX6_close 95 = .ok (.iload_n 1, 1) := by decide +kernel
theorem dX6_close_96 : decode cX6_close 96 = .ok (.iconst 1, 1) := by decide +kernel
theorem dX6_close_97 : decode cX6_close 97 = .ok (.iadd, 1) := by decide +kernel
theorem dX6_close_98 : decode cX6_close 98 = .ok (.aload_n 0, 1) := by decide +kernel
theorem dX6_close_99 : decode cX6_close 99 = .ok (.iload_n 2, 1) := by decide +kernel
theorem dX6_close_100 : decode cX6_close 100 = .ok (.invokevirtual 105, 3) := by decide +kernel
theorem dX6_close_103 : decode cX6_close 103 = .ok (.lastore, 1) := by decide +kernel
theorem dX6_close_104 : decode cX6_close 104 = .ok (.iinc 2 1, 3) := by decide +kernel
theorem dX6_close_107 : decode cX6_close 107 = .ok (.goto (-60), 3) := by decide +kernel
theorem dX6_close_110 : decode cX6_close 110 = .ok (.iconst 0, 1) := by decide +kernel
theorem dX6_close_111 : decode cX6_close 111 = .ok (.istore_n 2, 1) := by decide +kernel
theorem dX6_close_112 : decode cX6_close 112 = .ok (.iload_n 2, 1) := by decide +kernel
theorem dX6_close_113 : decode cX6_close 113 = .ok (.sipush 256, 3) := by decide +kernel
theorem dX6_close_116 : decode cX6_close 116 = .ok (.if_icmp .ge 33, 3) := by decide +kernel
theorem dX6_close_119 : decode cX6_close 119 = .ok (.aload_n 0, 1) := by decide +kernel
theorem dX6_close_120 : decode cX6_close 120 = .ok (.getfield 60, 3) := by decide +kernel
theorem dX6_close_123 : decode cX6_close 123 = .ok (.iload_n 1, 1) := by decide +kernel
theorem dX6_close_124 : decode cX6_close 124 = .ok (.iconst 4, 1) := by decide +kernel
theorem dX6_close_125 : decode cX6_close 125 = .ok (.iadd, 1) := by decide +kernel
theorem dX6_close_126 : decode cX6_close 126 = .ok (.dup2, 1) := by decide +kernel
theorem dX6_close_127 : decode cX6_close 127 = .ok (.laload, 1) := by decide +kernel
theorem dX6_close_128 : decode cX6_close 128 = .ok (.aload_n 0, 1) := by decide +kernel
theorem dX6_close_129 : decode cX6_close 129 = .ok (.getfield 32, 3) := by decide +kernel
theorem dX6_close_132 : decode cX6_close 132 = .ok (.iload_n 2, 1) := by decide +kernel
theorem dX6_close_133 : decode cX6_close 133 = .ok (.laload, 1) := by decide +kernel
theorem dX6_close_134 : decode cX6_close 134 = .ok (.ladd, 1) := by decide +kernel
theorem dX6_close_135 : decode cX6_close 135 = .ok (.lastore, 1) := by decide +kernel
theorem dX6_close_136 : decode cX6_close 136 = .ok (.aload_n 0, 1) := by decide +kernel
theorem dX6_close_137 : decode cX6_close 137 = .ok (.getfield 32, 3) := by decide +kernel
theorem dX6_close_140 : decode cX6_close 140 = .ok (.iload_n 2, 1) := by decide +kernel
theorem dX6_close_141 : decode cX6_close 141 = .ok (.lconst 0, 1) := by decide +kernel
theorem dX6_close_142 : decode cX6_close 142 = .ok (.lastore, 1) := by decide +kernel
theorem dX6_close_143 : decode cX6_close 143 = .ok (.iinc 2 1, 3) := by decide +kernel
theorem dX6_close_146 : decode cX6_close 146 = .ok (.goto (-34), 3) := by decide +kernel
theorem dX6_close_149 : decode cX6_close 149 = .ok (.aload_n 0, 1) := by decide +kernel
theorem dX6_close_150 : decode cX6_close 150 = .ok (.getfield 60, 3) := by decide +kernel
theorem dX6_close_153 : decode cX6_close 153 = .ok (.iload_n 1, 1) := by decide +kernel
theorem dX6_close_154 : decode cX6_close 154 = .ok (.iconst 2, 1) := by decide +kernel
theorem dX6_close_155 : decode cX6_close 155 = .ok (.iadd, 1) := by decide +kernel
theorem dX6_close_156 : decode cX6_close 156 = .ok (.aload_n 0, 1) := by decide +kernel
theorem dX6_close_157 : decode cX6_close 157 = .ok (.getfield 60, 3) := by decide +kernel
theorem dX6_close_160 : decode cX6_close 160 = .ok (.iload_n 1, 1) := by decide +kernel
theorem dX6_close_161 : decode cX6_close 161 = .ok (.iconst 4, 1) := by decide +kernel
theorem dX6_close_162 : decode cX6_close 162 = .ok (.iadd, 1) := by decide +kernel
theorem dX6_close_163 : decode cX6_close 163 = .ok (.laload, 1) := by decide +kernel
theorem dX6_close_164 : decode cX6_close 164 = .ok (.lastore, 1) := by decide +kernel
theorem dX6_close_165 : decode cX6_close 165 = .ok (.iconst 0, 1) := by decide +kernel
theorem dX6_close_166 : decode cX6_close 166 = .ok (.istore_n 2, 1) := by decide +kernel
theorem dX6_close_167 : decode cX6_close 167 = .ok (.iload_n 2, 1) := by decide +kernel
theorem dX6_close_168 : decode cX6_close 168 = .ok (.bipush 40, 2) := by decide +kernel
theorem dX6_close_170 : decode cX6_close 170 = .ok (.if_icmp .ge 114, 3) := by decide +kernel
theorem dX6_close_173 : decode cX6_close 173 = .ok (.aload_n 0, 1) := by decide +kernel
theorem dX6_close_174 : decode cX6_close 174 = .ok (.getfield 36, 3) := by decide +kernel
theorem dX6_close_177 : decode cX6_close 177 = .ok (.iload_n 2, 1) := by decide +kernel
theorem dX6_close_178 : decode cX6_close 178 = .ok (.baload, 1) := by decide +kernel
theorem dX6_close_179 : decode cX6_close 179 = .ok (.ifCond .ne 6, 3) := by decide +kernel
theorem dX6_close_182 : decode cX6_close 182 = .ok (.goto 96, 3) := by decide +kernel
theorem dX6_close_185 : decode cX6_close 185 = .ok (.aload_n 0, 1) := by decide +kernel
theorem dX6_close_186 : decode cX6_close 186 = .ok (.getfield 54, 3) := by decide +kernel
theorem dX6_close_189 : decode cX6_close 189 = .ok (.iload_n 2, 1) := by decide +kernel
theorem dX6_close_190 : decode cX6_close 190 = .ok (.iaload, 1) := by decide +kernel
theorem dX6_close_191 : decode cX6_close 191 = .ok (.ifCond .ge 37, 3) := by decide +kernel
theorem dX6_close_194 : decode cX6_close 194 = .ok (.aload_n 0, 1) := by decide +kernel
theorem dX6_close_195 : decode cX6_close 195 = .ok (.getfield 60, 3) := by decide +kernel
theorem dX6_close_198 : decode cX6_close 198 = .ok (.iload_n 1, 1) := by decide +kernel
theorem dX6_close_199 : decode cX6_close 199 = .ok (.iconst 2, 1) := by decide +kernel
theorem dX6_close_200 : decode cX6_close 200 = .ok (.iadd, 1) := by decide +kernel
theorem dX6_close_201 : decode cX6_close 201 = .ok (.dup2, 1) := by decide +kernel
theorem dX6_close_202 : decode cX6_close 202 = .ok (.laload, 1) := by decide +kernel
theorem dX6_close_203 : decode cX6_close 203 = .ok (.aload_n 0, 1) := by decide +kernel
theorem dX6_close_204 : decode cX6_close 204 = .ok (.getfield 63, 3) := by decide +kernel
theorem dX6_close_207 : decode cX6_close 207 = .ok (.iload_n 2, 1) := by decide +kernel
theorem dX6_close_208 : decode cX6_close 208 = .ok (.iaload, 1) := by decide +kernel
theorem dX6_close_209 : decode cX6_close 209 = .ok (.i2l, 1) := by decide +kernel
theorem dX6_close_210 : decode cX6_close 210 = .ok (.aload_n 0, 1) := by decide +kernel
theorem dX6_close_211 : decode cX6_close 211 = .ok (.iload_n 2, 1) := by decide +kernel
theorem dX6_close_212 : decode cX6_close 212 = .ok (.aload_n 0, 1) := by decide +kernel
theorem dX6_close_213 : decode cX6_close 213 = .ok (.getfield 63, 3) := by decide +kernel
theorem dX6_close_216 : decode cX6_close 216 = .ok (.iload_n 2, 1) := by decide +kernel
theorem dX6_close_217 : decode cX6_close 217 = .ok (.iaload, 1) := by decide +kernel
theorem dX6_close_218 : decode cX6_close 218 = .ok (.i2l, 1) := by decide +kernel
theorem dX6_close_219 : decode cX6_close 219 = .ok (.invokevirtual 101, 3) := by decide +kernel
theorem dX6_close_222 : decode cX6_close 222 = .ok (.lsub, 1) := by decide +kernel
theorem dX6_close_223 : decode cX6_close 223 = .ok (.ladd, 1) := by decide +kernel
theorem dX6_close_224 : decode cX6_close 224 = .ok (.lastore, 1) := by decide +kernel
theorem dX6_close_225 : decode cX6_close 225 = .ok (.goto 41, 3) := by decide +kernel
theorem dX6_close_228 : decode cX6_close 228 = .ok (.aload_n 0, 1) := by decide +kernel
theorem dX6_close_229 : decode cX6_close 229 = .ok (.getfield 60, 3) := by decide +kernel
theorem dX6_close_232 : decode cX6_close 232 = .ok (.iload_n 1, 1) := by decide +kernel
theorem dX6_close_233 : decode cX6_close 233 = .ok (.iconst 3, 1) := by decide +kernel
theorem dX6_close_234 : decode cX6_close 234 = .ok (.iadd, 1) := by decide +kernel
theorem dX6_close_235 : decode cX6_close 235 = .ok (.dup2, 1) := by decide +kernel
theorem dX6_close_236 : decode cX6_close 236 = .ok (.laload, 1) := by decide +kernel
theorem dX6_close_237 : decode cX6_close 237 = .ok (.aload_n 0, 1) := by decide +kernel
theorem dX6_close_238 : decode cX6_close 238 = .ok (.getfield 63, 3) := by decide +kernel
theorem dX6_close_241 : decode cX6_close 241 = .ok (.iload_n 2, 1) := by decide +kernel
theorem dX6_close_242 : decode cX6_close 242 = .ok (.iaload, 1) := by decide +kernel
theorem dX6_close_243 : decode cX6_close 243 = .ok (.i2l, 1) := by decide +kernel
theorem dX6_close_244 : decode cX6_close 244 = .ok (.ladd, 1) := by decide +kernel
theorem dX6_close_245 : decode cX6_close 245 = .ok (.lastore, 1) := by decide +kernel
theorem dX6_close_246 : decode cX6_close 246 = .ok (.aload_n 0, 1) := by decide +kernel
theorem dX6_close_247 : decode cX6_close 247 = .ok (.getfield 29, 3) := by decide +kernel
theorem dX6_close_250 : decode cX6_close 250 = .ok (.aload_n 0, 1) := by decide +kernel
theorem dX6_close_251 : decode cX6_close 251 = .ok (.getfield 54, 3) := by decide +kernel
theorem dX6_close_254 : decode cX6_close 254 = .ok (.iload_n 2, 1) := by decide +kernel
theorem dX6_close_255 : decode cX6_close 255 = .ok (.iaload, 1) := by decide +kernel
theorem dX6_close_256 : decode cX6_close 256 = .ok (.dup2, 1) := by decide +kernel
theorem dX6_close_257 : decode cX6_close 257 = .ok (.iaload, 1) := by decide +kernel
theorem dX6_close_258 : decode cX6_close 258 = .ok (.aload_n 0, 1) := by decide +kernel
theorem dX6_close_259 : decode cX6_close 259 = .ok (.getfield 63, 3) := by decide +kernel
theorem dX6_close_262 : decode cX6_close 262 = .ok (.iload_n 2, 1) := by decide +kernel
theorem dX6_close_263 : decode cX6_close 263 = .ok (.iaload, 1) := by decide +kernel
theorem dX6_close_264 : decode cX6_close 264 = .ok (.iadd, 1) := by decide +kernel
theorem dX6_close_265 : decode cX6_close 265 = .ok (.iastore, 1) := by decide +kernel
theorem dX6_close_266 : decode cX6_close 266 = .ok (.aload_n 0, 1) := by decide +kernel
theorem dX6_close_267 : decode cX6_close 267 = .ok (.getfield 57, 3) := by decide +kernel
theorem dX6_close_270 : decode cX6_close 270 = .ok (.iload_n 2, 1) := by decide +kernel
theorem dX6_close_271 : decode cX6_close 271 = .ok (.aload_n 0, 1) := by decide +kernel
theorem dX6_close_272 : decode cX6_close 272 = .ok (.getfield 45, 3) := by decide +kernel
theorem dX6_close_275 : decode cX6_close 275 = .ok (.iload_n 2, 1) := by decide +kernel
theorem dX6_close_276 : decode cX6_close 276 = .ok (.iaload, 1) := by decide +kernel
theorem dX6_close_277 : decode cX6_close 277 = .ok (.iastore, 1) := by decide +kernel
theorem dX6_close_278 : decode cX6_close 278 = .ok (.iinc 2 1, 3) := by decide +kernel
theorem dX6_close_281 : decode cX6_close 281 = .ok (.goto (-114), 3) := by decide +kernel
theorem dX6_close_284 : decode cX6_close 284 = .ok (.iconst 0, 1) := by decide +kernel
theorem dX6_close_285 : decode cX6_close 285 = .ok (.istore_n 2, 1) := by decide +kernel
theorem dX6_close_286 : decode cX6_close 286 = .ok (.iload_n 2, 1) := by decide +kernel
theorem dX6_close_287 : decode cX6_close 287 = .ok (.bipush 32, 2) := by decide +kernel
theorem dX6_close_289 : decode cX6_close 289 = .ok (.if_icmp .ge 16, 3) := by decide +kernel
theorem dX6_close_292 : decode cX6_close 292 = .ok (.aload_n 0, 1) := by decide +kernel
theorem dX6_close_293 : decode cX6_close 293 = .ok (.getfield 17, 3) := by decide +kernel
theorem dX6_close_296 : decode cX6_close 296 = .ok (.iload_n 2, 1) := by decide +kernel
theorem dX6_close_297 : decode cX6_close 297 = .ok (.iconst 0, 1) := by decide +kernel
theorem dX6_close_298 : decode cX6_close 298 = .ok (.iastore, 1) := by decide +kernel
theorem dX6_close_299 : decode cX6_close 299 = .ok (.iinc 2 1, 3) := by decide +kernel
theorem dX6_close_302 : decode cX6_close 302 = .ok (.goto (-16), 3) := by decide +kernel
theorem dX6_close_305 : decode cX6_close 305 = .ok (.aload_n 0, 1) := by decide +kernel
theorem dX6_close_306 : decode cX6_close 306 = .ok (.dup, 1) := by decide +kernel
theorem dX6_close_307 : decode cX6_close 307 = .ok (.getfield 128, 3) := by decide +kernel
theorem dX6_close_310 : decode cX6_close 310 = .ok (.iconst 1, 1) := by decide +kernel
theorem dX6_close_311 : decode cX6_close 311 = .ok (.iadd, 1) := by decide +kernel
theorem dX6_close_312 : decode cX6_close 312 = .ok (.putfield 128, 3) := by decide +kernel
theorem dX6_close_315 : decode cX6_close 315 = .ok (.aload_n 0, 1) := by decide +kernel
theorem dX6_close_316 : decode cX6_close 316 = .ok (.getfield 128, 3) := by decide +kernel
theorem dX6_close_319 : decode cX6_close 319 = .ok (.ireturn, 1) := by decide +kernel
theorem dX6_held_0 : decode cX6_held 0 = .ok (.aload_n 0, 1) := by decide +kernel
theorem dX6_held_1 : decode cX6_held 1 = .ok (.iconst 0, 1) := by decide +kernel
theorem dX6_held_2 : decode cX6_held 2 = .ok (.putfield 72, 3) := by decide +kernel
theorem dX6_held_5 : decode cX6_held 5 = .ok (.iload_n 1, 1) := by decide +kernel
theorem dX6_held_6 : decode cX6_held 6 = .ok (.bipush 8, 2) := by decide +kernel
theorem dX6_held_8 : decode cX6_held 8 = .ok (.invokestatic 76, 3) := by decide +kernel
theorem dX6_held_11 : decode cX6_held 11 = .ok (.ifCond .eq 12, 3) := by decide +kernel
theorem dX6_held_14 : decode cX6_held 14 = .ok (.aload_n 0, 1) := by decide +kernel
theorem dX6_held_15 : decode cX6_held 15 = .ok (.getfield 20, 3) := by decide +kernel
theorem dX6_held_18 : decode cX6_held 18 = .ok (.iload_n 1, 1) := by decide +kernel
theorem dX6_held_19 : decode cX6_held 19 = .ok (.baload, 1) := by decide +kernel
theorem dX6_held_20 : decode cX6_held 20 = .ok (.ifCond .ne 5, 3) := by decide +kernel
theorem dX6_held_23 : decode cX6_held 23 = .ok (.iconst (-1), 1) := by decide +kernel
theorem dX6_held_24 : decode cX6_held 24 = .ok (.ireturn, 1) := by decide +kernel
theorem dX6_held_25 : decode cX6_held 25 = .ok (.iload_n 2, 1) := by decide +kernel
theorem dX6_held_26 : decode cX6_held 26 = .ok (.ifCond .ne 12, 3) := by decide +kernel
theorem dX6_held_29 : decode cX6_held 29 = .ok (.aload_n 0, 1) := by decide +kernel
theorem dX6_held_30 : decode cX6_held 30 = .ok (.getfield 29, 3) := by decide +kernel
theorem dX6_held_33 : decode cX6_held 33 = .ok (.iload_n 1, 1) := by decide +kernel
theorem dX6_held_34 : decode cX6_held 34 = .ok (.iaload, 1) := by decide +kernel
theorem dX6_held_35 : decode cX6_held 35 = .ok (.goto 32, 3) := by decide +kernel
theorem dX6_held_38 : decode cX6_held 38 = .ok (.iload_n 2, 1) := by decide +kernel
theorem dX6_held_39 : decode cX6_held 39 = .ok (.iconst 1, 1) := by decide +kernel
theorem dX6_held_40 : decode cX6_held 40 = .ok (.if_icmp .ne 12, 3) := by decide +kernel
theorem dX6_held_43 : decode cX6_held 43 = .ok (.aload_n 0, 1) := by decide +kernel
theorem dX6_held_44 : decode cX6_held 44 = .ok (.getfield 26, 3) := by decide +kernel
theorem dX6_held_47 : decode cX6_held 47 = .ok (.iload_n 1, 1) := by decide +kernel
theorem dX6_held_48 : decode cX6_held 48 = .ok (.iaload, 1) := by decide +kernel
theorem dX6_held_49 : decode cX6_held 49 = .ok (.goto 18, 3) := by decide +kernel
theorem dX6_held_52 : decode cX6_held 52 = .ok (.iload_n 2, 1) := by decide +kernel
theorem dX6_held_53 : decode cX6_held 53 = .ok (.iconst 2, 1) := by decide +kernel
theorem dX6_held_54 : decode cX6_held 54 = .ok (.if_icmp .ne 12, 3) := by decide +kernel
theorem dX6_held_57 : decode cX6_held 57 = .ok (.aload_n 0, 1) := by decide +kernel
theorem dX6_held_58 : decode cX6_held 58 = .ok (.getfield 23, 3) := by decide +kernel
theorem dX6_held_61 : decode cX6_held 61 = .ok (.iload_n 1, 1) := by decide +kernel
theorem dX6_held_62 : decode cX6_held 62 = .ok (.iaload, 1) := by decide +kernel
theorem dX6_held_63 : decode cX6_held 63 = .ok (.goto 4, 3) := by decide +kernel
theorem dX6_held_66 : decode cX6_held 66 = .ok (.iconst (-1), 1) := by decide +kernel
theorem dX6_held_67 : decode cX6_held 67 = .ok (.ireturn, 1) := by decide +kernel
theorem dX6_book_0 : decode cX6_book 0 = .ok (.aload_n 0, 1) := by decide +kernel
theorem dX6_book_1 : decode cX6_book 1 = .ok (.iconst 0, 1) := by decide +kernel
theorem dX6_book_2 : decode cX6_book 2 = .ok (.putfield 72, 3) := by decide +kernel
theorem dX6_book_5 : decode cX6_book 5 = .ok (.iload_n 1, 1) := by decide +kernel
theorem dX6_book_6 : decode cX6_book 6 = .ok (.ifCond .lt 31, 3) := by decide +kernel
theorem dX6_book_9 : decode cX6_book 9 = .ok (.iload_n 1, 1) := by decide +kernel
theorem dX6_book_10 : decode cX6_book 10 = .ok (.aload_n 0, 1) := by decide +kernel
theorem dX6_book_11 : decode cX6_book 11 = .ok (.getfield 128, 3) := by decide +kernel
theorem dX6_book_14 : decode cX6_book 14 = .ok (.if_icmp .ge 23, 3) := by decide +kernel
theorem dX6_book_17 : decode cX6_book 17 = .ok (.iload_n 1, 1) := by decide +kernel
theorem dX6_book_18 : decode cX6_book 18 = .ok (.aload_n 0, 1) := by decide +kernel
theorem dX6_book_19 : decode cX6_book 19 = .ok (.getfield 128, 3) := by decide +kernel
theorem dX6_book_22 : decode cX6_book 22 = .ok (.bipush 60, 2) := by decide +kernel
theorem dX6_book_24 : decode cX6_book 24 = .ok (.isub, 1) := by decide +kernel
theorem dX6_book_25 : decode cX6_book 25 = .ok (.if_icmp .lt 12, 3) := by decide +kernel
theorem dX6_book_28 : decode cX6_book 28 = .ok (.iload_n 2, 1) := by decide +kernel
theorem dX6_book_29 : decode cX6_book 29 = .ok (.ifCond .lt 8, 3) := by decide +kernel
theorem dX6_book_32 : decode cX6_book 32 = .ok (.iload_n 2, 1) := by decide +kernel
theorem dX6_book_33 : decode cX6_book 33 = .ok (.iconst 4, 1) := by decide +kernel
theorem dX6_book_34 : decode cX6_book 34 = .ok (.if_icmp .le 9, 3) := by decide +kernel
theorem dX6_book_37 : decode cX6_book 37 = .ok (.ldc2_w 126, 3) := by decide +kernel
theorem dX6_book_40 : decode cX6_book 40 = .ok (.goto 16, 3) := by decide +kernel
theorem dX6_book_43 : decode cX6_book 43 = .ok (.aload_n 0, 1) := by decide +kernel
theorem dX6_book_44 : decode cX6_book 44 = .ok (.getfield 60, 3) := by decide +kernel
theorem dX6_book_47 : decode cX6_book 47 = .ok (.iconst 5, 1) := by decide +kernel
theorem dX6_book_48 : decode cX6_book 48 = .ok (.iload_n 1, 1) := by decide +kernel
theorem dX6_book_49 : decode cX6_book 49 = .ok (.bipush 60, 2) := by decide +kernel
theorem dX6_book_51 : decode cX6_book 51 = .ok (.irem, 1) := by decide +kernel
theorem dX6_book_52 : decode cX6_book 52 = .ok (.imul, 1) := by decide +kernel
theorem dX6_book_53 : decode cX6_book 53 = .ok (.iload_n 2, 1) := by decide +kernel
theorem dX6_book_54 : decode cX6_book 54 = .ok (.iadd, 1) := by decide +kernel
theorem dX6_book_55 : decode cX6_book 55 = .ok (.laload, 1) := by decide +kernel
theorem dX6_book_56 : decode cX6_book 56 = .ok (.lreturn, 1) := by decide +kernel
theorem dX6_about_0 : decode cX6_about 0 = .ok (.aload_n 0, 1) := by decide +kernel
theorem dX6_about_1 : decode cX6_about 1 = .ok (.iconst 0, 1) := by decide +kernel
theorem dX6_about_2 : decode cX6_about 2 = .ok (.putfield 72, 3) := by decide +kernel
theorem dX6_about_5 : decode cX6_about 5 = .ok (.iload_n 1, 1) := by decide +kernel
theorem dX6_about_6 : decode cX6_about 6 = .ok (.bipush 40, 2) := by decide +kernel
theorem dX6_about_8 : decode cX6_about 8 = .ok (.invokestatic 76, 3) := by decide +kernel
theorem dX6_about_11 : decode cX6_about 11 = .ok (.ifCond .eq 12, 3) := by decide +kernel
theorem dX6_about_14 : decode cX6_about 14 = .ok (.aload_n 0, 1) := by decide +kernel
theorem dX6_about_15 : decode cX6_about 15 = .ok (.getfield 36, 3) := by decide +kernel
theorem dX6_about_18 : decode cX6_about 18 = .ok (.iload_n 1, 1) := by decide +kernel
theorem dX6_about_19 : decode cX6_about 19 = .ok (.baload, 1) := by decide +kernel
theorem dX6_about_20 : decode cX6_about 20 = .ok (.ifCond .ne 5, 3) := by decide +kernel
theorem dX6_about_23 : decode cX6_about 23 = .ok (.iconst (-1), 1) := by decide +kernel
theorem dX6_about_24 : decode cX6_about 24 = .ok (.ireturn, 1) := by decide +kernel
theorem dX6_about_25 : decode cX6_about 25 = .ok (.iload_n 2, 1) := by decide +kernel
theorem dX6_about_26 : decode cX6_about 26 = .ok (.tableswitch 82 0 4 #[34, 41, 48, 55, 75], 34) := by decide +kernel
theorem dX6_about_60 : decode cX6_about 60 = .ok (.aload_n 0, 1) := by decide +kernel
theorem dX6_about_61 : decode cX6_about 61 = .ok (.getfield 42, 3) := by decide +kernel
theorem dX6_about_64 : decode cX6_about 64 = .ok (.iload_n 1, 1) := by decide +kernel
theorem dX6_about_65 : decode cX6_about 65 = .ok (.iaload, 1) := by decide +kernel
theorem dX6_about_66 : decode cX6_about 66 = .ok (.ireturn, 1) := by decide +kernel
theorem dX6_about_67 : decode cX6_about 67 = .ok (.aload_n 0, 1) := by decide +kernel
theorem dX6_about_68 : decode cX6_about 68 = .ok (.getfield 45, 3) := by decide +kernel
theorem dX6_about_71 : decode cX6_about 71 = .ok (.iload_n 1, 1) := by decide +kernel
theorem dX6_about_72 : decode cX6_about 72 = .ok (.iaload, 1) := by decide +kernel
theorem dX6_about_73 : decode cX6_about 73 = .ok (.ireturn, 1) := by decide +kernel
theorem dX6_about_74 : decode cX6_about 74 = .ok (.aload_n 0, 1) := by decide +kernel
theorem dX6_about_75 : decode cX6_about 75 = .ok (.getfield 57, 3) := by decide +kernel
theorem dX6_about_78 : decode cX6_about 78 = .ok (.iload_n 1, 1) := by decide +kernel
theorem dX6_about_79 : decode cX6_about 79 = .ok (.iaload, 1) := by decide +kernel
theorem dX6_about_80 : decode cX6_about 80 = .ok (.ireturn, 1) := by decide +kernel
theorem dX6_about_81 : decode cX6_about 81 = .ok (.aload_n 0, 1) := by decide +kernel
theorem dX6_about_82 : decode cX6_about 82 = .ok (.getfield 54, 3) := by decide +kernel
theorem dX6_about_85 : decode cX6_about 85 = .ok (.iload_n 1, 1) := by decide +kernel
theorem dX6_about_86 : decode cX6_about 86 = .ok (.iaload, 1) := by decide +kernel
theorem dX6_about_87 : decode cX6_about 87 = .ok (.ifCond .ge 12, 3) := by decide +kernel
theorem dX6_about_90 : decode cX6_about 90 = .ok (.aload_n 0, 1) := by decide +kernel
theorem dX6_about_91 : decode cX6_about 91 = .ok (.getfield 48, 3) := by decide +kernel
theorem dX6_about_94 : decode cX6_about 94 = .ok (.iload_n 1, 1) := by decide +kernel
theorem dX6_about_95 : decode cX6_about 95 = .ok (.iaload, 1) := by decide +kernel
theorem dX6_about_96 : decode cX6_about 96 = .ok (.goto 4, 3) := by decide +kernel
theorem dX6_about_99 : decode cX6_about 99 = .ok (.iconst (-1), 1) := by decide +kernel
theorem dX6_about_100 : decode cX6_about 100 = .ok (.ireturn, 1) := by decide +kernel
theorem dX6_about_101 : decode cX6_about 101 = .ok (.aload_n 0, 1) := by decide +kernel
theorem dX6_about_102 : decode cX6_about 102 = .ok (.getfield 54, 3) := by decide +kernel
theorem dX6_about_105 : decode cX6_about 105 = .ok (.iload_n 1, 1) := by decide +kernel
theorem dX6_about_106 : decode cX6_about 106 = .ok (.iaload, 1) := by decide +kernel
theorem dX6_about_107 : decode cX6_about 107 = .ok (.ireturn, 1) := by decide +kernel
theorem dX6_about_108 : decode cX6_about 108 = .ok (.iconst (-1), 1) := by decide +kernel
theorem dX6_about_109 : decode cX6_about 109 = .ok (.ireturn, 1) := by decide +kernel
theorem dX6_aged_0 : decode cX6_aged 0 = .ok (.aload_n 0, 1) := by decide +kernel
theorem dX6_aged_1 : decode cX6_aged 1 = .ok (.iconst 0, 1) := by decide +kernel
theorem dX6_aged_2 : decode cX6_aged 2 = .ok (.putfield 72, 3) := by decide +kernel
theorem dX6_aged_5 : decode cX6_aged 5 = .ok (.aload_n 0, 1) := by decide +kernel
theorem dX6_aged_6 : decode cX6_aged 6 = .ok (.invokevirtual 112, 3) := by decide +kernel
theorem dX6_aged_9 : decode cX6_aged 9 = .ok (.iload_n 1, 1) := by decide +kernel
theorem dX6_aged_10 : decode cX6_aged 10 = .ok (.ifCond .lt 11, 3) := by decide +kernel
theorem dX6_aged_13 : decode cX6_aged 13 = .ok (.iload_n 1, 1) := by decide +kernel
theorem dX6_aged_14 : decode cX6_aged 14 = .ok (.aload_n 0, 1) := by decide +kernel
theorem dX6_aged_15 : decode cX6_aged 15 = .ok (.getfield 109, 3) := by decide +kernel
theorem dX6_aged_18 : decode cX6_aged 18 = .ok (.if_icmp .lt 7, 3) := by decide +kernel
theorem dX6_aged_21 : decode cX6_aged 21 = .ok (.iconst (-1), 1) := by decide +kernel
theorem dX6_aged_22 : decode cX6_aged 22 = .ok (.goto 9, 3) := by decide +kernel
theorem dX6_aged_25 : decode cX6_aged 25 = .ok (.aload_n 0, 1) := by decide +kernel
theorem dX6_aged_26 : decode cX6_aged 26 = .ok (.getfield 69, 3) := by decide +kernel
theorem dX6_aged_29 : decode cX6_aged 29 = .ok (.iload_n 1, 1) := by decide +kernel
theorem dX6_aged_30 : decode cX6_aged 30 = .ok (.iaload, 1) := by decide +kernel
theorem dX6_aged_31 : decode cX6_aged 31 = .ok (.ireturn, 1) := by decide +kernel
