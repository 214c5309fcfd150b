theorem dX10_isGood_23 : decode cX10_isGood 23 = .ok (.iadd, 1) := by decide +kernel
theorem dX10_isGood_24 : decode cX10_isGood 24 = .ok (.istore_n 1, 1) := by decide +kernel
theorem dX10_isGood_25 : decode cX10_isGood 25 = .ok (.iload_n 2, 1) := by decide +kernel
theorem dX10_isGood_26 : decode cX10_isGood 26 = .ok (.aload_n 0, 1) := by decide +kernel
theorem dX10_isGood_27 : decode cX10_isGood 27 = .ok (.getfield 259, 3) := by decide +kernel
theorem dX10_isGood_30 : decode cX10_isGood 30 = .ok (.iload_n 3, 1) := by decide +kernel
theorem dX10_isGood_31 : decode cX10_isGood 31 = .ok (.isub, 1) := by decide +kernel
theorem dX10_isGood_32 : decode cX10_isGood 32 = .ok (.iconst 1, 1) := by decide +kernel
theorem dX10_isGood_33 : decode cX10_isGood 33 = .ok (.iadd, 1) := by decide +kernel
theorem dX10_isGood_34 : decode cX10_isGood 34 = .ok (.aload_n 0, 1) := by decide +kernel
theorem dX10_isGood_35 : decode cX10_isGood 35 = .ok (.getfield 177, 3) := by decide +kernel
theorem dX10_isGood_38 : decode cX10_isGood 38 = .ok (.iload_n 3, 1) := by decide +kernel
theorem dX10_isGood_39 : decode cX10_isGood 39 = .ok (.iconst 1, 1) := by decide +kernel
theorem dX10_isGood_40 : decode cX10_isGood 40 = .ok (.isub, 1) := by decide +kernel
theorem dX10_isGood_41 : decode cX10_isGood 41 = .ok (.iaload, 1) := by decide +kernel
theorem dX10_isGood_42 : decode cX10_isGood 42 = .ok (.imul, 1) := by decide +kernel
theorem dX10_isGood_43 : decode cX10_isGood 43 = .ok (.iadd, 1) := by decide +kernel
theorem dX10_isGood_44 : decode cX10_isGood 44 = .ok (.istore_n 2, 1) := by decide +kernel
theorem dX10_isGood_45 : decode cX10_isGood 45 = .ok (.iinc 3 1, 3) := by decide +kernel
theorem dX10_isGood_48 : decode cX10_isGood 48 = .ok (.goto (-42), 3) := by decide +kernel
theorem dX10_isGood_51 : decode cX10_isGood 51 = .ok (.aload_n 0, 1) := by decide +kernel
theorem dX10_isGood_52 : decode cX10_isGood 52 = .ok (.getfield 177, 3) := by decide +kernel
theorem dX10_isGood_55 : decode cX10_isGood 55 = .ok (.iconst 1, 1) := by decide +kernel
theorem dX10_isGood_56 : decode cX10_isGood 56 = .ok (.iaload, 1) := by decide +kernel
theorem dX10_isGood_57 : decode cX10_isGood 57 = .ok (.invokestatic 262, 3) := by decide +kernel
theorem dX10_isGood_60 : decode cX10_isGood 60 = .ok (.istore_n 3, 1) := by decide +kernel
theorem dX10_isGood_61 : decode cX10_isGood 61 = .ok (.iload_n 3, 1) := by decide +kernel
theorem dX10_isGood_62 : decode cX10_isGood 62 = .ok (.invokestatic 265, 3) := by decide +kernel
theorem dX10_isGood_65 : decode cX10_isGood 65 = .ok (.istore 4, 2) := by decide +kernel
theorem dX10_isGood_67 : decode cX10_isGood 67 = .ok (.iload_n 1, 1) := by decide +kernel
theorem dX10_isGood_68 : decode cX10_isGood 68 = .ok (.sipush 255, 3) := by decide +kernel
theorem dX10_isGood_71 : decode cX10_isGood 71 = .ok (.irem, 1) := by decide +kernel
theorem dX10_isGood_72 : decode cX10_isGood 72 = .ok (.ifCond .ne 26, 3) := by decide +kernel
theorem dX10_isGood_75 : decode cX10_isGood 75 = .ok (.iload_n 2, 1) := by decide +kernel
theorem dX10_isGood_76 : decode cX10_isGood 76 = .ok (.sipush 255, 3) := by decide +kernel
theorem dX10_isGood_79 : decode cX10_isGood 79 = .ok (.irem, 1) := by decide +kernel
theorem dX10_isGood_80 : decode cX10_isGood 80 = .ok (.ifCond .ne 18, 3) := by decide +kernel
theorem dX10_isGood_83 : decode cX10_isGood 83 = .ok (.iload_n 3, 1) := by decide +kernel
theorem dX10_isGood_84 : decode cX10_isGood 84 = .ok (.ifCond .eq 14, 3) := by decide +kernel
theorem dX10_isGood_87 : decode cX10_isGood 87 = .ok (.aload_n 0, 1) := by decide +kernel
theorem dX10_isGood_88 : decode cX10_isGood 88 = .ok (.getfield 177, 3) := by decide +kernel
theorem dX10_isGood_91 : decode cX10_isGood 91 = .ok (.iconst 0, 1) := by decide +kernel
theorem dX10_isGood_92 : decode cX10_isGood 92 = .ok (.iaload, 1) := by decide +kernel
theorem dX10_isGood_93 : decode cX10_isGood 93 = .ok (.iload 4, 2) := by decide +kernel
theorem dX10_isGood_95 : decode cX10_isGood 95 = .ok (.if_icmp .eq 5, 3) := by decide +kernel
theorem dX10_isGood_98 : decode cX10_isGood 98 = .ok (.iconst 0, 1) := by decide +kernel
theorem dX10_isGood_99 : decode cX10_isGood 99 = .ok (.ireturn, 1) := by decide +kernel
theorem dX10_isGood_100 : decode cX10_isGood 100 = .ok (.aload_n 0, 1) := by decide +kernel
theorem dX10_isGood_101 : decode cX10_isGood 101 = .ok (.getfield 259, 3) := by decide +kernel
theorem dX10_isGood_104 : decode cX10_isGood 104 = .ok (.iload 4, 2) := by decide +kernel
theorem dX10_isGood_106 : decode cX10_isGood 106 = .ok (.isub, 1) := by decide +kernel
theorem dX10_isGood_107 : decode cX10_isGood 107 = .ok (.iconst 1, 1) := by decide +kernel
theorem dX10_isGood_108 : decode cX10_isGood 108 = .ok (.isub, 1) := by decide +kernel
theorem dX10_isGood_109 : decode cX10_isGood 109 = .ok (.istore 5, 2) := by decide +kernel
theorem dX10_isGood_111 : decode cX10_isGood 111 = .ok (.iload_n 3, 1) := by decide +kernel
theorem dX10_isGood_112 : decode cX10_isGood 112 = .ok (.sipush 240, 3) := by decide +kernel
theorem dX10_isGood_115 : decode cX10_isGood 115 = .ok (.if_icmp .ne 23, 3) := by decide +kernel
theorem dX10_isGood_118 : decode cX10_isGood 118 = .ok (.iload 5, 2) := by decide +kernel
theorem dX10_isGood_120 : decode cX10_isGood 120 = .ok (.ifCond .lt 14, 3) := by decide +kernel
theorem dX10_isGood_123 : decode cX10_isGood 123 = .ok (.iload 5, 2) := by decide +kernel
theorem dX10_isGood_125 : decode cX10_isGood 125 = .ok (.bipush 8, 2) := by decide +kernel
theorem dX10_isGood_127 : decode cX10_isGood 127 = .ok (.if_icmp .gt 7, 3) := by decide +kernel
theorem dX10_isGood_130 : decode cX10_isGood 130 = .ok (.iconst 1, 1) := by decide +kernel
theorem dX10_isGood_131 : decode cX10_isGood 131 = .ok (.goto 28, 3) := by decide +kernel
theorem dX10_isGood_134 : decode cX10_isGood 134 = .ok (.iconst 0, 1) := by decide +kernel
theorem dX10_isGood_135 : decode cX10_isGood 135 = .ok (.goto 24, 3) := by decide +kernel
theorem dX10_isGood_138 : decode cX10_isGood 138 = .ok (.iload 5, 2) := by decide +kernel
theorem dX10_isGood_140 : decode cX10_isGood 140 = .ok (.iload_n 3, 1) := by decide +kernel
theorem dX10_isGood_141 : decode cX10_isGood 141 = .ok (.bipush 16, 2) := by decide +kernel
theorem dX10_isGood_143 : decode cX10_isGood 143 = .ok (.if_icmp .ne 7, 3) := by decide +kernel
theorem dX10_isGood_146 : decode cX10_isGood 146 = .ok (.iconst 1, 1) := by decide +kernel
theorem dX10_isGood_147 : decode cX10_isGood 147 = .ok (.goto 4, 3) := by decide +kernel
theorem dX10_isGood_150 : decode cX10_isGood 150 = .ok (.iconst 0, 1) := by decide +kernel
theorem dX10_isGood_151 : decode cX10_isGood 151 = .ok (.if_icmp .ne 7, 3) := by decide +kernel
theorem dX10_isGood_154 : decode cX10_isGood 154 = .ok (.iconst 1, 1) := by decide +kernel
theorem dX10_isGood_155 : decode cX10_isGood 155 = .ok (.goto 4, 3) := by decide +kernel
theorem dX10_isGood_158 : decode cX10_isGood 158 = .ok (.iconst 0, 1) := by decide +kernel
theorem dX10_isGood_159 : decode cX10_isGood 159 = .ok (.istore 6, 2) := by decide +kernel
theorem dX10_isGood_161 : decode cX10_isGood 161 = .ok (.aload_n 0, 1) := by decide +kernel
theorem dX10_isGood_162 : decode cX10_isGood 162 = .ok (.getfield 177, 3) := by decide +kernel
theorem dX10_isGood_165 : decode cX10_isGood 165 = .ok (.iload 4, 2) := by decide +kernel
theorem dX10_isGood_167 : decode cX10_isGood 167 = .ok (.iconst 3, 1) := by decide +kernel
theorem dX10_isGood_168 : decode cX10_isGood 168 = .ok (.isub, 1) := by decide +kernel
theorem dX10_isGood_169 : decode cX10_isGood 169 = .ok (.iaload, 1) := by decide +kernel
theorem dX10_isGood_170 : decode cX10_isGood 170 = .ok (.sipush 195, 3) := by decide +kernel
theorem dX10_isGood_173 : decode cX10_isGood 173 = .ok (.if_icmp .ne 25, 3) := by decide +kernel
theorem dX10_isGood_176 : decode cX10_isGood 176 = .ok (.aload_n 0, 1) := by decide +kernel
theorem dX10_isGood_177 : decode cX10_isGood 177 = .ok (.getfield 177, 3) := by decide +kernel
theorem dX10_isGood_180 : decode cX10_isGood 180 = .ok (.iload 4, 2) := by decide +kernel
theorem dX10_isGood_182 : decode cX10_isGood 182 = .ok (.iconst 2, 1) := by decide +kernel
theorem dX10_isGood_183 : decode cX10_isGood 183 = .ok (.isub, 1) := by decide +kernel
theorem dX10_isGood_184 : decode cX10_isGood 184 = .ok (.iaload, 1) := by decide +kernel
theorem dX10_isGood_185 : decode cX10_isGood 185 = .ok (.iconst 2, 1) := by decide +kernel
theorem dX10_isGood_186 : decode cX10_isGood 186 = .ok (.if_icmp .ne 12, 3) := by decide +kernel
theorem dX10_isGood_189 : decode cX10_isGood 189 = .ok (.iload 6, 2) := by decide +kernel
theorem dX10_isGood_191 : decode cX10_isGood 191 = .ok (.ifCond .eq 7, 3) := by decide +kernel
theorem dX10_isGood_194 : decode cX10_isGood 194 = .ok (.iconst 1, 1) := by decide +kernel
theorem dX10_isGood_195 : decode cX10_isGood 195 = .ok (.goto 4, 3) := by decide +kernel
theorem dX10_isGood_198 : decode cX10_isGood 198 = .ok (.iconst 0, 1) := by decide +kernel
theorem dX10_isGood_199 : decode cX10_isGood 199 = .ok (.ireturn, 1) := by decide +kernel
theorem dX10_arriveCall_0 : decode cX10_arriveCall 0 = .ok (.aload_n 0, 1) := by decide +kernel
theorem dX10_arriveCall_1 : decode cX10_arriveCall 1 = .ok (.iconst 4, 1) := by decide +kernel
theorem dX10_arriveCall_2 : decode cX10_arriveCall 2 = .ok (.invokevirtual 268, 3) := by decide +kernel
theorem dX10_arriveCall_5 : decode cX10_arriveCall 5 = .ok (.istore_n 2, 1) := by decide +kernel
theorem dX10_arriveCall_6 : decode cX10_arriveCall 6 = .ok (.aload_n 0, 1) := by decide +kernel
theorem dX10_arriveCall_7 : decode cX10_arriveCall 7 = .ok (.getfield 7, 3) := by decide +kernel
theorem dX10_arriveCall_10 : decode cX10_arriveCall 10 = .ok (.iload_n 1, 1) := by decide +kernel
theorem dX10_arriveCall_11 : decode cX10_arriveCall 11 = .ok (.iaload, 1) := by decide +kernel
theorem dX10_arriveCall_12 : decode cX10_arriveCall 12 = .ok (.ifCond .ne 75, 3) := by decide +kernel
theorem dX10_arriveCall_15 : decode cX10_arriveCall 15 = .ok (.aload_n 0, 1) := by decide +kernel
theorem dX10_arriveCall_16 : decode cX10_arriveCall 16 = .ok (.iload_n 1, 1) := by decide +kernel
theorem dX10_arriveCall_17 : decode cX10_arriveCall 17 = .ok (.invokevirtual 235, 3) := by decide +kernel
theorem dX10_arriveCall_20 : decode cX10_arriveCall 20 = .ok (.aload_n 0, 1) := by decide +kernel
theorem dX10_arriveCall_21 : decode cX10_arriveCall 21 = .ok (.getfield 7, 3) := by decide +kernel
theorem dX10_arriveCall_24 : decode cX10_arriveCall 24 = .ok (.iload_n 1, 1) := by decide +kernel
theorem dX10_arriveCall_25 : decode cX10_arriveCall 25 = .ok (.iconst 2, 1) := by decide +kernel
theorem dX10_arriveCall_26 : decode cX10_arriveCall 26 = .ok (.iastore, 1) := by decide +kernel
theorem dX10_arriveCall_27 : decode cX10_arriveCall 27 = .ok (.aload_n 0, 1) := by decide +kernel
theorem dX10_arriveCall_28 : decode cX10_arriveCall 28 = .ok (.getfield 19, 3) := by decide +kernel
theorem dX10_arriveCall_31 : decode cX10_arriveCall 31 = .ok (.iload_n 1, 1) := by decide +kernel
theorem dX10_arriveCall_32 : decode cX10_arriveCall 32 = .ok (.iconst 1, 1) := by decide +kernel
theorem dX10_arriveCall_33 : decode cX10_arriveCall 33 = .ok (.bastore, 1) := by decide +kernel
theorem dX10_arriveCall_34 : decode cX10_arriveCall 34 = .ok (.aload_n 0, 1) := by decide +kernel
theorem dX10_arriveCall_35 : decode cX10_arriveCall 35 = .ok (.getfield 16, 3) := by decide +kernel
theorem dX10_arriveCall_38 : decode cX10_arriveCall 38 = .ok (.iload_n 1, 1) := by decide +kernel
theorem dX10_arriveCall_39 : decode cX10_arriveCall 39 = .ok (.iload_n 2, 1) := by decide +kernel
theorem dX10_arriveCall_40 : decode cX10_arriveCall 40 = .ok (.iastore, 1) := by decide +kernel
theorem dX10_arriveCall_41 : decode cX10_arriveCall 41 = .ok (.aload_n 0, 1) := by decide +kernel
theorem dX10_arriveCall_42 : decode cX10_arriveCall 42 = .ok (.getfield 80, 3) := by decide +kernel
theorem dX10_arriveCall_45 : decode cX10_arriveCall 45 = .ok (.iload_n 1, 1) := by decide +kernel
theorem dX10_arriveCall_46 : decode cX10_arriveCall 46 = .ok (.aload_n 0, 1) := by decide +kernel
theorem dX10_arriveCall_47 : decode cX10_arriveCall 47 = .ok (.getfield 177, 3) := by decide +kernel
theorem dX10_arriveCall_50 : decode cX10_arriveCall 50 = .ok (.iconst 1, 1) := by decide +kernel
theorem dX10_arriveCall_51 : decode cX10_arriveCall 51 = .ok (.iaload, 1) := by decide +kernel
theorem dX10_arriveCall_52 : decode cX10_arriveCall 52 = .ok (.bipush 15, 2) := by decide +kernel
theorem dX10_arriveCall_54 : decode cX10_arriveCall 54 = .ok (.iand, 1) := by decide +kernel
theorem dX10_arriveCall_55 : decode cX10_arriveCall 55 = .ok (.iastore, 1) := by decide +kernel
theorem dX10_arriveCall_56 : decode cX10_arriveCall 56 = .ok (.aload_n 0, 1) := by decide +kernel
theorem dX10_arriveCall_57 : decode cX10_arriveCall 57 = .ok (.iload_n 1, 1) := by decide +kernel
theorem dX10_arriveCall_58 : decode cX10_arriveCall 58 = .ok (.sipush 208, 3) := by decide +kernel
theorem dX10_arriveCall_61 : decode cX10_arriveCall 61 = .ok (.aload_n 0, 1) := by decide +kernel
theorem dX10_arriveCall_62 : decode cX10_arriveCall 62 = .ok (.iload_n 1, 1) := by decide +kernel
theorem dX10_arriveCall_63 : decode cX10_arriveCall 63 = .ok (.invokevirtual 214, 3) := by decide +kernel
theorem dX10_arriveCall_66 : decode cX10_arriveCall 66 = .ok (.iadd, 1) := by decide +kernel
theorem dX10_arriveCall_67 : decode cX10_arriveCall 67 = .ok (.iload_n 2, 1) := by decide +kernel
theorem dX10_arriveCall_68 : decode cX10_arriveCall 68 = .ok (.aload_n 0, 1) := by decide +kernel
theorem dX10_arriveCall_69 : decode cX10_arriveCall 69 = .ok (.getfield 13, 3) := by decide +kernel
theorem dX10_arriveCall_72 : decode cX10_arriveCall 72 = .ok (.iload_n 1, 1) := by decide +kernel
theorem dX10_arriveCall_73 : decode cX10_arriveCall 73 = .ok (.iaload, 1) := by decide +kernel
theorem dX10_arriveCall_74 : decode cX10_arriveCall 74 = .ok (.bipush 64, 2) := by decide +kernel
theorem dX10_arriveCall_76 : decode cX10_arriveCall 76 = .ok (.invokevirtual 238, 3) := by decide +kernel
theorem dX10_arriveCall_79 : decode cX10_arriveCall 79 = .ok (.aload_n 0, 1) := by decide +kernel
theorem dX10_arriveCall_80 : decode cX10_arriveCall 80 = .ok (.iload_n 1, 1) := by decide +kernel
theorem dX10_arriveCall_81 : decode cX10_arriveCall 81 = .ok (.invokevirtual 242, 3) := by decide +kernel
theorem dX10_arriveCall_84 : decode cX10_arriveCall 84 = .ok (.goto 43, 3) := by decide +kernel
theorem dX10_arriveCall_87 : decode cX10_arriveCall 87 = .ok (.aload_n 0, 1) := by decide +kernel
theorem dX10_arriveCall_88 : decode cX10_arriveCall 88 = .ok (.getfield 7, 3) := by decide +kernel
theorem dX10_arriveCall_91 : decode cX10_arriveCall 91 = .ok (.iload_n 1, 1) := by decide +kernel
theorem dX10_arriveCall_92 : decode cX10_arriveCall 92 = .ok (.iaload, 1) := by decide +kernel
theorem dX10_arriveCall_93 : decode cX10_arriveCall 93 = .ok (.iconst 2, 1) := by decide +kernel
theorem dX10_arriveCall_94 : decode cX10_arriveCall 94 = .ok (.if_icmp .ne 22, 3) := by decide +kernel
theorem dX10_arriveCall_97 : decode cX10_arriveCall 97 = .ok (.aload_n 0, 1) := by decide +kernel
theorem dX10_arriveCall_98 : decode cX10_arriveCall 98 = .ok (.getfield 19, 3) := by decide +kernel
theorem dX10_arriveCall_101 : decode cX10_arriveCall 101 = .ok (.iload_n 1, 1) := by decide +kernel
theorem dX10_arriveCall_102 : decode cX10_arriveCall 102 = .ok (.baload, 1) := by decide +kernel
theorem dX10_arriveCall_103 : decode cX10_arriveCall 103 = .ok (.ifCond .eq 13, 3) := by decide +kernel
theorem dX10_arriveCall_106 : decode cX10_arriveCall 106 = .ok (.aload_n 0, 1) := by decide +kernel
theorem dX10_arriveCall_107 : decode cX10_arriveCall 107 = .ok (.getfield 16, 3) := by decide +kernel
theorem dX10_arriveCall_110 : decode cX10_arriveCall 110 = .ok (.iload_n 1, 1) := by decide +kernel
theorem dX10_arriveCall_111 : decode cX10_arriveCall 111 = .ok (.iaload, 1) := by decide +kernel
theorem dX10_arriveCall_112 : decode cX10_arriveCall 112 = .ok (.iload_n 2, 1) := by decide +kernel
theorem dX10_arriveCall_113 : decode cX10_arriveCall 113 = .ok (.if_icmp .eq 14, 3) := by decide +kernel
theorem dX10_arriveCall_116 : decode cX10_arriveCall 116 = .ok (.aload_n 0, 1) := by decide +kernel
theorem dX10_arriveCall_117 : decode cX10_arriveCall 117 = .ok (.iload_n 1, 1) := by decide +kernel
theorem dX10_arriveCall_118 : decode cX10_arriveCall 118 = .ok (.sipush 128, 3) := by decide +kernel
theorem dX10_arriveCall_121 : decode cX10_arriveCall 121 = .ok (.iload_n 2, 1) := by decide +kernel
theorem dX10_arriveCall_122 : decode cX10_arriveCall 122 = .ok (.iconst 0, 1) := by decide +kernel
theorem dX10_arriveCall_123 : decode cX10_arriveCall 123 = .ok (.iconst 2, 1) := by decide +kernel
theorem dX10_arriveCall_124 : decode cX10_arriveCall 124 = .ok (.invokevirtual 238, 3) := by decide +kernel
theorem dX10_arriveCall_127 : decode cX10_arriveCall 127 = .ok (.return_, 1) := by decide +kernel
theorem dX10_arriveAnswer_0 : decode cX10_arriveAnswer 0 = .ok (.aload_n 0, 1) := by decide +kernel
theorem dX10_arriveAnswer_1 : decode cX10_arriveAnswer 1 = .ok (.iconst 4, 1) := by decide +kernel
theorem dX10_arriveAnswer_2 : decode cX10_arriveAnswer 2 = .ok (.invokevirtual 268, 3) := by decide +kernel
theorem dX10_arriveAnswer_5 : decode cX10_arriveAnswer 5 = .ok (.istore_n 2, 1) := by decide +kernel
theorem dX10_arriveAnswer_6 : decode cX10_arriveAnswer 6 = .ok (.aload_n 0, 1) := by decide +kernel
theorem dX10_arriveAnswer_7 : decode cX10_arriveAnswer 7 = .ok (.getfield 7, 3) := by decide +kernel
theorem dX10_arriveAnswer_10 : decode cX10_arriveAnswer 10 = .ok (.iload_n 1, 1) := by decide +kernel
theorem dX10_arriveAnswer_11 : decode cX10_arriveAnswer 11 = .ok (.iaload, 1) := by decide +kernel
theorem dX10_arriveAnswer_12 : decode cX10_arriveAnswer 12 = .ok (.iconst 1, 1) := by decide +kernel
theorem dX10_arriveAnswer_13 : decode cX10_arriveAnswer 13 = .ok (.if_icmp .ne 59, 3) := by decide +kernel
theorem dX10_arriveAnswer_16 : decode cX10_arriveAnswer 16 = .ok (.aload_n 0, 1) := by decide +kernel
theorem dX10_arriveAnswer_17 : decode cX10_arriveAnswer 17 = .ok (.getfield 7, 3) := by decide +kernel
theorem dX10_arriveAnswer_20 : decode cX10_arriveAnswer 20 = .ok (.iload_n 1, 1) := by decide +kernel
theorem dX10_arriveAnswer_21 : decode cX10_arriveAnswer 21 = .ok (.iconst 2, 1) := by decide +kernel
theorem dX10_arriveAnswer_22 : decode cX10_arriveAnswer 22 = .ok (.iastore, 1) := by decide +kernel
theorem dX10_arriveAnswer_23 : decode cX10_arriveAnswer 23 = .ok (.aload_n 0, 1) := by decide +kernel
theorem dX10_arriveAnswer_24 : decode cX10_arriveAnswer 24 = .ok (.getfield 16, 3) := by decide +kernel
theorem dX10_arriveAnswer_27 : decode cX10_arriveAnswer 27 = .ok (.iload_n 1, 1) := by decide +kernel
theorem dX10_arriveAnswer_28 : decode cX10_arriveAnswer 28 = .ok (.iload_n 2, 1) := by decide +kernel
theorem dX10_arriveAnswer_29 : decode cX10_arriveAnswer 29 = .ok (.iastore, 1) := by decide +kernel
theorem dX10_arriveAnswer_30 : decode cX10_arriveAnswer 30 = .ok (.aload_n 0, 1) := by decide +kernel
theorem dX10_arriveAnswer_31 : decode cX10_arriveAnswer 31 = .ok (.getfield 77, 3) := by decide +kernel
theorem dX10_arriveAnswer_34 : decode cX10_arriveAnswer 34 = .ok (.iload_n 1, 1) := by decide +kernel
theorem dX10_arriveAnswer_35 : decode cX10_arriveAnswer 35 = .ok (.iconst 0, 1) := by decide +kernel
theorem dX10_arriveAnswer_36 : decode cX10_arriveAnswer 36 = .ok (.iastore, 1) := by decide +kernel
theorem dX10_arriveAnswer_37 : decode cX10_arriveAnswer 37 = .ok (.aload_n 0, 1) := by decide +kernel
theorem dX10_arriveAnswer_38 : decode cX10_arriveAnswer 38 = .ok (.getfield 80, 3) := by decide +kernel
theorem dX10_arriveAnswer_41 : decode cX10_arriveAnswer 41 = .ok (.iload_n 1, 1) := by decide +kernel
theorem dX10_arriveAnswer_42 : decode cX10_arriveAnswer 42 = .ok (.aload_n 0, 1) := by decide +kernel
theorem dX10_arriveAnswer_43 : decode cX10_arriveAnswer 43 = .ok (.getfield 177, 3) := by decide +kernel
theorem dX10_arriveAnswer_46 : decode cX10_arriveAnswer 46 = .ok (.iconst 1, 1) := by decide +kernel
theorem dX10_arriveAnswer_47 : decode cX10_arriveAnswer 47 = .ok (.iaload, 1) := by decide +kernel
theorem dX10_arriveAnswer_48 : decode cX10_arriveAnswer 48 = .ok (.bipush 15, 2) := by decide +kernel
theorem dX10_arriveAnswer_50 : decode cX10_arriveAnswer 50 = .ok (.iand, 1) := by decide +kernel
theorem dX10_arriveAnswer_51 : decode cX10_arriveAnswer 51 = .ok (.iastore, 1) := by decide +kernel
theorem dX10_arriveAnswer_52 : decode cX10_arriveAnswer 52 = .ok (.aload_n 0, 1) := by decide +kernel
theorem dX10_arriveAnswer_53 : decode cX10_arriveAnswer 53 = .ok (.getfield 35, 3) := by decide +kernel
theorem dX10_arriveAnswer_56 : decode cX10_arriveAnswer 56 = .ok (.iload_n 1, 1) := by decide +kernel
theorem dX10_arriveAnswer_57 : decode cX10_arriveAnswer 57 = .ok (.iconst 0, 1) := by decide +kernel
theorem dX10_arriveAnswer_58 : decode cX10_arriveAnswer 58 = .ok (.iastore, 1) := by decide +kernel
theorem dX10_arriveAnswer_59 : decode cX10_arriveAnswer 59 = .ok (.aload_n 0, 1) := by decide +kernel
