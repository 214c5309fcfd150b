theorem dX10_fresh_49 : decode cX10_fresh 49 = .ok (.iastore, 1) := by decide +kernel
theorem dX10_fresh_50 : decode cX10_fresh 50 = .ok (.aload_n 0, 1) := by decide +kernel
theorem dX10_fresh_51 : decode cX10_fresh 51 = .ok (.getfield 74, 3) := by decide +kernel
theorem dX10_fresh_54 : decode cX10_fresh 54 = .ok (.iload_n 1, 1) := by decide +kernel
theorem dX10_fresh_55 : decode cX10_fresh 55 = .ok (.iconst 0, 1) := by decide +kernel
theorem dX10_fresh_56 : decode cX10_fresh 56 = .ok (.iastore, 1) := by decide +kernel
theorem dX10_fresh_57 : decode cX10_fresh 57 = .ok (.aload_n 0, 1) := by decide +kernel
theorem dX10_fresh_58 : decode cX10_fresh 58 = .ok (.getfield 77, 3) := by decide +kernel
theorem dX10_fresh_61 : decode cX10_fresh 61 = .ok (.iload_n 1, 1) := by decide +kernel
theorem dX10_fresh_62 : decode cX10_fresh 62 = .ok (.iconst 0, 1) := by decide +kernel
theorem dX10_fresh_63 : decode cX10_fresh 63 = .ok (.iastore, 1) := by decide +kernel
theorem dX10_fresh_64 : decode cX10_fresh 64 = .ok (.aload_n 0, 1) := by decide +kernel
theorem dX10_fresh_65 : decode cX10_fresh 65 = .ok (.getfield 80, 3) := by decide +kernel
theorem dX10_fresh_68 : decode cX10_fresh 68 = .ok (.iload_n 1, 1) := by decide +kernel
theorem dX10_fresh_69 : decode cX10_fresh 69 = .ok (.iconst 0, 1) := by decide +kernel
theorem dX10_fresh_70 : decode cX10_fresh 70 = .ok (.iastore, 1) := by decide +kernel
theorem dX10_fresh_71 : decode cX10_fresh 71 = .ok (.aload_n 0, 1) := by decide +kernel
theorem dX10_fresh_72 : decode cX10_fresh 72 = .ok (.getfield 83, 3) := by decide +kernel
theorem dX10_fresh_75 : decode cX10_fresh 75 = .ok (.iload_n 1, 1) := by decide +kernel
theorem dX10_fresh_76 : decode cX10_fresh 76 = .ok (.iconst 0, 1) := by decide +kernel
theorem dX10_fresh_77 : decode cX10_fresh 77 = .ok (.iastore, 1) := by decide +kernel
theorem dX10_fresh_78 : decode cX10_fresh 78 = .ok (.aload_n 0, 1) := by decide +kernel
theorem dX10_fresh_79 : decode cX10_fresh 79 = .ok (.getfield 89, 3) := by decide +kernel
theorem dX10_fresh_82 : decode cX10_fresh 82 = .ok (.iload_n 1, 1) := by decide +kernel
theorem dX10_fresh_83 : decode cX10_fresh 83 = .ok (.iconst 0, 1) := by decide +kernel
theorem dX10_fresh_84 : decode cX10_fresh 84 = .ok (.iastore, 1) := by decide +kernel
theorem dX10_fresh_85 : decode cX10_fresh 85 = .ok (.aload_n 0, 1) := by decide +kernel
theorem dX10_fresh_86 : decode cX10_fresh 86 = .ok (.getfield 92, 3) := by decide +kernel
theorem dX10_fresh_89 : decode cX10_fresh 89 = .ok (.iload_n 1, 1) := by decide +kernel
theorem dX10_fresh_90 : decode cX10_fresh 90 = .ok (.iconst 0, 1) := by decide +kernel
theorem dX10_fresh_91 : decode cX10_fresh 91 = .ok (.iastore, 1) := by decide +kernel
theorem dX10_fresh_92 : decode cX10_fresh 92 = .ok (.aload_n 0, 1) := by decide +kernel
theorem dX10_fresh_93 : decode cX10_fresh 93 = .ok (.getfield 98, 3) := by decide +kernel
theorem dX10_fresh_96 : decode cX10_fresh 96 = .ok (.iload_n 1, 1) := by decide +kernel
theorem dX10_fresh_97 : decode cX10_fresh 97 = .ok (.iconst 0, 1) := by decide +kernel
theorem dX10_fresh_98 : decode cX10_fresh 98 = .ok (.iastore, 1) := by decide +kernel
theorem dX10_fresh_99 : decode cX10_fresh 99 = .ok (.aload_n 0, 1) := by decide +kernel
theorem dX10_fresh_100 : decode cX10_fresh 100 = .ok (.getfield 101, 3) := by decide +kernel
theorem dX10_fresh_103 : decode cX10_fresh 103 = .ok (.iload_n 1, 1) := by decide +kernel
theorem dX10_fresh_104 : decode cX10_fresh 104 = .ok (.iconst 0, 1) := by decide +kernel
theorem dX10_fresh_105 : decode cX10_fresh 105 = .ok (.iastore, 1) := by decide +kernel
theorem dX10_fresh_106 : decode cX10_fresh 106 = .ok (.iconst 0, 1) := by decide +kernel
theorem dX10_fresh_107 : decode cX10_fresh 107 = .ok (.istore_n 2, 1) := by decide +kernel
theorem dX10_fresh_108 : decode cX10_fresh 108 = .ok (.iload_n 2, 1) := by decide +kernel
theorem dX10_fresh_109 : decode cX10_fresh 109 = .ok (.sipush 128, 3) := by decide +kernel
theorem dX10_fresh_112 : decode cX10_fresh 112 = .ok (.if_icmp .ge 22, 3) := by decide +kernel
theorem dX10_fresh_115 : decode cX10_fresh 115 = .ok (.aload_n 0, 1) := by decide +kernel
theorem dX10_fresh_116 : decode cX10_fresh 116 = .ok (.getfield 104, 3) := by decide +kernel
theorem dX10_fresh_119 : decode cX10_fresh 119 = .ok (.sipush 128, 3) := by decide +kernel
theorem dX10_fresh_122 : decode cX10_fresh 122 = .ok (.iload_n 1, 1) := by decide +kernel
theorem dX10_fresh_123 : decode cX10_fresh 123 = .ok (.imul, 1) := by decide +kernel
theorem dX10_fresh_124 : decode cX10_fresh 124 = .ok (.iload_n 2, 1) := by decide +kernel
theorem dX10_fresh_125 : decode cX10_fresh 125 = .ok (.iadd, 1) := by decide +kernel
theorem dX10_fresh_126 : decode cX10_fresh 126 = .ok (.iconst (-1), 1) := by decide +kernel
theorem dX10_fresh_127 : decode cX10_fresh 127 = .ok (.iastore, 1) := by decide +kernel
theorem dX10_fresh_128 : decode cX10_fresh 128 = .ok (.iinc 2 1, 3) := by decide +kernel
theorem dX10_fresh_131 : decode cX10_fresh 131 = .ok (.goto (-23), 3) := by decide +kernel
theorem dX10_fresh_134 : decode cX10_fresh 134 = .ok (.aload_n 0, 1) := by decide +kernel
theorem dX10_fresh_135 : decode cX10_fresh 135 = .ok (.getfield 113, 3) := by decide +kernel
theorem dX10_fresh_138 : decode cX10_fresh 138 = .ok (.iload_n 1, 1) := by decide +kernel
theorem dX10_fresh_139 : decode cX10_fresh 139 = .ok (.iconst 0, 1) := by decide +kernel
theorem dX10_fresh_140 : decode cX10_fresh 140 = .ok (.iastore, 1) := by decide +kernel
theorem dX10_fresh_141 : decode cX10_fresh 141 = .ok (.aload_n 0, 1) := by decide +kernel
theorem dX10_fresh_142 : decode cX10_fresh 142 = .ok (.getfield 116, 3) := by decide +kernel
theorem dX10_fresh_145 : decode cX10_fresh 145 = .ok (.iload_n 1, 1) := by decide +kernel
theorem dX10_fresh_146 : decode cX10_fresh 146 = .ok (.iconst 0, 1) := by decide +kernel
theorem dX10_fresh_147 : decode cX10_fresh 147 = .ok (.iastore, 1) := by decide +kernel
theorem dX10_fresh_148 : decode cX10_fresh 148 = .ok (.aload_n 0, 1) := by decide +kernel
theorem dX10_fresh_149 : decode cX10_fresh 149 = .ok (.getfield 122, 3) := by decide +kernel
theorem dX10_fresh_152 : decode cX10_fresh 152 = .ok (.iload_n 1, 1) := by decide +kernel
theorem dX10_fresh_153 : decode cX10_fresh 153 = .ok (.iconst 0, 1) := by decide +kernel
theorem dX10_fresh_154 : decode cX10_fresh 154 = .ok (.iastore, 1) := by decide +kernel
theorem dX10_fresh_155 : decode cX10_fresh 155 = .ok (.aload_n 0, 1) := by decide +kernel
theorem dX10_fresh_156 : decode cX10_fresh 156 = .ok (.getfield 134, 3) := by decide +kernel
theorem dX10_fresh_159 : decode cX10_fresh 159 = .ok (.iload_n 1, 1) := by decide +kernel
theorem dX10_fresh_160 : decode cX10_fresh 160 = .ok (.iconst 0, 1) := by decide +kernel
theorem dX10_fresh_161 : decode cX10_fresh 161 = .ok (.iastore, 1) := by decide +kernel
theorem dX10_fresh_162 : decode cX10_fresh 162 = .ok (.aload_n 0, 1) := by decide +kernel
theorem dX10_fresh_163 : decode cX10_fresh 163 = .ok (.getfield 143, 3) := by decide +kernel
theorem dX10_fresh_166 : decode cX10_fresh 166 = .ok (.iload_n 1, 1) := by decide +kernel
theorem dX10_fresh_167 : decode cX10_fresh 167 = .ok (.iconst 0, 1) := by decide +kernel
theorem dX10_fresh_168 : decode cX10_fresh 168 = .ok (.iastore, 1) := by decide +kernel
theorem dX10_fresh_169 : decode cX10_fresh 169 = .ok (.aload_n 0, 1) := by decide +kernel
theorem dX10_fresh_170 : decode cX10_fresh 170 = .ok (.getfield 16, 3) := by decide +kernel
theorem dX10_fresh_173 : decode cX10_fresh 173 = .ok (.iload_n 1, 1) := by decide +kernel
theorem dX10_fresh_174 : decode cX10_fresh 174 = .ok (.iconst 0, 1) := by decide +kernel
theorem dX10_fresh_175 : decode cX10_fresh 175 = .ok (.iastore, 1) := by decide +kernel
theorem dX10_fresh_176 : decode cX10_fresh 176 = .ok (.aload_n 0, 1) := by decide +kernel
theorem dX10_fresh_177 : decode cX10_fresh 177 = .ok (.getfield 32, 3) := by decide +kernel
theorem dX10_fresh_180 : decode cX10_fresh 180 = .ok (.iload_n 1, 1) := by decide +kernel
theorem dX10_fresh_181 : decode cX10_fresh 181 = .ok (.aload_n 0, 1) := by decide +kernel
theorem dX10_fresh_182 : decode cX10_fresh 182 = .ok (.getfield 198, 3) := by decide +kernel
theorem dX10_fresh_185 : decode cX10_fresh 185 = .ok (.iastore, 1) := by decide +kernel
theorem dX10_fresh_186 : decode cX10_fresh 186 = .ok (.return_, 1) := by decide +kernel
theorem dX10_call_0 : decode cX10_call 0 = .ok (.iload_n 1, 1) := by decide +kernel
theorem dX10_call_1 : decode cX10_call 1 = .ok (.invokestatic 231, 3) := by decide +kernel
theorem dX10_call_4 : decode cX10_call 4 = .ok (.ifCond .ne 5, 3) := by decide +kernel
theorem dX10_call_7 : decode cX10_call 7 = .ok (.iconst (-1), 1) := by decide +kernel
theorem dX10_call_8 : decode cX10_call 8 = .ok (.ireturn, 1) := by decide +kernel
theorem dX10_call_9 : decode cX10_call 9 = .ok (.aload_n 0, 1) := by decide +kernel
theorem dX10_call_10 : decode cX10_call 10 = .ok (.getfield 7, 3) := by decide +kernel
theorem dX10_call_13 : decode cX10_call 13 = .ok (.iload_n 1, 1) := by decide +kernel
theorem dX10_call_14 : decode cX10_call 14 = .ok (.iaload, 1) := by decide +kernel
theorem dX10_call_15 : decode cX10_call 15 = .ok (.ifCond .eq 6, 3) := by decide +kernel
theorem dX10_call_18 : decode cX10_call 18 = .ok (.bipush (-2), 2) := by decide +kernel
theorem dX10_call_20 : decode cX10_call 20 = .ok (.ireturn, 1) := by decide +kernel
theorem dX10_call_21 : decode cX10_call 21 = .ok (.aload_n 0, 1) := by decide +kernel
theorem dX10_call_22 : decode cX10_call 22 = .ok (.iload_n 1, 1) := by decide +kernel
theorem dX10_call_23 : decode cX10_call 23 = .ok (.invokevirtual 235, 3) := by decide +kernel
theorem dX10_call_26 : decode cX10_call 26 = .ok (.aload_n 0, 1) := by decide +kernel
theorem dX10_call_27 : decode cX10_call 27 = .ok (.getfield 7, 3) := by decide +kernel
theorem dX10_call_30 : decode cX10_call 30 = .ok (.iload_n 1, 1) := by decide +kernel
theorem dX10_call_31 : decode cX10_call 31 = .ok (.iconst 1, 1) := by decide +kernel
theorem dX10_call_32 : decode cX10_call 32 = .ok (.iastore, 1) := by decide +kernel
theorem dX10_call_33 : decode cX10_call 33 = .ok (.aload_n 0, 1) := by decide +kernel
theorem dX10_call_34 : decode cX10_call 34 = .ok (.getfield 19, 3) := by decide +kernel
theorem dX10_call_37 : decode cX10_call 37 = .ok (.iload_n 1, 1) := by decide +kernel
theorem dX10_call_38 : decode cX10_call 38 = .ok (.iconst 0, 1) := by decide +kernel
theorem dX10_call_39 : decode cX10_call 39 = .ok (.bastore, 1) := by decide +kernel
theorem dX10_call_40 : decode cX10_call 40 = .ok (.aload_n 0, 1) := by decide +kernel
theorem dX10_call_41 : decode cX10_call 41 = .ok (.iload_n 1, 1) := by decide +kernel
theorem dX10_call_42 : decode cX10_call 42 = .ok (.sipush 230, 3) := by decide +kernel
theorem dX10_call_45 : decode cX10_call 45 = .ok (.iconst 0, 1) := by decide +kernel
theorem dX10_call_46 : decode cX10_call 46 = .ok (.aload_n 0, 1) := by decide +kernel
theorem dX10_call_47 : decode cX10_call 47 = .ok (.getfield 13, 3) := by decide +kernel
theorem dX10_call_50 : decode cX10_call 50 = .ok (.iload_n 1, 1) := by decide +kernel
theorem dX10_call_51 : decode cX10_call 51 = .ok (.iaload, 1) := by decide +kernel
theorem dX10_call_52 : decode cX10_call 52 = .ok (.bipush 64, 2) := by decide +kernel
theorem dX10_call_54 : decode cX10_call 54 = .ok (.invokevirtual 238, 3) := by decide +kernel
theorem dX10_call_57 : decode cX10_call 57 = .ok (.aload_n 0, 1) := by decide +kernel
theorem dX10_call_58 : decode cX10_call 58 = .ok (.iload_n 1, 1) := by decide +kernel
theorem dX10_call_59 : decode cX10_call 59 = .ok (.invokevirtual 242, 3) := by decide +kernel
theorem dX10_call_62 : decode cX10_call 62 = .ok (.aload_n 0, 1) := by decide +kernel
theorem dX10_call_63 : decode cX10_call 63 = .ok (.getfield 13, 3) := by decide +kernel
theorem dX10_call_66 : decode cX10_call 66 = .ok (.iload_n 1, 1) := by decide +kernel
theorem dX10_call_67 : decode cX10_call 67 = .ok (.iaload, 1) := by decide +kernel
theorem dX10_call_68 : decode cX10_call 68 = .ok (.ireturn, 1) := by decide +kernel
theorem dX10_end_0 : decode cX10_end 0 = .ok (.iload_n 1, 1) := by decide +kernel
theorem dX10_end_1 : decode cX10_end 1 = .ok (.invokestatic 231, 3) := by decide +kernel
theorem dX10_end_4 : decode cX10_end 4 = .ok (.ifCond .ne 5, 3) := by decide +kernel
theorem dX10_end_7 : decode cX10_end 7 = .ok (.iconst (-1), 1) := by decide +kernel
theorem dX10_end_8 : decode cX10_end 8 = .ok (.ireturn, 1) := by decide +kernel
theorem dX10_end_9 : decode cX10_end 9 = .ok (.aload_n 0, 1) := by decide +kernel
theorem dX10_end_10 : decode cX10_end 10 = .ok (.getfield 7, 3) := by decide +kernel
theorem dX10_end_13 : decode cX10_end 13 = .ok (.iload_n 1, 1) := by decide +kernel
theorem dX10_end_14 : decode cX10_end 14 = .ok (.iaload, 1) := by decide +kernel
theorem dX10_end_15 : decode cX10_end 15 = .ok (.iconst 2, 1) := by decide +kernel
theorem dX10_end_16 : decode cX10_end 16 = .ok (.if_icmp .eq 16, 3) := by decide +kernel
theorem dX10_end_19 : decode cX10_end 19 = .ok (.aload_n 0, 1) := by decide +kernel
theorem dX10_end_20 : decode cX10_end 20 = .ok (.getfield 7, 3) := by decide +kernel
theorem dX10_end_23 : decode cX10_end 23 = .ok (.iload_n 1, 1) := by decide +kernel
theorem dX10_end_24 : decode cX10_end 24 = .ok (.iaload, 1) := by decide +kernel
theorem dX10_end_25 : decode cX10_end 25 = .ok (.iconst 1, 1) := by decide +kernel
theorem dX10_end_26 : decode cX10_end 26 = .ok (.if_icmp .eq 6, 3) := by decide +kernel
theorem dX10_end_29 : decode cX10_end 29 = .ok (.bipush (-2), 2) := by decide +kernel
theorem dX10_end_31 : decode cX10_end 31 = .ok (.ireturn, 1) := by decide +kernel
theorem dX10_end_32 : decode cX10_end 32 = .ok (.aload_n 0, 1) := by decide +kernel
theorem dX10_end_33 : decode cX10_end 33 = .ok (.iload_n 1, 1) := by decide +kernel
theorem dX10_end_34 : decode cX10_end 34 = .ok (.sipush 128, 3) := by decide +kernel
theorem dX10_end_37 : decode cX10_end 37 = .ok (.aload_n 0, 1) := by decide +kernel
theorem dX10_end_38 : decode cX10_end 38 = .ok (.getfield 16, 3) := by decide +kernel
theorem dX10_end_41 : decode cX10_end 41 = .ok (.iload_n 1, 1) := by decide +kernel
theorem dX10_end_42 : decode cX10_end 42 = .ok (.iaload, 1) := by decide +kernel
theorem dX10_end_43 : decode cX10_end 43 = .ok (.aload_n 0, 1) := by decide +kernel
theorem dX10_end_44 : decode cX10_end 44 = .ok (.getfield 13, 3) := by decide +kernel
theorem dX10_end_47 : decode cX10_end 47 = .ok (.iload_n 1, 1) := by decide +kernel
theorem dX10_end_48 : decode cX10_end 48 = .ok (.iaload, 1) := by decide +kernel
theorem dX10_end_49 : decode cX10_end 49 = .ok (.iconst 0, 1) := by decide +kernel
theorem dX10_end_50 : decode cX10_end 50 = .ok (.invokevirtual 238, 3) := by decide +kernel
theorem dX10_end_53 : decode cX10_end 53 = .ok (.aload_n 0, 1) := by decide +kernel
theorem dX10_end_54 : decode cX10_end 54 = .ok (.iload_n 1, 1) := by decide +kernel
theorem dX10_end_55 : decode cX10_end 55 = .ok (.invokevirtual 242, 3) := by decide +kernel
theorem dX10_end_58 : decode cX10_end 58 = .ok (.aload_n 0, 1) := by decide +kernel
theorem dX10_end_59 : decode cX10_end 59 = .ok (.iload_n 1, 1) := by decide +kernel
theorem dX10_end_60 : decode cX10_end 60 = .ok (.iconst 0, 1) := by decide +kernel
theorem dX10_end_61 : decode cX10_end 61 = .ok (.invokevirtual 245, 3) := by decide +kernel
theorem dX10_end_64 : decode cX10_end 64 = .ok (.aload_n 0, 1) := by decide +kernel
