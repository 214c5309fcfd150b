theorem dX10_arrive_139 : decode cX10_arrive 139 = .ok (.sipush 208, 3) := by decide +kernel
theorem dX10_arrive_142 : decode cX10_arrive 142 = .ok (.if_icmp .ne 11, 3) := by decide +kernel
theorem dX10_arrive_145 : decode cX10_arrive 145 = .ok (.aload_n 0, 1) := by decide +kernel
theorem dX10_arrive_146 : decode cX10_arrive 146 = .ok (.iload_n 1, 1) := by decide +kernel
theorem dX10_arrive_147 : decode cX10_arrive 147 = .ok (.invokevirtual 284, 3) := by decide +kernel
theorem dX10_arrive_150 : decode cX10_arrive 150 = .ok (.goto 90, 3) := by decide +kernel
theorem dX10_arrive_153 : decode cX10_arrive 153 = .ok (.iload_n 2, 1) := by decide +kernel
theorem dX10_arrive_154 : decode cX10_arrive 154 = .ok (.bipush 96, 2) := by decide +kernel
theorem dX10_arrive_156 : decode cX10_arrive 156 = .ok (.if_icmp .ne 11, 3) := by decide +kernel
theorem dX10_arrive_159 : decode cX10_arrive 159 = .ok (.aload_n 0, 1) := by decide +kernel
theorem dX10_arrive_160 : decode cX10_arrive 160 = .ok (.iload_n 1, 1) := by decide +kernel
theorem dX10_arrive_161 : decode cX10_arrive 161 = .ok (.invokevirtual 287, 3) := by decide +kernel
theorem dX10_arrive_164 : decode cX10_arrive 164 = .ok (.goto 76, 3) := by decide +kernel
theorem dX10_arrive_167 : decode cX10_arrive 167 = .ok (.iload_n 2, 1) := by decide +kernel
theorem dX10_arrive_168 : decode cX10_arrive 168 = .ok (.sipush 240, 3) := by decide +kernel
theorem dX10_arrive_171 : decode cX10_arrive 171 = .ok (.if_icmp .ne 11, 3) := by decide +kernel
theorem dX10_arrive_174 : decode cX10_arrive 174 = .ok (.aload_n 0, 1) := by decide +kernel
theorem dX10_arrive_175 : decode cX10_arrive 175 = .ok (.iload_n 1, 1) := by decide +kernel
theorem dX10_arrive_176 : decode cX10_arrive 176 = .ok (.invokevirtual 290, 3) := by decide +kernel
theorem dX10_arrive_179 : decode cX10_arrive 179 = .ok (.goto 61, 3) := by decide +kernel
theorem dX10_arrive_182 : decode cX10_arrive 182 = .ok (.iload_n 2, 1) := by decide +kernel
theorem dX10_arrive_183 : decode cX10_arrive 183 = .ok (.bipush 16, 2) := by decide +kernel
theorem dX10_arrive_185 : decode cX10_arrive 185 = .ok (.if_icmp .ne 11, 3) := by decide +kernel
theorem dX10_arrive_188 : decode cX10_arrive 188 = .ok (.aload_n 0, 1) := by decide +kernel
theorem dX10_arrive_189 : decode cX10_arrive 189 = .ok (.iload_n 1, 1) := by decide +kernel
theorem dX10_arrive_190 : decode cX10_arrive 190 = .ok (.invokevirtual 293, 3) := by decide +kernel
theorem dX10_arrive_193 : decode cX10_arrive 193 = .ok (.goto 47, 3) := by decide +kernel
theorem dX10_arrive_196 : decode cX10_arrive 196 = .ok (.iload_n 2, 1) := by decide +kernel
theorem dX10_arrive_197 : decode cX10_arrive 197 = .ok (.bipush 32, 2) := by decide +kernel
theorem dX10_arrive_199 : decode cX10_arrive 199 = .ok (.if_icmp .ne 11, 3) := by decide +kernel
theorem dX10_arrive_202 : decode cX10_arrive 202 = .ok (.aload_n 0, 1) := by decide +kernel
theorem dX10_arrive_203 : decode cX10_arrive 203 = .ok (.iload_n 1, 1) := by decide +kernel
theorem dX10_arrive_204 : decode cX10_arrive 204 = .ok (.invokevirtual 296, 3) := by decide +kernel
theorem dX10_arrive_207 : decode cX10_arrive 207 = .ok (.goto 33, 3) := by decide +kernel
theorem dX10_arrive_210 : decode cX10_arrive 210 = .ok (.iload_n 2, 1) := by decide +kernel
theorem dX10_arrive_211 : decode cX10_arrive 211 = .ok (.sipush 128, 3) := by decide +kernel
theorem dX10_arrive_214 : decode cX10_arrive 214 = .ok (.if_icmp .ne 11, 3) := by decide +kernel
theorem dX10_arrive_217 : decode cX10_arrive 217 = .ok (.aload_n 0, 1) := by decide +kernel
theorem dX10_arrive_218 : decode cX10_arrive 218 = .ok (.iload_n 1, 1) := by decide +kernel
theorem dX10_arrive_219 : decode cX10_arrive 219 = .ok (.invokevirtual 299, 3) := by decide +kernel
theorem dX10_arrive_222 : decode cX10_arrive 222 = .ok (.goto 18, 3) := by decide +kernel
theorem dX10_arrive_225 : decode cX10_arrive 225 = .ok (.aload_n 0, 1) := by decide +kernel
theorem dX10_arrive_226 : decode cX10_arrive 226 = .ok (.getfield 7, 3) := by decide +kernel
theorem dX10_arrive_229 : decode cX10_arrive 229 = .ok (.iload_n 1, 1) := by decide +kernel
theorem dX10_arrive_230 : decode cX10_arrive 230 = .ok (.iaload, 1) := by decide +kernel
theorem dX10_arrive_231 : decode cX10_arrive 231 = .ok (.iconst 3, 1) := by decide +kernel
theorem dX10_arrive_232 : decode cX10_arrive 232 = .ok (.if_icmp .ne 8, 3) := by decide +kernel
theorem dX10_arrive_235 : decode cX10_arrive 235 = .ok (.aload_n 0, 1) := by decide +kernel
theorem dX10_arrive_236 : decode cX10_arrive 236 = .ok (.iload_n 1, 1) := by decide +kernel
theorem dX10_arrive_237 : decode cX10_arrive 237 = .ok (.invokevirtual 248, 3) := by decide +kernel
theorem dX10_arrive_240 : decode cX10_arrive 240 = .ok (.return_, 1) := by decide +kernel
theorem dX10_hasFault_0 : decode cX10_hasFault 0 = .ok (.iconst 0, 1) := by decide +kernel
theorem dX10_hasFault_1 : decode cX10_hasFault 1 = .ok (.istore_n 3, 1) := by decide +kernel
theorem dX10_hasFault_2 : decode cX10_hasFault 2 = .ok (.iconst 0, 1) := by decide +kernel
theorem dX10_hasFault_3 : decode cX10_hasFault 3 = .ok (.istore 4, 2) := by decide +kernel
theorem dX10_hasFault_5 : decode cX10_hasFault 5 = .ok (.iload 4, 2) := by decide +kernel
theorem dX10_hasFault_7 : decode cX10_hasFault 7 = .ok (.aload_n 0, 1) := by decide +kernel
theorem dX10_hasFault_8 : decode cX10_hasFault 8 = .ok (.getfield 302, 3) := by decide +kernel
theorem dX10_hasFault_11 : decode cX10_hasFault 11 = .ok (.if_icmp .ge 41, 3) := by decide +kernel
theorem dX10_hasFault_14 : decode cX10_hasFault 14 = .ok (.iload_n 3, 1) := by decide +kernel
theorem dX10_hasFault_15 : decode cX10_hasFault 15 = .ok (.ifCond .ne 25, 3) := by decide +kernel
theorem dX10_hasFault_18 : decode cX10_hasFault 18 = .ok (.aload_n 0, 1) := by decide +kernel
theorem dX10_hasFault_19 : decode cX10_hasFault 19 = .ok (.getfield 152, 3) := by decide +kernel
theorem dX10_hasFault_22 : decode cX10_hasFault 22 = .ok (.iload 4, 2) := by decide +kernel
theorem dX10_hasFault_24 : decode cX10_hasFault 24 = .ok (.iaload, 1) := by decide +kernel
theorem dX10_hasFault_25 : decode cX10_hasFault 25 = .ok (.iload_n 1, 1) := by decide +kernel
theorem dX10_hasFault_26 : decode cX10_hasFault 26 = .ok (.if_icmp .ne 18, 3) := by decide +kernel
theorem dX10_hasFault_29 : decode cX10_hasFault 29 = .ok (.aload_n 0, 1) := by decide +kernel
theorem dX10_hasFault_30 : decode cX10_hasFault 30 = .ok (.getfield 155, 3) := by decide +kernel
theorem dX10_hasFault_33 : decode cX10_hasFault 33 = .ok (.iload 4, 2) := by decide +kernel
theorem dX10_hasFault_35 : decode cX10_hasFault 35 = .ok (.iaload, 1) := by decide +kernel
theorem dX10_hasFault_36 : decode cX10_hasFault 36 = .ok (.iload_n 2, 1) := by decide +kernel
theorem dX10_hasFault_37 : decode cX10_hasFault 37 = .ok (.if_icmp .ne 7, 3) := by decide +kernel
theorem dX10_hasFault_40 : decode cX10_hasFault 40 = .ok (.iconst 1, 1) := by decide +kernel
theorem dX10_hasFault_41 : decode cX10_hasFault 41 = .ok (.goto 4, 3) := by decide +kernel
theorem dX10_hasFault_44 : decode cX10_hasFault 44 = .ok (.iconst 0, 1) := by decide +kernel
theorem dX10_hasFault_45 : decode cX10_hasFault 45 = .ok (.istore_n 3, 1) := by decide +kernel
theorem dX10_hasFault_46 : decode cX10_hasFault 46 = .ok (.iinc 4 1, 3) := by decide +kernel
theorem dX10_hasFault_49 : decode cX10_hasFault 49 = .ok (.goto (-44), 3) := by decide +kernel
theorem dX10_hasFault_52 : decode cX10_hasFault 52 = .ok (.iload_n 3, 1) := by decide +kernel
theorem dX10_hasFault_53 : decode cX10_hasFault 53 = .ok (.ireturn, 1) := by decide +kernel
theorem dX10_carry_0 : decode cX10_carry 0 = .ok (.iload_n 1, 1) := by decide +kernel
theorem dX10_carry_1 : decode cX10_carry 1 = .ok (.sipush 4096, 3) := by decide +kernel
theorem dX10_carry_4 : decode cX10_carry 4 = .ok (.irem, 1) := by decide +kernel
theorem dX10_carry_5 : decode cX10_carry 5 = .ok (.istore_n 2, 1) := by decide +kernel
theorem dX10_carry_6 : decode cX10_carry 6 = .ok (.aload_n 0, 1) := by decide +kernel
theorem dX10_carry_7 : decode cX10_carry 7 = .ok (.aload_n 0, 1) := by decide +kernel
theorem dX10_carry_8 : decode cX10_carry 8 = .ok (.getfield 168, 3) := by decide +kernel
theorem dX10_carry_11 : decode cX10_carry 11 = .ok (.iload_n 2, 1) := by decide +kernel
theorem dX10_carry_12 : decode cX10_carry 12 = .ok (.iaload, 1) := by decide +kernel
theorem dX10_carry_13 : decode cX10_carry 13 = .ok (.putfield 259, 3) := by decide +kernel
theorem dX10_carry_16 : decode cX10_carry 16 = .ok (.iconst 0, 1) := by decide +kernel
theorem dX10_carry_17 : decode cX10_carry 17 = .ok (.istore_n 3, 1) := by decide +kernel
theorem dX10_carry_18 : decode cX10_carry 18 = .ok (.iload_n 3, 1) := by decide +kernel
theorem dX10_carry_19 : decode cX10_carry 19 = .ok (.aload_n 0, 1) := by decide +kernel
theorem dX10_carry_20 : decode cX10_carry 20 = .ok (.getfield 259, 3) := by decide +kernel
theorem dX10_carry_23 : decode cX10_carry 23 = .ok (.if_icmp .ge 26, 3) := by decide +kernel
theorem dX10_carry_26 : decode cX10_carry 26 = .ok (.aload_n 0, 1) := by decide +kernel
theorem dX10_carry_27 : decode cX10_carry 27 = .ok (.getfield 177, 3) := by decide +kernel
theorem dX10_carry_30 : decode cX10_carry 30 = .ok (.iload_n 3, 1) := by decide +kernel
theorem dX10_carry_31 : decode cX10_carry 31 = .ok (.aload_n 0, 1) := by decide +kernel
theorem dX10_carry_32 : decode cX10_carry 32 = .ok (.getfield 165, 3) := by decide +kernel
theorem dX10_carry_35 : decode cX10_carry 35 = .ok (.bipush 20, 2) := by decide +kernel
theorem dX10_carry_37 : decode cX10_carry 37 = .ok (.iload_n 2, 1) := by decide +kernel
theorem dX10_carry_38 : decode cX10_carry 38 = .ok (.imul, 1) := by decide +kernel
theorem dX10_carry_39 : decode cX10_carry 39 = .ok (.iload_n 3, 1) := by decide +kernel
theorem dX10_carry_40 : decode cX10_carry 40 = .ok (.iadd, 1) := by decide +kernel
theorem dX10_carry_41 : decode cX10_carry 41 = .ok (.iaload, 1) := by decide +kernel
theorem dX10_carry_42 : decode cX10_carry 42 = .ok (.iastore, 1) := by decide +kernel
theorem dX10_carry_43 : decode cX10_carry 43 = .ok (.iinc 3 1, 3) := by decide +kernel
theorem dX10_carry_46 : decode cX10_carry 46 = .ok (.goto (-28), 3) := by decide +kernel
theorem dX10_carry_49 : decode cX10_carry 49 = .ok (.iconst (-1), 1) := by decide +kernel
theorem dX10_carry_50 : decode cX10_carry 50 = .ok (.istore_n 3, 1) := by decide +kernel
theorem dX10_carry_51 : decode cX10_carry 51 = .ok (.iconst 0, 1) := by decide +kernel
theorem dX10_carry_52 : decode cX10_carry 52 = .ok (.istore 4, 2) := by decide +kernel
theorem dX10_carry_54 : decode cX10_carry 54 = .ok (.iload 4, 2) := by decide +kernel
theorem dX10_carry_56 : decode cX10_carry 56 = .ok (.aload_n 0, 1) := by decide +kernel
theorem dX10_carry_57 : decode cX10_carry 57 = .ok (.getfield 302, 3) := by decide +kernel
theorem dX10_carry_60 : decode cX10_carry 60 = .ok (.if_icmp .ge 38, 3) := by decide +kernel
theorem dX10_carry_63 : decode cX10_carry 63 = .ok (.aload_n 0, 1) := by decide +kernel
theorem dX10_carry_64 : decode cX10_carry 64 = .ok (.getfield 152, 3) := by decide +kernel
theorem dX10_carry_67 : decode cX10_carry 67 = .ok (.iload 4, 2) := by decide +kernel
theorem dX10_carry_69 : decode cX10_carry 69 = .ok (.iaload, 1) := by decide +kernel
theorem dX10_carry_70 : decode cX10_carry 70 = .ok (.iconst 4, 1) := by decide +kernel
theorem dX10_carry_71 : decode cX10_carry 71 = .ok (.if_icmp .ne 19, 3) := by decide +kernel
theorem dX10_carry_74 : decode cX10_carry 74 = .ok (.aload_n 0, 1) := by decide +kernel
theorem dX10_carry_75 : decode cX10_carry 75 = .ok (.getfield 155, 3) := by decide +kernel
theorem dX10_carry_78 : decode cX10_carry 78 = .ok (.iload 4, 2) := by decide +kernel
theorem dX10_carry_80 : decode cX10_carry 80 = .ok (.iaload, 1) := by decide +kernel
theorem dX10_carry_81 : decode cX10_carry 81 = .ok (.iload_n 1, 1) := by decide +kernel
theorem dX10_carry_82 : decode cX10_carry 82 = .ok (.if_icmp .ne 8, 3) := by decide +kernel
theorem dX10_carry_85 : decode cX10_carry 85 = .ok (.iload 4, 2) := by decide +kernel
theorem dX10_carry_87 : decode cX10_carry 87 = .ok (.goto 4, 3) := by decide +kernel
theorem dX10_carry_90 : decode cX10_carry 90 = .ok (.iload_n 3, 1) := by decide +kernel
theorem dX10_carry_91 : decode cX10_carry 91 = .ok (.istore_n 3, 1) := by decide +kernel
theorem dX10_carry_92 : decode cX10_carry 92 = .ok (.iinc 4 1, 3) := by decide +kernel
theorem dX10_carry_95 : decode cX10_carry 95 = .ok (.goto (-41), 3) := by decide +kernel
theorem dX10_carry_98 : decode cX10_carry 98 = .ok (.iload_n 3, 1) := by decide +kernel
theorem dX10_carry_99 : decode cX10_carry 99 = .ok (.ifCond .lt 37, 3) := by decide +kernel
theorem dX10_carry_102 : decode cX10_carry 102 = .ok (.aload_n 0, 1) := by decide +kernel
theorem dX10_carry_103 : decode cX10_carry 103 = .ok (.getfield 158, 3) := by decide +kernel
theorem dX10_carry_106 : decode cX10_carry 106 = .ok (.iload_n 3, 1) := by decide +kernel
theorem dX10_carry_107 : decode cX10_carry 107 = .ok (.iaload, 1) := by decide +kernel
theorem dX10_carry_108 : decode cX10_carry 108 = .ok (.aload_n 0, 1) := by decide +kernel
theorem dX10_carry_109 : decode cX10_carry 109 = .ok (.getfield 259, 3) := by decide +kernel
theorem dX10_carry_112 : decode cX10_carry 112 = .ok (.irem, 1) := by decide +kernel
theorem dX10_carry_113 : decode cX10_carry 113 = .ok (.istore 4, 2) := by decide +kernel
theorem dX10_carry_115 : decode cX10_carry 115 = .ok (.aload_n 0, 1) := by decide +kernel
theorem dX10_carry_116 : decode cX10_carry 116 = .ok (.getfield 177, 3) := by decide +kernel
theorem dX10_carry_119 : decode cX10_carry 119 = .ok (.iload 4, 2) := by decide +kernel
theorem dX10_carry_121 : decode cX10_carry 121 = .ok (.aload_n 0, 1) := by decide +kernel
theorem dX10_carry_122 : decode cX10_carry 122 = .ok (.getfield 177, 3) := by decide +kernel
theorem dX10_carry_125 : decode cX10_carry 125 = .ok (.iload 4, 2) := by decide +kernel
theorem dX10_carry_127 : decode cX10_carry 127 = .ok (.iaload, 1) := by decide +kernel
theorem dX10_carry_128 : decode cX10_carry 128 = .ok (.aload_n 0, 1) := by decide +kernel
theorem dX10_carry_129 : decode cX10_carry 129 = .ok (.getfield 161, 3) := by decide +kernel
theorem dX10_carry_132 : decode cX10_carry 132 = .ok (.iload_n 3, 1) := by decide +kernel
theorem dX10_carry_133 : decode cX10_carry 133 = .ok (.iaload, 1) := by decide +kernel
theorem dX10_carry_134 : decode cX10_carry 134 = .ok (.ixor, 1) := by decide +kernel
theorem dX10_carry_135 : decode cX10_carry 135 = .ok (.iastore, 1) := by decide +kernel
theorem dX10_carry_136 : decode cX10_carry 136 = .ok (.aload_n 0, 1) := by decide +kernel
theorem dX10_carry_137 : decode cX10_carry 137 = .ok (.aload_n 0, 1) := by decide +kernel
theorem dX10_carry_138 : decode cX10_carry 138 = .ok (.getfield 171, 3) := by decide +kernel
theorem dX10_carry_141 : decode cX10_carry 141 = .ok (.iload_n 2, 1) := by decide +kernel
theorem dX10_carry_142 : decode cX10_carry 142 = .ok (.iaload, 1) := by decide +kernel
theorem dX10_carry_143 : decode cX10_carry 143 = .ok (.invokevirtual 305, 3) := by decide +kernel
theorem dX10_carry_146 : decode cX10_carry 146 = .ok (.return_, 1) := by decide +kernel
theorem dX10_arriveAll_0 : decode cX10_arriveAll 0 = .ok (.aload_n 0, 1) := by decide +kernel
theorem dX10_arriveAll_1 : decode cX10_arriveAll 1 = .ok (.getfield 195, 3) := by decide +kernel
theorem dX10_arriveAll_4 : decode cX10_arriveAll 4 = .ok (.istore_n 1, 1) := by decide +kernel
theorem dX10_arriveAll_5 : decode cX10_arriveAll 5 = .ok (.iconst 0, 1) := by decide +kernel
theorem dX10_arriveAll_6 : decode cX10_arriveAll 6 = .ok (.istore_n 2, 1) := by decide +kernel
theorem dX10_arriveAll_7 : decode cX10_arriveAll 7 = .ok (.iload_n 2, 1) := by decide +kernel
theorem dX10_arriveAll_8 : decode cX10_arriveAll 8 = .ok (.iconst 2, 1) := by decide +kernel
theorem dX10_arriveAll_9 : decode cX10_arriveAll 9 = .ok (.if_icmp .ge 103, 3) := by decide +kernel
theorem dX10_arriveAll_12 : decode cX10_arriveAll 12 = .ok (.aload_n 0, 1) := by decide +kernel
theorem dX10_arriveAll_13 : decode cX10_arriveAll 13 = .ok (.getfield 308, 3) := by decide +kernel
theorem dX10_arriveAll_16 : decode cX10_arriveAll 16 = .ok (.istore_n 3, 1) := by decide +kernel
theorem dX10_arriveAll_17 : decode cX10_arriveAll 17 = .ok (.iload_n 3, 1) := by decide +kernel
theorem dX10_arriveAll_18 : decode cX10_arriveAll 18 = .ok (.iload_n 1, 1) := by decide +kernel
theorem dX10_arriveAll_19 : decode cX10_arriveAll 19 = .ok (.if_icmp .ge 87, 3) := by decide +kernel
theorem dX10_arriveAll_22 : decode cX10_arriveAll 22 = .ok (.aload_n 0, 1) := by decide +kernel
theorem dX10_arriveAll_23 : decode cX10_arriveAll 23 = .ok (.iconst 3, 1) := by decide +kernel
theorem dX10_arriveAll_24 : decode cX10_arriveAll 24 = .ok (.iload_n 3, 1) := by decide +kernel
theorem dX10_arriveAll_25 : decode cX10_arriveAll 25 = .ok (.invokevirtual 311, 3) := by decide +kernel
theorem dX10_arriveAll_28 : decode cX10_arriveAll 28 = .ok (.ifCond .eq 8, 3) := by decide +kernel
theorem dX10_arriveAll_31 : decode cX10_arriveAll 31 = .ok (.bipush 7, 2) := by decide +kernel
theorem dX10_arriveAll_33 : decode cX10_arriveAll 33 = .ok (.goto 4, 3) := by decide +kernel
theorem dX10_arriveAll_36 : decode cX10_arriveAll 36 = .ok (.iconst 2, 1) := by decide +kernel
theorem dX10_arriveAll_37 : decode cX10_arriveAll 37 = .ok (.istore 4, 2) := by decide +kernel
theorem dX10_arriveAll_39 : decode cX10_arriveAll 39 = .ok (.aload_n 0, 1) := by decide +kernel
theorem dX10_arriveAll_40 : decode cX10_arriveAll 40 = .ok (.getfield 174, 3) := by decide +kernel
theorem dX10_arriveAll_43 : decode cX10_arriveAll 43 = .ok (.iload_n 3, 1) := by decide +kernel
theorem dX10_arriveAll_44 : decode cX10_arriveAll 44 = .ok (.sipush 4096, 3) := by decide +kernel
theorem dX10_arriveAll_47 : decode cX10_arriveAll 47 = .ok (.irem, 1) := by decide +kernel
theorem dX10_arriveAll_48 : decode cX10_arriveAll 48 = .ok (.iaload, 1) := by decide +kernel
theorem dX10_arriveAll_49 : decode cX10_arriveAll 49 = .ok (.iload 4, 2) := by decide +kernel
theorem dX10_arriveAll_51 : decode cX10_arriveAll 51 = .ok (.iadd, 1) := by decide +kernel
theorem dX10_arriveAll_52 : decode cX10_arriveAll 52 = .ok (.iload_n 2, 1) := by decide +kernel
theorem dX10_arriveAll_53 : decode cX10_arriveAll 53 = .ok (.iadd, 1) := by decide +kernel
theorem dX10_arriveAll_54 : decode cX10_arriveAll 54 = .ok (.aload_n 0, 1) := by decide +kernel
theorem dX10_arriveAll_55 : decode cX10_arriveAll 55 = .ok (.getfield 198, 3) := by decide +kernel
theorem dX10_arriveAll_58 : decode cX10_arriveAll 58 = .ok (.if_icmp .ne 29, 3) := by decide +kernel
theorem dX10_arriveAll_61 : decode cX10_arriveAll 61 = .ok (.aload_n 0, 1) := by decide +kernel
theorem dX10_arriveAll_62 : decode cX10_arriveAll 62 = .ok (.iconst 1, 1) := by decide +kernel
theorem dX10_arriveAll_63 : decode cX10_arriveAll 63 = .ok (.iload_n 3, 1) := by decide +kernel
