theorem dX10_putBehind_172 : decode cX10_putBehind 172 = .ok (.iload 4, 2) := by decide +kernel
theorem dX10_putBehind_174 : decode cX10_putBehind 174 = .ok (.iadd, 1) := by decide +kernel
theorem dX10_putBehind_175 : decode cX10_putBehind 175 = .ok (.iaload, 1) := by decide +kernel
theorem dX10_putBehind_176 : decode cX10_putBehind 176 = .ok (.iastore, 1) := by decide +kernel
theorem dX10_putBehind_177 : decode cX10_putBehind 177 = .ok (.aload_n 0, 1) := by decide +kernel
theorem dX10_putBehind_178 : decode cX10_putBehind 178 = .ok (.getfield 134, 3) := by decide +kernel
theorem dX10_putBehind_181 : decode cX10_putBehind 181 = .ok (.iload_n 1, 1) := by decide +kernel
theorem dX10_putBehind_182 : decode cX10_putBehind 182 = .ok (.dup2, 1) := by decide +kernel
theorem dX10_putBehind_183 : decode cX10_putBehind 183 = .ok (.iaload, 1) := by decide +kernel
theorem dX10_putBehind_184 : decode cX10_putBehind 184 = .ok (.iconst 1, 1) := by decide +kernel
theorem dX10_putBehind_185 : decode cX10_putBehind 185 = .ok (.iadd, 1) := by decide +kernel
theorem dX10_putBehind_186 : decode cX10_putBehind 186 = .ok (.iastore, 1) := by decide +kernel
theorem dX10_putBehind_187 : decode cX10_putBehind 187 = .ok (.iinc 4 1, 3) := by decide +kernel
theorem dX10_putBehind_190 : decode cX10_putBehind 190 = .ok (.goto (-54), 3) := by decide +kernel
theorem dX10_putBehind_193 : decode cX10_putBehind 193 = .ok (.aload_n 0, 1) := by decide +kernel
theorem dX10_putBehind_194 : decode cX10_putBehind 194 = .ok (.getfield 122, 3) := by decide +kernel
theorem dX10_putBehind_197 : decode cX10_putBehind 197 = .ok (.iload_n 1, 1) := by decide +kernel
theorem dX10_putBehind_198 : decode cX10_putBehind 198 = .ok (.dup2, 1) := by decide +kernel
theorem dX10_putBehind_199 : decode cX10_putBehind 199 = .ok (.iaload, 1) := by decide +kernel
theorem dX10_putBehind_200 : decode cX10_putBehind 200 = .ok (.iconst 1, 1) := by decide +kernel
theorem dX10_putBehind_201 : decode cX10_putBehind 201 = .ok (.iadd, 1) := by decide +kernel
theorem dX10_putBehind_202 : decode cX10_putBehind 202 = .ok (.iastore, 1) := by decide +kernel
theorem dX10_putBehind_203 : decode cX10_putBehind 203 = .ok (.aload_n 0, 1) := by decide +kernel
theorem dX10_putBehind_204 : decode cX10_putBehind 204 = .ok (.getfield 113, 3) := by decide +kernel
theorem dX10_putBehind_207 : decode cX10_putBehind 207 = .ok (.iload_n 1, 1) := by decide +kernel
theorem dX10_putBehind_208 : decode cX10_putBehind 208 = .ok (.iconst 0, 1) := by decide +kernel
theorem dX10_putBehind_209 : decode cX10_putBehind 209 = .ok (.iastore, 1) := by decide +kernel
theorem dX10_putBehind_210 : decode cX10_putBehind 210 = .ok (.aload_n 0, 1) := by decide +kernel
theorem dX10_putBehind_211 : decode cX10_putBehind 211 = .ok (.getfield 116, 3) := by decide +kernel
theorem dX10_putBehind_214 : decode cX10_putBehind 214 = .ok (.iload_n 1, 1) := by decide +kernel
theorem dX10_putBehind_215 : decode cX10_putBehind 215 = .ok (.iconst 0, 1) := by decide +kernel
theorem dX10_putBehind_216 : decode cX10_putBehind 216 = .ok (.iastore, 1) := by decide +kernel
theorem dX10_putBehind_217 : decode cX10_putBehind 217 = .ok (.aload_n 0, 1) := by decide +kernel
theorem dX10_putBehind_218 : decode cX10_putBehind 218 = .ok (.getfield 104, 3) := by decide +kernel
theorem dX10_putBehind_221 : decode cX10_putBehind 221 = .ok (.iload_n 2, 1) := by decide +kernel
theorem dX10_putBehind_222 : decode cX10_putBehind 222 = .ok (.iconst (-1), 1) := by decide +kernel
theorem dX10_putBehind_223 : decode cX10_putBehind 223 = .ok (.iastore, 1) := by decide +kernel
theorem dX10_putBehind_224 : decode cX10_putBehind 224 = .ok (.aload_n 0, 1) := by decide +kernel
theorem dX10_putBehind_225 : decode cX10_putBehind 225 = .ok (.getfield 98, 3) := by decide +kernel
theorem dX10_putBehind_228 : decode cX10_putBehind 228 = .ok (.iload_n 1, 1) := by decide +kernel
theorem dX10_putBehind_229 : decode cX10_putBehind 229 = .ok (.aload_n 0, 1) := by decide +kernel
theorem dX10_putBehind_230 : decode cX10_putBehind 230 = .ok (.getfield 98, 3) := by decide +kernel
theorem dX10_putBehind_233 : decode cX10_putBehind 233 = .ok (.iload_n 1, 1) := by decide +kernel
theorem dX10_putBehind_234 : decode cX10_putBehind 234 = .ok (.iaload, 1) := by decide +kernel
theorem dX10_putBehind_235 : decode cX10_putBehind 235 = .ok (.iconst 1, 1) := by decide +kernel
theorem dX10_putBehind_236 : decode cX10_putBehind 236 = .ok (.iadd, 1) := by decide +kernel
theorem dX10_putBehind_237 : decode cX10_putBehind 237 = .ok (.invokestatic 221, 3) := by decide +kernel
theorem dX10_putBehind_240 : decode cX10_putBehind 240 = .ok (.iastore, 1) := by decide +kernel
theorem dX10_putBehind_241 : decode cX10_putBehind 241 = .ok (.sipush 128, 3) := by decide +kernel
theorem dX10_putBehind_244 : decode cX10_putBehind 244 = .ok (.iload_n 1, 1) := by decide +kernel
theorem dX10_putBehind_245 : decode cX10_putBehind 245 = .ok (.imul, 1) := by decide +kernel
theorem dX10_putBehind_246 : decode cX10_putBehind 246 = .ok (.aload_n 0, 1) := by decide +kernel
theorem dX10_putBehind_247 : decode cX10_putBehind 247 = .ok (.getfield 98, 3) := by decide +kernel
theorem dX10_putBehind_250 : decode cX10_putBehind 250 = .ok (.iload_n 1, 1) := by decide +kernel
theorem dX10_putBehind_251 : decode cX10_putBehind 251 = .ok (.iaload, 1) := by decide +kernel
theorem dX10_putBehind_252 : decode cX10_putBehind 252 = .ok (.iadd, 1) := by decide +kernel
theorem dX10_putBehind_253 : decode cX10_putBehind 253 = .ok (.istore_n 2, 1) := by decide +kernel
theorem dX10_putBehind_254 : decode cX10_putBehind 254 = .ok (.goto (-241), 3) := by decide +kernel
theorem dX10_putBehind_257 : decode cX10_putBehind 257 = .ok (.return_, 1) := by decide +kernel
theorem dX10_arriveData_0 : decode cX10_arriveData 0 = .ok (.aload_n 0, 1) := by decide +kernel
theorem dX10_arriveData_1 : decode cX10_arriveData 1 = .ok (.getfield 7, 3) := by decide +kernel
theorem dX10_arriveData_4 : decode cX10_arriveData 4 = .ok (.iload_n 1, 1) := by decide +kernel
theorem dX10_arriveData_5 : decode cX10_arriveData 5 = .ok (.iaload, 1) := by decide +kernel
theorem dX10_arriveData_6 : decode cX10_arriveData 6 = .ok (.iconst 2, 1) := by decide +kernel
theorem dX10_arriveData_7 : decode cX10_arriveData 7 = .ok (.if_icmp .eq 4, 3) := by decide +kernel
theorem dX10_arriveData_10 : decode cX10_arriveData 10 = .ok (.return_, 1) := by decide +kernel
theorem dX10_arriveData_11 : decode cX10_arriveData 11 = .ok (.aload_n 0, 1) := by decide +kernel
theorem dX10_arriveData_12 : decode cX10_arriveData 12 = .ok (.getfield 177, 3) := by decide +kernel
theorem dX10_arriveData_15 : decode cX10_arriveData 15 = .ok (.iconst 4, 1) := by decide +kernel
theorem dX10_arriveData_16 : decode cX10_arriveData 16 = .ok (.iaload, 1) := by decide +kernel
theorem dX10_arriveData_17 : decode cX10_arriveData 17 = .ok (.invokestatic 221, 3) := by decide +kernel
theorem dX10_arriveData_20 : decode cX10_arriveData 20 = .ok (.istore_n 2, 1) := by decide +kernel
theorem dX10_arriveData_21 : decode cX10_arriveData 21 = .ok (.sipush 128, 3) := by decide +kernel
theorem dX10_arriveData_24 : decode cX10_arriveData 24 = .ok (.iload_n 1, 1) := by decide +kernel
theorem dX10_arriveData_25 : decode cX10_arriveData 25 = .ok (.imul, 1) := by decide +kernel
theorem dX10_arriveData_26 : decode cX10_arriveData 26 = .ok (.iload_n 2, 1) := by decide +kernel
theorem dX10_arriveData_27 : decode cX10_arriveData 27 = .ok (.iadd, 1) := by decide +kernel
theorem dX10_arriveData_28 : decode cX10_arriveData 28 = .ok (.istore_n 3, 1) := by decide +kernel
theorem dX10_arriveData_29 : decode cX10_arriveData 29 = .ok (.iload_n 2, 1) := by decide +kernel
theorem dX10_arriveData_30 : decode cX10_arriveData 30 = .ok (.aload_n 0, 1) := by decide +kernel
theorem dX10_arriveData_31 : decode cX10_arriveData 31 = .ok (.getfield 98, 3) := by decide +kernel
theorem dX10_arriveData_34 : decode cX10_arriveData 34 = .ok (.iload_n 1, 1) := by decide +kernel
theorem dX10_arriveData_35 : decode cX10_arriveData 35 = .ok (.iaload, 1) := by decide +kernel
theorem dX10_arriveData_36 : decode cX10_arriveData 36 = .ok (.isub, 1) := by decide +kernel
theorem dX10_arriveData_37 : decode cX10_arriveData 37 = .ok (.invokestatic 221, 3) := by decide +kernel
theorem dX10_arriveData_40 : decode cX10_arriveData 40 = .ok (.aload_n 0, 1) := by decide +kernel
theorem dX10_arriveData_41 : decode cX10_arriveData 41 = .ok (.iload_n 1, 1) := by decide +kernel
theorem dX10_arriveData_42 : decode cX10_arriveData 42 = .ok (.invokevirtual 214, 3) := by decide +kernel
theorem dX10_arriveData_45 : decode cX10_arriveData 45 = .ok (.if_icmp .ge 94, 3) := by decide +kernel
theorem dX10_arriveData_48 : decode cX10_arriveData 48 = .ok (.aload_n 0, 1) := by decide +kernel
theorem dX10_arriveData_49 : decode cX10_arriveData 49 = .ok (.getfield 104, 3) := by decide +kernel
theorem dX10_arriveData_52 : decode cX10_arriveData 52 = .ok (.iload_n 3, 1) := by decide +kernel
theorem dX10_arriveData_53 : decode cX10_arriveData 53 = .ok (.iaload, 1) := by decide +kernel
theorem dX10_arriveData_54 : decode cX10_arriveData 54 = .ok (.ifCond .ge 85, 3) := by decide +kernel
theorem dX10_arriveData_57 : decode cX10_arriveData 57 = .ok (.aload_n 0, 1) := by decide +kernel
theorem dX10_arriveData_58 : decode cX10_arriveData 58 = .ok (.getfield 104, 3) := by decide +kernel
theorem dX10_arriveData_61 : decode cX10_arriveData 61 = .ok (.iload_n 3, 1) := by decide +kernel
theorem dX10_arriveData_62 : decode cX10_arriveData 62 = .ok (.aload_n 0, 1) := by decide +kernel
theorem dX10_arriveData_63 : decode cX10_arriveData 63 = .ok (.getfield 259, 3) := by decide +kernel
theorem dX10_arriveData_66 : decode cX10_arriveData 66 = .ok (.bipush 9, 2) := by decide +kernel
theorem dX10_arriveData_68 : decode cX10_arriveData 68 = .ok (.isub, 1) := by decide +kernel
theorem dX10_arriveData_69 : decode cX10_arriveData 69 = .ok (.iastore, 1) := by decide +kernel
theorem dX10_arriveData_70 : decode cX10_arriveData 70 = .ok (.aload_n 0, 1) := by decide +kernel
theorem dX10_arriveData_71 : decode cX10_arriveData 71 = .ok (.getfield 107, 3) := by decide +kernel
theorem dX10_arriveData_74 : decode cX10_arriveData 74 = .ok (.iload_n 3, 1) := by decide +kernel
theorem dX10_arriveData_75 : decode cX10_arriveData 75 = .ok (.aload_n 0, 1) := by decide +kernel
theorem dX10_arriveData_76 : decode cX10_arriveData 76 = .ok (.getfield 177, 3) := by decide +kernel
theorem dX10_arriveData_79 : decode cX10_arriveData 79 = .ok (.iconst 4, 1) := by decide +kernel
theorem dX10_arriveData_80 : decode cX10_arriveData 80 = .ok (.iaload, 1) := by decide +kernel
theorem dX10_arriveData_81 : decode cX10_arriveData 81 = .ok (.bipush 127, 2) := by decide +kernel
theorem dX10_arriveData_83 : decode cX10_arriveData 83 = .ok (.if_icmp .le 7, 3) := by decide +kernel
theorem dX10_arriveData_86 : decode cX10_arriveData 86 = .ok (.iconst 1, 1) := by decide +kernel
theorem dX10_arriveData_87 : decode cX10_arriveData 87 = .ok (.goto 4, 3) := by decide +kernel
theorem dX10_arriveData_90 : decode cX10_arriveData 90 = .ok (.iconst 0, 1) := by decide +kernel
theorem dX10_arriveData_91 : decode cX10_arriveData 91 = .ok (.bastore, 1) := by decide +kernel
theorem dX10_arriveData_92 : decode cX10_arriveData 92 = .ok (.iconst 0, 1) := by decide +kernel
theorem dX10_arriveData_93 : decode cX10_arriveData 93 = .ok (.istore 4, 2) := by decide +kernel
theorem dX10_arriveData_95 : decode cX10_arriveData 95 = .ok (.iload 4, 2) := by decide +kernel
theorem dX10_arriveData_97 : decode cX10_arriveData 97 = .ok (.aload_n 0, 1) := by decide +kernel
theorem dX10_arriveData_98 : decode cX10_arriveData 98 = .ok (.getfield 104, 3) := by decide +kernel
theorem dX10_arriveData_101 : decode cX10_arriveData 101 = .ok (.iload_n 3, 1) := by decide +kernel
theorem dX10_arriveData_102 : decode cX10_arriveData 102 = .ok (.iaload, 1) := by decide +kernel
theorem dX10_arriveData_103 : decode cX10_arriveData 103 = .ok (.if_icmp .ge 31, 3) := by decide +kernel
theorem dX10_arriveData_106 : decode cX10_arriveData 106 = .ok (.aload_n 0, 1) := by decide +kernel
theorem dX10_arriveData_107 : decode cX10_arriveData 107 = .ok (.getfield 110, 3) := by decide +kernel
theorem dX10_arriveData_110 : decode cX10_arriveData 110 = .ok (.bipush 8, 2) := by decide +kernel
theorem dX10_arriveData_112 : decode cX10_arriveData 112 = .ok (.iload_n 3, 1) := by decide +kernel
theorem dX10_arriveData_113 : decode cX10_arriveData 113 = .ok (.imul, 1) := by decide +kernel
theorem dX10_arriveData_114 : decode cX10_arriveData 114 = .ok (.iload 4, 2) := by decide +kernel
theorem dX10_arriveData_116 : decode cX10_arriveData 116 = .ok (.iadd, 1) := by decide +kernel
theorem dX10_arriveData_117 : decode cX10_arriveData 117 = .ok (.aload_n 0, 1) := by decide +kernel
theorem dX10_arriveData_118 : decode cX10_arriveData 118 = .ok (.getfield 177, 3) := by decide +kernel
theorem dX10_arriveData_121 : decode cX10_arriveData 121 = .ok (.bipush 9, 2) := by decide +kernel
theorem dX10_arriveData_123 : decode cX10_arriveData 123 = .ok (.iload 4, 2) := by decide +kernel
theorem dX10_arriveData_125 : decode cX10_arriveData 125 = .ok (.iadd, 1) := by decide +kernel
theorem dX10_arriveData_126 : decode cX10_arriveData 126 = .ok (.iaload, 1) := by decide +kernel
theorem dX10_arriveData_127 : decode cX10_arriveData 127 = .ok (.iastore, 1) := by decide +kernel
theorem dX10_arriveData_128 : decode cX10_arriveData 128 = .ok (.iinc 4 1, 3) := by decide +kernel
theorem dX10_arriveData_131 : decode cX10_arriveData 131 = .ok (.goto (-36), 3) := by decide +kernel
theorem dX10_arriveData_134 : decode cX10_arriveData 134 = .ok (.aload_n 0, 1) := by decide +kernel
theorem dX10_arriveData_135 : decode cX10_arriveData 135 = .ok (.iload_n 1, 1) := by decide +kernel
theorem dX10_arriveData_136 : decode cX10_arriveData 136 = .ok (.invokevirtual 274, 3) := by decide +kernel
theorem dX10_arriveData_139 : decode cX10_arriveData 139 = .ok (.aload_n 0, 1) := by decide +kernel
theorem dX10_arriveData_140 : decode cX10_arriveData 140 = .ok (.iload_n 1, 1) := by decide +kernel
theorem dX10_arriveData_141 : decode cX10_arriveData 141 = .ok (.invokevirtual 271, 3) := by decide +kernel
theorem dX10_arriveData_144 : decode cX10_arriveData 144 = .ok (.return_, 1) := by decide +kernel
theorem dX10_arriveUrgent_0 : decode cX10_arriveUrgent 0 = .ok (.aload_n 0, 1) := by decide +kernel
theorem dX10_arriveUrgent_1 : decode cX10_arriveUrgent 1 = .ok (.getfield 7, 3) := by decide +kernel
theorem dX10_arriveUrgent_4 : decode cX10_arriveUrgent 4 = .ok (.iload_n 1, 1) := by decide +kernel
theorem dX10_arriveUrgent_5 : decode cX10_arriveUrgent 5 = .ok (.iaload, 1) := by decide +kernel
theorem dX10_arriveUrgent_6 : decode cX10_arriveUrgent 6 = .ok (.iconst 2, 1) := by decide +kernel
theorem dX10_arriveUrgent_7 : decode cX10_arriveUrgent 7 = .ok (.if_icmp .eq 4, 3) := by decide +kernel
theorem dX10_arriveUrgent_10 : decode cX10_arriveUrgent 10 = .ok (.return_, 1) := by decide +kernel
theorem dX10_arriveUrgent_11 : decode cX10_arriveUrgent 11 = .ok (.aload_n 0, 1) := by decide +kernel
theorem dX10_arriveUrgent_12 : decode cX10_arriveUrgent 12 = .ok (.getfield 177, 3) := by decide +kernel
theorem dX10_arriveUrgent_15 : decode cX10_arriveUrgent 15 = .ok (.iconst 4, 1) := by decide +kernel
theorem dX10_arriveUrgent_16 : decode cX10_arriveUrgent 16 = .ok (.iaload, 1) := by decide +kernel
theorem dX10_arriveUrgent_17 : decode cX10_arriveUrgent 17 = .ok (.invokestatic 221, 3) := by decide +kernel
theorem dX10_arriveUrgent_20 : decode cX10_arriveUrgent 20 = .ok (.aload_n 0, 1) := by decide +kernel
theorem dX10_arriveUrgent_21 : decode cX10_arriveUrgent 21 = .ok (.getfield 101, 3) := by decide +kernel
theorem dX10_arriveUrgent_24 : decode cX10_arriveUrgent 24 = .ok (.iload_n 1, 1) := by decide +kernel
theorem dX10_arriveUrgent_25 : decode cX10_arriveUrgent 25 = .ok (.iaload, 1) := by decide +kernel
theorem dX10_arriveUrgent_26 : decode cX10_arriveUrgent 26 = .ok (.if_icmp .ne 63, 3) := by decide +kernel
theorem dX10_arriveUrgent_29 : decode cX10_arriveUrgent 29 = .ok (.aload_n 0, 1) := by decide +kernel
theorem dX10_arriveUrgent_30 : decode cX10_arriveUrgent 30 = .ok (.getfield 259, 3) := by decide +kernel
theorem dX10_arriveUrgent_33 : decode cX10_arriveUrgent 33 = .ok (.bipush 9, 2) := by decide +kernel
theorem dX10_arriveUrgent_35 : decode cX10_arriveUrgent 35 = .ok (.if_icmp .le 37, 3) := by decide +kernel
theorem dX10_arriveUrgent_38 : decode cX10_arriveUrgent 38 = .ok (.aload_n 0, 1) := by decide +kernel
theorem dX10_arriveUrgent_39 : decode cX10_arriveUrgent 39 = .ok (.getfield 146, 3) := by decide +kernel
theorem dX10_arriveUrgent_42 : decode cX10_arriveUrgent 42 = .ok (.sipush 1024, 3) := by decide +kernel
theorem dX10_arriveUrgent_45 : decode cX10_arriveUrgent 45 = .ok (.iload_n 1, 1) := by decide +kernel
theorem dX10_arriveUrgent_46 : decode cX10_arriveUrgent 46 = .ok (.imul, 1) := by decide +kernel
theorem dX10_arriveUrgent_47 : decode cX10_arriveUrgent 47 = .ok (.aload_n 0, 1) := by decide +kernel
theorem dX10_arriveUrgent_48 : decode cX10_arriveUrgent 48 = .ok (.getfield 143, 3) := by decide +kernel
theorem dX10_arriveUrgent_51 : decode cX10_arriveUrgent 51 = .ok (.iload_n 1, 1) := by decide +kernel
theorem dX10_arriveUrgent_52 : decode cX10_arriveUrgent 52 = .ok (.iaload, 1) := by decide +kernel
theorem dX10_arriveUrgent_53 : decode cX10_arriveUrgent 53 = .ok (.iadd, 1) := by decide +kernel
theorem dX10_arriveUrgent_54 : decode cX10_arriveUrgent 54 = .ok (.aload_n 0, 1) := by decide +kernel
