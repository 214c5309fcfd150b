theorem dX10_arriveReceipt_224 : decode cX10_arriveReceipt 224 = .ok (.iload 5, 2) := by decide +kernel
theorem dX10_arriveReceipt_226 : decode cX10_arriveReceipt 226 = .ok (.iadd, 1) := by decide +kernel
theorem dX10_arriveReceipt_227 : decode cX10_arriveReceipt 227 = .ok (.aload_n 0, 1) := by decide +kernel
theorem dX10_arriveReceipt_228 : decode cX10_arriveReceipt 228 = .ok (.getfield 71, 3) := by decide +kernel
theorem dX10_arriveReceipt_231 : decode cX10_arriveReceipt 231 = .ok (.bipush 8, 2) := by decide +kernel
theorem dX10_arriveReceipt_233 : decode cX10_arriveReceipt 233 = .ok (.iload 4, 2) := by decide +kernel
theorem dX10_arriveReceipt_235 : decode cX10_arriveReceipt 235 = .ok (.imul, 1) := by decide +kernel
theorem dX10_arriveReceipt_236 : decode cX10_arriveReceipt 236 = .ok (.iload 5, 2) := by decide +kernel
theorem dX10_arriveReceipt_238 : decode cX10_arriveReceipt 238 = .ok (.iadd, 1) := by decide +kernel
theorem dX10_arriveReceipt_239 : decode cX10_arriveReceipt 239 = .ok (.iaload, 1) := by decide +kernel
theorem dX10_arriveReceipt_240 : decode cX10_arriveReceipt 240 = .ok (.iastore, 1) := by decide +kernel
theorem dX10_arriveReceipt_241 : decode cX10_arriveReceipt 241 = .ok (.iinc 5 1, 3) := by decide +kernel
theorem dX10_arriveReceipt_244 : decode cX10_arriveReceipt 244 = .ok (.goto (-38), 3) := by decide +kernel
theorem dX10_arriveReceipt_247 : decode cX10_arriveReceipt 247 = .ok (.iinc 4 1, 3) := by decide +kernel
theorem dX10_arriveReceipt_250 : decode cX10_arriveReceipt 250 = .ok (.goto (-143), 3) := by decide +kernel
theorem dX10_arriveReceipt_253 : decode cX10_arriveReceipt 253 = .ok (.aload_n 0, 1) := by decide +kernel
theorem dX10_arriveReceipt_254 : decode cX10_arriveReceipt 254 = .ok (.getfield 50, 3) := by decide +kernel
theorem dX10_arriveReceipt_257 : decode cX10_arriveReceipt 257 = .ok (.iload_n 1, 1) := by decide +kernel
theorem dX10_arriveReceipt_258 : decode cX10_arriveReceipt 258 = .ok (.dup2, 1) := by decide +kernel
theorem dX10_arriveReceipt_259 : decode cX10_arriveReceipt 259 = .ok (.iaload, 1) := by decide +kernel
theorem dX10_arriveReceipt_260 : decode cX10_arriveReceipt 260 = .ok (.iload_n 3, 1) := by decide +kernel
theorem dX10_arriveReceipt_261 : decode cX10_arriveReceipt 261 = .ok (.isub, 1) := by decide +kernel
theorem dX10_arriveReceipt_262 : decode cX10_arriveReceipt 262 = .ok (.iastore, 1) := by decide +kernel
theorem dX10_arriveReceipt_263 : decode cX10_arriveReceipt 263 = .ok (.aload_n 0, 1) := by decide +kernel
theorem dX10_arriveReceipt_264 : decode cX10_arriveReceipt 264 = .ok (.getfield 53, 3) := by decide +kernel
theorem dX10_arriveReceipt_267 : decode cX10_arriveReceipt 267 = .ok (.iload_n 1, 1) := by decide +kernel
theorem dX10_arriveReceipt_268 : decode cX10_arriveReceipt 268 = .ok (.dup2, 1) := by decide +kernel
theorem dX10_arriveReceipt_269 : decode cX10_arriveReceipt 269 = .ok (.iaload, 1) := by decide +kernel
theorem dX10_arriveReceipt_270 : decode cX10_arriveReceipt 270 = .ok (.iload_n 3, 1) := by decide +kernel
theorem dX10_arriveReceipt_271 : decode cX10_arriveReceipt 271 = .ok (.isub, 1) := by decide +kernel
theorem dX10_arriveReceipt_272 : decode cX10_arriveReceipt 272 = .ok (.iastore, 1) := by decide +kernel
theorem dX10_arriveReceipt_273 : decode cX10_arriveReceipt 273 = .ok (.aload_n 0, 1) := by decide +kernel
theorem dX10_arriveReceipt_274 : decode cX10_arriveReceipt 274 = .ok (.iload_n 1, 1) := by decide +kernel
theorem dX10_arriveReceipt_275 : decode cX10_arriveReceipt 275 = .ok (.invokevirtual 256, 3) := by decide +kernel
theorem dX10_arriveReceipt_278 : decode cX10_arriveReceipt 278 = .ok (.return_, 1) := by decide +kernel
theorem dX10_putBehind_0 : decode cX10_putBehind 0 = .ok (.sipush 128, 3) := by decide +kernel
theorem dX10_putBehind_3 : decode cX10_putBehind 3 = .ok (.iload_n 1, 1) := by decide +kernel
theorem dX10_putBehind_4 : decode cX10_putBehind 4 = .ok (.imul, 1) := by decide +kernel
theorem dX10_putBehind_5 : decode cX10_putBehind 5 = .ok (.aload_n 0, 1) := by decide +kernel
theorem dX10_putBehind_6 : decode cX10_putBehind 6 = .ok (.getfield 98, 3) := by decide +kernel
theorem dX10_putBehind_9 : decode cX10_putBehind 9 = .ok (.iload_n 1, 1) := by decide +kernel
theorem dX10_putBehind_10 : decode cX10_putBehind 10 = .ok (.iaload, 1) := by decide +kernel
theorem dX10_putBehind_11 : decode cX10_putBehind 11 = .ok (.iadd, 1) := by decide +kernel
theorem dX10_putBehind_12 : decode cX10_putBehind 12 = .ok (.istore_n 2, 1) := by decide +kernel
theorem dX10_putBehind_13 : decode cX10_putBehind 13 = .ok (.aload_n 0, 1) := by decide +kernel
theorem dX10_putBehind_14 : decode cX10_putBehind 14 = .ok (.getfield 104, 3) := by decide +kernel
theorem dX10_putBehind_17 : decode cX10_putBehind 17 = .ok (.iload_n 2, 1) := by decide +kernel
theorem dX10_putBehind_18 : decode cX10_putBehind 18 = .ok (.iaload, 1) := by decide +kernel
theorem dX10_putBehind_19 : decode cX10_putBehind 19 = .ok (.ifCond .lt 238, 3) := by decide +kernel
theorem dX10_putBehind_22 : decode cX10_putBehind 22 = .ok (.iconst 0, 1) := by decide +kernel
theorem dX10_putBehind_23 : decode cX10_putBehind 23 = .ok (.istore_n 3, 1) := by decide +kernel
theorem dX10_putBehind_24 : decode cX10_putBehind 24 = .ok (.iload_n 3, 1) := by decide +kernel
theorem dX10_putBehind_25 : decode cX10_putBehind 25 = .ok (.aload_n 0, 1) := by decide +kernel
theorem dX10_putBehind_26 : decode cX10_putBehind 26 = .ok (.getfield 104, 3) := by decide +kernel
theorem dX10_putBehind_29 : decode cX10_putBehind 29 = .ok (.iload_n 2, 1) := by decide +kernel
theorem dX10_putBehind_30 : decode cX10_putBehind 30 = .ok (.iaload, 1) := by decide +kernel
theorem dX10_putBehind_31 : decode cX10_putBehind 31 = .ok (.if_icmp .ge 47, 3) := by decide +kernel
theorem dX10_putBehind_34 : decode cX10_putBehind 34 = .ok (.aload_n 0, 1) := by decide +kernel
theorem dX10_putBehind_35 : decode cX10_putBehind 35 = .ok (.getfield 119, 3) := by decide +kernel
theorem dX10_putBehind_38 : decode cX10_putBehind 38 = .ok (.sipush 4096, 3) := by decide +kernel
theorem dX10_putBehind_41 : decode cX10_putBehind 41 = .ok (.iload_n 1, 1) := by decide +kernel
theorem dX10_putBehind_42 : decode cX10_putBehind 42 = .ok (.imul, 1) := by decide +kernel
theorem dX10_putBehind_43 : decode cX10_putBehind 43 = .ok (.aload_n 0, 1) := by decide +kernel
theorem dX10_putBehind_44 : decode cX10_putBehind 44 = .ok (.getfield 113, 3) := by decide +kernel
theorem dX10_putBehind_47 : decode cX10_putBehind 47 = .ok (.iload_n 1, 1) := by decide +kernel
theorem dX10_putBehind_48 : decode cX10_putBehind 48 = .ok (.iaload, 1) := by decide +kernel
theorem dX10_putBehind_49 : decode cX10_putBehind 49 = .ok (.iadd, 1) := by decide +kernel
theorem dX10_putBehind_50 : decode cX10_putBehind 50 = .ok (.aload_n 0, 1) := by decide +kernel
theorem dX10_putBehind_51 : decode cX10_putBehind 51 = .ok (.getfield 110, 3) := by decide +kernel
theorem dX10_putBehind_54 : decode cX10_putBehind 54 = .ok (.bipush 8, 2) := by decide +kernel
theorem dX10_putBehind_56 : decode cX10_putBehind 56 = .ok (.iload_n 2, 1) := by decide +kernel
theorem dX10_putBehind_57 : decode cX10_putBehind 57 = .ok (.imul, 1) := by decide +kernel
theorem dX10_putBehind_58 : decode cX10_putBehind 58 = .ok (.iload_n 3, 1) := by decide +kernel
theorem dX10_putBehind_59 : decode cX10_putBehind 59 = .ok (.iadd, 1) := by decide +kernel
theorem dX10_putBehind_60 : decode cX10_putBehind 60 = .ok (.iaload, 1) := by decide +kernel
theorem dX10_putBehind_61 : decode cX10_putBehind 61 = .ok (.iastore, 1) := by decide +kernel
theorem dX10_putBehind_62 : decode cX10_putBehind 62 = .ok (.aload_n 0, 1) := by decide +kernel
theorem dX10_putBehind_63 : decode cX10_putBehind 63 = .ok (.getfield 113, 3) := by decide +kernel
theorem dX10_putBehind_66 : decode cX10_putBehind 66 = .ok (.iload_n 1, 1) := by decide +kernel
theorem dX10_putBehind_67 : decode cX10_putBehind 67 = .ok (.dup2, 1) := by decide +kernel
theorem dX10_putBehind_68 : decode cX10_putBehind 68 = .ok (.iaload, 1) := by decide +kernel
theorem dX10_putBehind_69 : decode cX10_putBehind 69 = .ok (.iconst 1, 1) := by decide +kernel
theorem dX10_putBehind_70 : decode cX10_putBehind 70 = .ok (.iadd, 1) := by decide +kernel
theorem dX10_putBehind_71 : decode cX10_putBehind 71 = .ok (.iastore, 1) := by decide +kernel
theorem dX10_putBehind_72 : decode cX10_putBehind 72 = .ok (.iinc 3 1, 3) := by decide +kernel
theorem dX10_putBehind_75 : decode cX10_putBehind 75 = .ok (.goto (-51), 3) := by decide +kernel
theorem dX10_putBehind_78 : decode cX10_putBehind 78 = .ok (.aload_n 0, 1) := by decide +kernel
theorem dX10_putBehind_79 : decode cX10_putBehind 79 = .ok (.getfield 116, 3) := by decide +kernel
theorem dX10_putBehind_82 : decode cX10_putBehind 82 = .ok (.iload_n 1, 1) := by decide +kernel
theorem dX10_putBehind_83 : decode cX10_putBehind 83 = .ok (.dup2, 1) := by decide +kernel
theorem dX10_putBehind_84 : decode cX10_putBehind 84 = .ok (.iaload, 1) := by decide +kernel
theorem dX10_putBehind_85 : decode cX10_putBehind 85 = .ok (.iconst 1, 1) := by decide +kernel
theorem dX10_putBehind_86 : decode cX10_putBehind 86 = .ok (.iadd, 1) := by decide +kernel
theorem dX10_putBehind_87 : decode cX10_putBehind 87 = .ok (.iastore, 1) := by decide +kernel
theorem dX10_putBehind_88 : decode cX10_putBehind 88 = .ok (.aload_n 0, 1) := by decide +kernel
theorem dX10_putBehind_89 : decode cX10_putBehind 89 = .ok (.getfield 107, 3) := by decide +kernel
theorem dX10_putBehind_92 : decode cX10_putBehind 92 = .ok (.iload_n 2, 1) := by decide +kernel
theorem dX10_putBehind_93 : decode cX10_putBehind 93 = .ok (.baload, 1) := by decide +kernel
theorem dX10_putBehind_94 : decode cX10_putBehind 94 = .ok (.ifCond .eq 123, 3) := by decide +kernel
theorem dX10_putBehind_97 : decode cX10_putBehind 97 = .ok (.bipush 64, 2) := by decide +kernel
theorem dX10_putBehind_99 : decode cX10_putBehind 99 = .ok (.iload_n 1, 1) := by decide +kernel
theorem dX10_putBehind_100 : decode cX10_putBehind 100 = .ok (.imul, 1) := by decide +kernel
theorem dX10_putBehind_101 : decode cX10_putBehind 101 = .ok (.aload_n 0, 1) := by decide +kernel
theorem dX10_putBehind_102 : decode cX10_putBehind 102 = .ok (.getfield 122, 3) := by decide +kernel
theorem dX10_putBehind_105 : decode cX10_putBehind 105 = .ok (.iload_n 1, 1) := by decide +kernel
theorem dX10_putBehind_106 : decode cX10_putBehind 106 = .ok (.iaload, 1) := by decide +kernel
theorem dX10_putBehind_107 : decode cX10_putBehind 107 = .ok (.iadd, 1) := by decide +kernel
theorem dX10_putBehind_108 : decode cX10_putBehind 108 = .ok (.istore_n 3, 1) := by decide +kernel
theorem dX10_putBehind_109 : decode cX10_putBehind 109 = .ok (.aload_n 0, 1) := by decide +kernel
theorem dX10_putBehind_110 : decode cX10_putBehind 110 = .ok (.getfield 125, 3) := by decide +kernel
theorem dX10_putBehind_113 : decode cX10_putBehind 113 = .ok (.iload_n 3, 1) := by decide +kernel
theorem dX10_putBehind_114 : decode cX10_putBehind 114 = .ok (.aload_n 0, 1) := by decide +kernel
theorem dX10_putBehind_115 : decode cX10_putBehind 115 = .ok (.getfield 113, 3) := by decide +kernel
theorem dX10_putBehind_118 : decode cX10_putBehind 118 = .ok (.iload_n 1, 1) := by decide +kernel
theorem dX10_putBehind_119 : decode cX10_putBehind 119 = .ok (.iaload, 1) := by decide +kernel
theorem dX10_putBehind_120 : decode cX10_putBehind 120 = .ok (.iastore, 1) := by decide +kernel
theorem dX10_putBehind_121 : decode cX10_putBehind 121 = .ok (.aload_n 0, 1) := by decide +kernel
theorem dX10_putBehind_122 : decode cX10_putBehind 122 = .ok (.getfield 128, 3) := by decide +kernel
theorem dX10_putBehind_125 : decode cX10_putBehind 125 = .ok (.iload_n 3, 1) := by decide +kernel
theorem dX10_putBehind_126 : decode cX10_putBehind 126 = .ok (.aload_n 0, 1) := by decide +kernel
theorem dX10_putBehind_127 : decode cX10_putBehind 127 = .ok (.getfield 116, 3) := by decide +kernel
theorem dX10_putBehind_130 : decode cX10_putBehind 130 = .ok (.iload_n 1, 1) := by decide +kernel
theorem dX10_putBehind_131 : decode cX10_putBehind 131 = .ok (.iaload, 1) := by decide +kernel
theorem dX10_putBehind_132 : decode cX10_putBehind 132 = .ok (.iastore, 1) := by decide +kernel
theorem dX10_putBehind_133 : decode cX10_putBehind 133 = .ok (.iconst 0, 1) := by decide +kernel
theorem dX10_putBehind_134 : decode cX10_putBehind 134 = .ok (.istore 4, 2) := by decide +kernel
theorem dX10_putBehind_136 : decode cX10_putBehind 136 = .ok (.iload 4, 2) := by decide +kernel
theorem dX10_putBehind_138 : decode cX10_putBehind 138 = .ok (.aload_n 0, 1) := by decide +kernel
theorem dX10_putBehind_139 : decode cX10_putBehind 139 = .ok (.getfield 113, 3) := by decide +kernel
theorem dX10_putBehind_142 : decode cX10_putBehind 142 = .ok (.iload_n 1, 1) := by decide +kernel
theorem dX10_putBehind_143 : decode cX10_putBehind 143 = .ok (.iaload, 1) := by decide +kernel
theorem dX10_putBehind_144 : decode cX10_putBehind 144 = .ok (.if_icmp .ge 49, 3) := by decide +kernel
theorem dX10_putBehind_147 : decode cX10_putBehind 147 = .ok (.aload_n 0, 1) := by decide +kernel
theorem dX10_putBehind_148 : decode cX10_putBehind 148 = .ok (.getfield 131, 3) := by decide +kernel
theorem dX10_putBehind_151 : decode cX10_putBehind 151 = .ok (.sipush 8192, 3) := by decide +kernel
theorem dX10_putBehind_154 : decode cX10_putBehind 154 = .ok (.iload_n 1, 1) := by decide +kernel
theorem dX10_putBehind_155 : decode cX10_putBehind 155 = .ok (.imul, 1) := by decide +kernel
theorem dX10_putBehind_156 : decode cX10_putBehind 156 = .ok (.aload_n 0, 1) := by decide +kernel
theorem dX10_putBehind_157 : decode cX10_putBehind 157 = .ok (.getfield 134, 3) := by decide +kernel
theorem dX10_putBehind_160 : decode cX10_putBehind 160 = .ok (.iload_n 1, 1) := by decide +kernel
theorem dX10_putBehind_161 : decode cX10_putBehind 161 = .ok (.iaload, 1) := by decide +kernel
theorem dX10_putBehind_162 : decode cX10_putBehind 162 = .ok (.iadd, 1) := by decide +kernel
theorem dX10_putBehind_163 : decode cX10_putBehind 163 = .ok (.aload_n 0, 1) := by decide +kernel
theorem dX10_putBehind_164 : decode cX10_putBehind 164 = .ok (.getfield 119, 3) := by decide +kernel
theorem dX10_putBehind_167 : decode cX10_putBehind 167 = .ok (.sipush 4096, 3) := by decide +kernel
theorem dX10_putBehind_170 : decode cX10_putBehind 170 = .ok (.iload_n 1, 1) := by decide +kernel
theorem dX10_putBehind_171 : decode cX10_putBehind 171 = .ok (.imul, 1) := by decide +kernel
