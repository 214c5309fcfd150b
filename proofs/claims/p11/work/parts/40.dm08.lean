theorem dX10_arriveAnswer_60 : decode cX10_arriveAnswer 60 = .ok (.iload_n 1, 1) := by decide +kernel
theorem dX10_arriveAnswer_61 : decode cX10_arriveAnswer 61 = .ok (.invokevirtual 271, 3) := by decide +kernel
theorem dX10_arriveAnswer_64 : decode cX10_arriveAnswer 64 = .ok (.aload_n 0, 1) := by decide +kernel
theorem dX10_arriveAnswer_65 : decode cX10_arriveAnswer 65 = .ok (.iload_n 1, 1) := by decide +kernel
theorem dX10_arriveAnswer_66 : decode cX10_arriveAnswer 66 = .ok (.invokevirtual 256, 3) := by decide +kernel
theorem dX10_arriveAnswer_69 : decode cX10_arriveAnswer 69 = .ok (.goto 28, 3) := by decide +kernel
theorem dX10_arriveAnswer_72 : decode cX10_arriveAnswer 72 = .ok (.aload_n 0, 1) := by decide +kernel
theorem dX10_arriveAnswer_73 : decode cX10_arriveAnswer 73 = .ok (.getfield 7, 3) := by decide +kernel
theorem dX10_arriveAnswer_76 : decode cX10_arriveAnswer 76 = .ok (.iload_n 1, 1) := by decide +kernel
theorem dX10_arriveAnswer_77 : decode cX10_arriveAnswer 77 = .ok (.iaload, 1) := by decide +kernel
theorem dX10_arriveAnswer_78 : decode cX10_arriveAnswer 78 = .ok (.iconst 2, 1) := by decide +kernel
theorem dX10_arriveAnswer_79 : decode cX10_arriveAnswer 79 = .ok (.if_icmp .ne 18, 3) := by decide +kernel
theorem dX10_arriveAnswer_82 : decode cX10_arriveAnswer 82 = .ok (.aload_n 0, 1) := by decide +kernel
theorem dX10_arriveAnswer_83 : decode cX10_arriveAnswer 83 = .ok (.getfield 16, 3) := by decide +kernel
theorem dX10_arriveAnswer_86 : decode cX10_arriveAnswer 86 = .ok (.iload_n 1, 1) := by decide +kernel
theorem dX10_arriveAnswer_87 : decode cX10_arriveAnswer 87 = .ok (.iaload, 1) := by decide +kernel
theorem dX10_arriveAnswer_88 : decode cX10_arriveAnswer 88 = .ok (.iload_n 2, 1) := by decide +kernel
theorem dX10_arriveAnswer_89 : decode cX10_arriveAnswer 89 = .ok (.if_icmp .ne 8, 3) := by decide +kernel
theorem dX10_arriveAnswer_92 : decode cX10_arriveAnswer 92 = .ok (.aload_n 0, 1) := by decide +kernel
theorem dX10_arriveAnswer_93 : decode cX10_arriveAnswer 93 = .ok (.iload_n 1, 1) := by decide +kernel
theorem dX10_arriveAnswer_94 : decode cX10_arriveAnswer 94 = .ok (.invokevirtual 271, 3) := by decide +kernel
theorem dX10_arriveAnswer_97 : decode cX10_arriveAnswer 97 = .ok (.return_, 1) := by decide +kernel
theorem dX10_arriveReceipt_0 : decode cX10_arriveReceipt 0 = .ok (.aload_n 0, 1) := by decide +kernel
theorem dX10_arriveReceipt_1 : decode cX10_arriveReceipt 1 = .ok (.getfield 177, 3) := by decide +kernel
theorem dX10_arriveReceipt_4 : decode cX10_arriveReceipt 4 = .ok (.iconst 4, 1) := by decide +kernel
theorem dX10_arriveReceipt_5 : decode cX10_arriveReceipt 5 = .ok (.iaload, 1) := by decide +kernel
theorem dX10_arriveReceipt_6 : decode cX10_arriveReceipt 6 = .ok (.aload_n 0, 1) := by decide +kernel
theorem dX10_arriveReceipt_7 : decode cX10_arriveReceipt 7 = .ok (.getfield 77, 3) := by decide +kernel
theorem dX10_arriveReceipt_10 : decode cX10_arriveReceipt 10 = .ok (.iload_n 1, 1) := by decide +kernel
theorem dX10_arriveReceipt_11 : decode cX10_arriveReceipt 11 = .ok (.iaload, 1) := by decide +kernel
theorem dX10_arriveReceipt_12 : decode cX10_arriveReceipt 12 = .ok (.isub, 1) := by decide +kernel
theorem dX10_arriveReceipt_13 : decode cX10_arriveReceipt 13 = .ok (.invokestatic 221, 3) := by decide +kernel
theorem dX10_arriveReceipt_16 : decode cX10_arriveReceipt 16 = .ok (.istore_n 2, 1) := by decide +kernel
theorem dX10_arriveReceipt_17 : decode cX10_arriveReceipt 17 = .ok (.aload_n 0, 1) := by decide +kernel
theorem dX10_arriveReceipt_18 : decode cX10_arriveReceipt 18 = .ok (.getfield 7, 3) := by decide +kernel
theorem dX10_arriveReceipt_21 : decode cX10_arriveReceipt 21 = .ok (.iload_n 1, 1) := by decide +kernel
theorem dX10_arriveReceipt_22 : decode cX10_arriveReceipt 22 = .ok (.iaload, 1) := by decide +kernel
theorem dX10_arriveReceipt_23 : decode cX10_arriveReceipt 23 = .ok (.iconst 2, 1) := by decide +kernel
theorem dX10_arriveReceipt_24 : decode cX10_arriveReceipt 24 = .ok (.if_icmp .ne 23, 3) := by decide +kernel
theorem dX10_arriveReceipt_27 : decode cX10_arriveReceipt 27 = .ok (.iload_n 2, 1) := by decide +kernel
theorem dX10_arriveReceipt_28 : decode cX10_arriveReceipt 28 = .ok (.aload_n 0, 1) := by decide +kernel
theorem dX10_arriveReceipt_29 : decode cX10_arriveReceipt 29 = .ok (.getfield 74, 3) := by decide +kernel
theorem dX10_arriveReceipt_32 : decode cX10_arriveReceipt 32 = .ok (.iload_n 1, 1) := by decide +kernel
theorem dX10_arriveReceipt_33 : decode cX10_arriveReceipt 33 = .ok (.iaload, 1) := by decide +kernel
theorem dX10_arriveReceipt_34 : decode cX10_arriveReceipt 34 = .ok (.aload_n 0, 1) := by decide +kernel
theorem dX10_arriveReceipt_35 : decode cX10_arriveReceipt 35 = .ok (.getfield 77, 3) := by decide +kernel
theorem dX10_arriveReceipt_38 : decode cX10_arriveReceipt 38 = .ok (.iload_n 1, 1) := by decide +kernel
theorem dX10_arriveReceipt_39 : decode cX10_arriveReceipt 39 = .ok (.iaload, 1) := by decide +kernel
theorem dX10_arriveReceipt_40 : decode cX10_arriveReceipt 40 = .ok (.isub, 1) := by decide +kernel
theorem dX10_arriveReceipt_41 : decode cX10_arriveReceipt 41 = .ok (.invokestatic 221, 3) := by decide +kernel
theorem dX10_arriveReceipt_44 : decode cX10_arriveReceipt 44 = .ok (.if_icmp .le 4, 3) := by decide +kernel
theorem dX10_arriveReceipt_47 : decode cX10_arriveReceipt 47 = .ok (.return_, 1) := by decide +kernel
theorem dX10_arriveReceipt_48 : decode cX10_arriveReceipt 48 = .ok (.aload_n 0, 1) := by decide +kernel
theorem dX10_arriveReceipt_49 : decode cX10_arriveReceipt 49 = .ok (.getfield 77, 3) := by decide +kernel
theorem dX10_arriveReceipt_52 : decode cX10_arriveReceipt 52 = .ok (.iload_n 1, 1) := by decide +kernel
theorem dX10_arriveReceipt_53 : decode cX10_arriveReceipt 53 = .ok (.aload_n 0, 1) := by decide +kernel
theorem dX10_arriveReceipt_54 : decode cX10_arriveReceipt 54 = .ok (.getfield 177, 3) := by decide +kernel
theorem dX10_arriveReceipt_57 : decode cX10_arriveReceipt 57 = .ok (.iconst 4, 1) := by decide +kernel
theorem dX10_arriveReceipt_58 : decode cX10_arriveReceipt 58 = .ok (.iaload, 1) := by decide +kernel
theorem dX10_arriveReceipt_59 : decode cX10_arriveReceipt 59 = .ok (.invokestatic 221, 3) := by decide +kernel
theorem dX10_arriveReceipt_62 : decode cX10_arriveReceipt 62 = .ok (.iastore, 1) := by decide +kernel
theorem dX10_arriveReceipt_63 : decode cX10_arriveReceipt 63 = .ok (.aload_n 0, 1) := by decide +kernel
theorem dX10_arriveReceipt_64 : decode cX10_arriveReceipt 64 = .ok (.getfield 80, 3) := by decide +kernel
theorem dX10_arriveReceipt_67 : decode cX10_arriveReceipt 67 = .ok (.iload_n 1, 1) := by decide +kernel
theorem dX10_arriveReceipt_68 : decode cX10_arriveReceipt 68 = .ok (.aload_n 0, 1) := by decide +kernel
theorem dX10_arriveReceipt_69 : decode cX10_arriveReceipt 69 = .ok (.getfield 177, 3) := by decide +kernel
theorem dX10_arriveReceipt_72 : decode cX10_arriveReceipt 72 = .ok (.iconst 1, 1) := by decide +kernel
theorem dX10_arriveReceipt_73 : decode cX10_arriveReceipt 73 = .ok (.iaload, 1) := by decide +kernel
theorem dX10_arriveReceipt_74 : decode cX10_arriveReceipt 74 = .ok (.bipush 15, 2) := by decide +kernel
theorem dX10_arriveReceipt_76 : decode cX10_arriveReceipt 76 = .ok (.iand, 1) := by decide +kernel
theorem dX10_arriveReceipt_77 : decode cX10_arriveReceipt 77 = .ok (.iastore, 1) := by decide +kernel
theorem dX10_arriveReceipt_78 : decode cX10_arriveReceipt 78 = .ok (.iload_n 2, 1) := by decide +kernel
theorem dX10_arriveReceipt_79 : decode cX10_arriveReceipt 79 = .ok (.aload_n 0, 1) := by decide +kernel
theorem dX10_arriveReceipt_80 : decode cX10_arriveReceipt 80 = .ok (.getfield 53, 3) := by decide +kernel
theorem dX10_arriveReceipt_83 : decode cX10_arriveReceipt 83 = .ok (.iload_n 1, 1) := by decide +kernel
theorem dX10_arriveReceipt_84 : decode cX10_arriveReceipt 84 = .ok (.iaload, 1) := by decide +kernel
theorem dX10_arriveReceipt_85 : decode cX10_arriveReceipt 85 = .ok (.if_icmp .ge 7, 3) := by decide +kernel
theorem dX10_arriveReceipt_88 : decode cX10_arriveReceipt 88 = .ok (.iload_n 2, 1) := by decide +kernel
theorem dX10_arriveReceipt_89 : decode cX10_arriveReceipt 89 = .ok (.goto 9, 3) := by decide +kernel
theorem dX10_arriveReceipt_92 : decode cX10_arriveReceipt 92 = .ok (.aload_n 0, 1) := by decide +kernel
theorem dX10_arriveReceipt_93 : decode cX10_arriveReceipt 93 = .ok (.getfield 53, 3) := by decide +kernel
theorem dX10_arriveReceipt_96 : decode cX10_arriveReceipt 96 = .ok (.iload_n 1, 1) := by decide +kernel
theorem dX10_arriveReceipt_97 : decode cX10_arriveReceipt 97 = .ok (.iaload, 1) := by decide +kernel
theorem dX10_arriveReceipt_98 : decode cX10_arriveReceipt 98 = .ok (.istore_n 3, 1) := by decide +kernel
theorem dX10_arriveReceipt_99 : decode cX10_arriveReceipt 99 = .ok (.bipush 40, 2) := by decide +kernel
theorem dX10_arriveReceipt_101 : decode cX10_arriveReceipt 101 = .ok (.iload_n 1, 1) := by decide +kernel
theorem dX10_arriveReceipt_102 : decode cX10_arriveReceipt 102 = .ok (.imul, 1) := by decide +kernel
theorem dX10_arriveReceipt_103 : decode cX10_arriveReceipt 103 = .ok (.iload_n 3, 1) := by decide +kernel
theorem dX10_arriveReceipt_104 : decode cX10_arriveReceipt 104 = .ok (.iadd, 1) := by decide +kernel
theorem dX10_arriveReceipt_105 : decode cX10_arriveReceipt 105 = .ok (.istore 4, 2) := by decide +kernel
theorem dX10_arriveReceipt_107 : decode cX10_arriveReceipt 107 = .ok (.iload 4, 2) := by decide +kernel
theorem dX10_arriveReceipt_109 : decode cX10_arriveReceipt 109 = .ok (.bipush 40, 2) := by decide +kernel
theorem dX10_arriveReceipt_111 : decode cX10_arriveReceipt 111 = .ok (.iload_n 1, 1) := by decide +kernel
theorem dX10_arriveReceipt_112 : decode cX10_arriveReceipt 112 = .ok (.imul, 1) := by decide +kernel
theorem dX10_arriveReceipt_113 : decode cX10_arriveReceipt 113 = .ok (.aload_n 0, 1) := by decide +kernel
theorem dX10_arriveReceipt_114 : decode cX10_arriveReceipt 114 = .ok (.getfield 50, 3) := by decide +kernel
theorem dX10_arriveReceipt_117 : decode cX10_arriveReceipt 117 = .ok (.iload_n 1, 1) := by decide +kernel
theorem dX10_arriveReceipt_118 : decode cX10_arriveReceipt 118 = .ok (.iaload, 1) := by decide +kernel
theorem dX10_arriveReceipt_119 : decode cX10_arriveReceipt 119 = .ok (.iadd, 1) := by decide +kernel
theorem dX10_arriveReceipt_120 : decode cX10_arriveReceipt 120 = .ok (.if_icmp .ge 133, 3) := by decide +kernel
theorem dX10_arriveReceipt_123 : decode cX10_arriveReceipt 123 = .ok (.aload_n 0, 1) := by decide +kernel
theorem dX10_arriveReceipt_124 : decode cX10_arriveReceipt 124 = .ok (.getfield 56, 3) := by decide +kernel
theorem dX10_arriveReceipt_127 : decode cX10_arriveReceipt 127 = .ok (.iload 4, 2) := by decide +kernel
theorem dX10_arriveReceipt_129 : decode cX10_arriveReceipt 129 = .ok (.iload_n 3, 1) := by decide +kernel
theorem dX10_arriveReceipt_130 : decode cX10_arriveReceipt 130 = .ok (.isub, 1) := by decide +kernel
theorem dX10_arriveReceipt_131 : decode cX10_arriveReceipt 131 = .ok (.aload_n 0, 1) := by decide +kernel
theorem dX10_arriveReceipt_132 : decode cX10_arriveReceipt 132 = .ok (.getfield 56, 3) := by decide +kernel
theorem dX10_arriveReceipt_135 : decode cX10_arriveReceipt 135 = .ok (.iload 4, 2) := by decide +kernel
theorem dX10_arriveReceipt_137 : decode cX10_arriveReceipt 137 = .ok (.iaload, 1) := by decide +kernel
theorem dX10_arriveReceipt_138 : decode cX10_arriveReceipt 138 = .ok (.iastore, 1) := by decide +kernel
theorem dX10_arriveReceipt_139 : decode cX10_arriveReceipt 139 = .ok (.aload_n 0, 1) := by decide +kernel
theorem dX10_arriveReceipt_140 : decode cX10_arriveReceipt 140 = .ok (.getfield 59, 3) := by decide +kernel
theorem dX10_arriveReceipt_143 : decode cX10_arriveReceipt 143 = .ok (.iload 4, 2) := by decide +kernel
theorem dX10_arriveReceipt_145 : decode cX10_arriveReceipt 145 = .ok (.iload_n 3, 1) := by decide +kernel
theorem dX10_arriveReceipt_146 : decode cX10_arriveReceipt 146 = .ok (.isub, 1) := by decide +kernel
theorem dX10_arriveReceipt_147 : decode cX10_arriveReceipt 147 = .ok (.aload_n 0, 1) := by decide +kernel
theorem dX10_arriveReceipt_148 : decode cX10_arriveReceipt 148 = .ok (.getfield 59, 3) := by decide +kernel
theorem dX10_arriveReceipt_151 : decode cX10_arriveReceipt 151 = .ok (.iload 4, 2) := by decide +kernel
theorem dX10_arriveReceipt_153 : decode cX10_arriveReceipt 153 = .ok (.baload, 1) := by decide +kernel
theorem dX10_arriveReceipt_154 : decode cX10_arriveReceipt 154 = .ok (.bastore, 1) := by decide +kernel
theorem dX10_arriveReceipt_155 : decode cX10_arriveReceipt 155 = .ok (.aload_n 0, 1) := by decide +kernel
theorem dX10_arriveReceipt_156 : decode cX10_arriveReceipt 156 = .ok (.getfield 62, 3) := by decide +kernel
theorem dX10_arriveReceipt_159 : decode cX10_arriveReceipt 159 = .ok (.iload 4, 2) := by decide +kernel
theorem dX10_arriveReceipt_161 : decode cX10_arriveReceipt 161 = .ok (.iload_n 3, 1) := by decide +kernel
theorem dX10_arriveReceipt_162 : decode cX10_arriveReceipt 162 = .ok (.isub, 1) := by decide +kernel
theorem dX10_arriveReceipt_163 : decode cX10_arriveReceipt 163 = .ok (.aload_n 0, 1) := by decide +kernel
theorem dX10_arriveReceipt_164 : decode cX10_arriveReceipt 164 = .ok (.getfield 62, 3) := by decide +kernel
theorem dX10_arriveReceipt_167 : decode cX10_arriveReceipt 167 = .ok (.iload 4, 2) := by decide +kernel
theorem dX10_arriveReceipt_169 : decode cX10_arriveReceipt 169 = .ok (.iaload, 1) := by decide +kernel
theorem dX10_arriveReceipt_170 : decode cX10_arriveReceipt 170 = .ok (.iastore, 1) := by decide +kernel
theorem dX10_arriveReceipt_171 : decode cX10_arriveReceipt 171 = .ok (.aload_n 0, 1) := by decide +kernel
theorem dX10_arriveReceipt_172 : decode cX10_arriveReceipt 172 = .ok (.getfield 65, 3) := by decide +kernel
theorem dX10_arriveReceipt_175 : decode cX10_arriveReceipt 175 = .ok (.iload 4, 2) := by decide +kernel
theorem dX10_arriveReceipt_177 : decode cX10_arriveReceipt 177 = .ok (.iload_n 3, 1) := by decide +kernel
theorem dX10_arriveReceipt_178 : decode cX10_arriveReceipt 178 = .ok (.isub, 1) := by decide +kernel
theorem dX10_arriveReceipt_179 : decode cX10_arriveReceipt 179 = .ok (.aload_n 0, 1) := by decide +kernel
theorem dX10_arriveReceipt_180 : decode cX10_arriveReceipt 180 = .ok (.getfield 65, 3) := by decide +kernel
theorem dX10_arriveReceipt_183 : decode cX10_arriveReceipt 183 = .ok (.iload 4, 2) := by decide +kernel
theorem dX10_arriveReceipt_185 : decode cX10_arriveReceipt 185 = .ok (.iaload, 1) := by decide +kernel
theorem dX10_arriveReceipt_186 : decode cX10_arriveReceipt 186 = .ok (.iastore, 1) := by decide +kernel
theorem dX10_arriveReceipt_187 : decode cX10_arriveReceipt 187 = .ok (.aload_n 0, 1) := by decide +kernel
theorem dX10_arriveReceipt_188 : decode cX10_arriveReceipt 188 = .ok (.getfield 68, 3) := by decide +kernel
theorem dX10_arriveReceipt_191 : decode cX10_arriveReceipt 191 = .ok (.iload 4, 2) := by decide +kernel
theorem dX10_arriveReceipt_193 : decode cX10_arriveReceipt 193 = .ok (.iload_n 3, 1) := by decide +kernel
theorem dX10_arriveReceipt_194 : decode cX10_arriveReceipt 194 = .ok (.isub, 1) := by decide +kernel
theorem dX10_arriveReceipt_195 : decode cX10_arriveReceipt 195 = .ok (.aload_n 0, 1) := by decide +kernel
theorem dX10_arriveReceipt_196 : decode cX10_arriveReceipt 196 = .ok (.getfield 68, 3) := by decide +kernel
theorem dX10_arriveReceipt_199 : decode cX10_arriveReceipt 199 = .ok (.iload 4, 2) := by decide +kernel
theorem dX10_arriveReceipt_201 : decode cX10_arriveReceipt 201 = .ok (.iaload, 1) := by decide +kernel
theorem dX10_arriveReceipt_202 : decode cX10_arriveReceipt 202 = .ok (.iastore, 1) := by decide +kernel
theorem dX10_arriveReceipt_203 : decode cX10_arriveReceipt 203 = .ok (.iconst 0, 1) := by decide +kernel
theorem dX10_arriveReceipt_204 : decode cX10_arriveReceipt 204 = .ok (.istore 5, 2) := by decide +kernel
theorem dX10_arriveReceipt_206 : decode cX10_arriveReceipt 206 = .ok (.iload 5, 2) := by decide +kernel
theorem dX10_arriveReceipt_208 : decode cX10_arriveReceipt 208 = .ok (.bipush 8, 2) := by decide +kernel
theorem dX10_arriveReceipt_210 : decode cX10_arriveReceipt 210 = .ok (.if_icmp .ge 37, 3) := by decide +kernel
theorem dX10_arriveReceipt_213 : decode cX10_arriveReceipt 213 = .ok (.aload_n 0, 1) := by decide +kernel
theorem dX10_arriveReceipt_214 : decode cX10_arriveReceipt 214 = .ok (.getfield 71, 3) := by decide +kernel
theorem dX10_arriveReceipt_217 : decode cX10_arriveReceipt 217 = .ok (.bipush 8, 2) := by decide +kernel
theorem dX10_arriveReceipt_219 : decode cX10_arriveReceipt 219 = .ok (.iload 4, 2) := by decide +kernel
theorem dX10_arriveReceipt_221 : decode cX10_arriveReceipt 221 = .ok (.iload_n 3, 1) := by decide +kernel
theorem dX10_arriveReceipt_222 : decode cX10_arriveReceipt 222 = .ok (.isub, 1) := by decide +kernel
theorem dX10_arriveReceipt_223 : decode cX10_arriveReceipt 223 = .ok (.imul, 1) := by decide +kernel
