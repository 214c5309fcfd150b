theorem dX10_take_128 : decode cX10_take 128 = .ok (.aload_n 0, 1) := by decide +kernel
theorem dX10_take_129 : decode cX10_take 129 = .ok (.getfield 134, 3) := by decide +kernel
theorem dX10_take_132 : decode cX10_take 132 = .ok (.iload_n 1, 1) := by decide +kernel
theorem dX10_take_133 : decode cX10_take 133 = .ok (.dup2, 1) := by decide +kernel
theorem dX10_take_134 : decode cX10_take 134 = .ok (.iaload, 1) := by decide +kernel
theorem dX10_take_135 : decode cX10_take 135 = .ok (.iload_n 3, 1) := by decide +kernel
theorem dX10_take_136 : decode cX10_take 136 = .ok (.isub, 1) := by decide +kernel
theorem dX10_take_137 : decode cX10_take 137 = .ok (.iastore, 1) := by decide +kernel
theorem dX10_take_138 : decode cX10_take 138 = .ok (.aload_n 0, 1) := by decide +kernel
theorem dX10_take_139 : decode cX10_take 139 = .ok (.getfield 122, 3) := by decide +kernel
theorem dX10_take_142 : decode cX10_take 142 = .ok (.iload_n 1, 1) := by decide +kernel
theorem dX10_take_143 : decode cX10_take 143 = .ok (.dup2, 1) := by decide +kernel
theorem dX10_take_144 : decode cX10_take 144 = .ok (.iaload, 1) := by decide +kernel
theorem dX10_take_145 : decode cX10_take 145 = .ok (.iconst 1, 1) := by decide +kernel
theorem dX10_take_146 : decode cX10_take 146 = .ok (.isub, 1) := by decide +kernel
theorem dX10_take_147 : decode cX10_take 147 = .ok (.iastore, 1) := by decide +kernel
theorem dX10_take_148 : decode cX10_take 148 = .ok (.bipush 64, 2) := by decide +kernel
theorem dX10_take_150 : decode cX10_take 150 = .ok (.iload_n 1, 1) := by decide +kernel
theorem dX10_take_151 : decode cX10_take 151 = .ok (.imul, 1) := by decide +kernel
theorem dX10_take_152 : decode cX10_take 152 = .ok (.istore 4, 2) := by decide +kernel
theorem dX10_take_154 : decode cX10_take 154 = .ok (.iload 4, 2) := by decide +kernel
theorem dX10_take_156 : decode cX10_take 156 = .ok (.bipush 64, 2) := by decide +kernel
theorem dX10_take_158 : decode cX10_take 158 = .ok (.iload_n 1, 1) := by decide +kernel
theorem dX10_take_159 : decode cX10_take 159 = .ok (.imul, 1) := by decide +kernel
theorem dX10_take_160 : decode cX10_take 160 = .ok (.aload_n 0, 1) := by decide +kernel
theorem dX10_take_161 : decode cX10_take 161 = .ok (.getfield 122, 3) := by decide +kernel
theorem dX10_take_164 : decode cX10_take 164 = .ok (.iload_n 1, 1) := by decide +kernel
theorem dX10_take_165 : decode cX10_take 165 = .ok (.iaload, 1) := by decide +kernel
theorem dX10_take_166 : decode cX10_take 166 = .ok (.iadd, 1) := by decide +kernel
theorem dX10_take_167 : decode cX10_take 167 = .ok (.if_icmp .ge 41, 3) := by decide +kernel
theorem dX10_take_170 : decode cX10_take 170 = .ok (.aload_n 0, 1) := by decide +kernel
theorem dX10_take_171 : decode cX10_take 171 = .ok (.getfield 125, 3) := by decide +kernel
theorem dX10_take_174 : decode cX10_take 174 = .ok (.iload 4, 2) := by decide +kernel
theorem dX10_take_176 : decode cX10_take 176 = .ok (.aload_n 0, 1) := by decide +kernel
theorem dX10_take_177 : decode cX10_take 177 = .ok (.getfield 125, 3) := by decide +kernel
theorem dX10_take_180 : decode cX10_take 180 = .ok (.iload 4, 2) := by decide +kernel
theorem dX10_take_182 : decode cX10_take 182 = .ok (.iconst 1, 1) := by decide +kernel
theorem dX10_take_183 : decode cX10_take 183 = .ok (.iadd, 1) := by decide +kernel
theorem dX10_take_184 : decode cX10_take 184 = .ok (.iaload, 1) := by decide +kernel
theorem dX10_take_185 : decode cX10_take 185 = .ok (.iastore, 1) := by decide +kernel
theorem dX10_take_186 : decode cX10_take 186 = .ok (.aload_n 0, 1) := by decide +kernel
theorem dX10_take_187 : decode cX10_take 187 = .ok (.getfield 128, 3) := by decide +kernel
theorem dX10_take_190 : decode cX10_take 190 = .ok (.iload 4, 2) := by decide +kernel
theorem dX10_take_192 : decode cX10_take 192 = .ok (.aload_n 0, 1) := by decide +kernel
theorem dX10_take_193 : decode cX10_take 193 = .ok (.getfield 128, 3) := by decide +kernel
theorem dX10_take_196 : decode cX10_take 196 = .ok (.iload 4, 2) := by decide +kernel
theorem dX10_take_198 : decode cX10_take 198 = .ok (.iconst 1, 1) := by decide +kernel
theorem dX10_take_199 : decode cX10_take 199 = .ok (.iadd, 1) := by decide +kernel
theorem dX10_take_200 : decode cX10_take 200 = .ok (.iaload, 1) := by decide +kernel
theorem dX10_take_201 : decode cX10_take 201 = .ok (.iastore, 1) := by decide +kernel
theorem dX10_take_202 : decode cX10_take 202 = .ok (.iinc 4 1, 3) := by decide +kernel
theorem dX10_take_205 : decode cX10_take 205 = .ok (.goto (-51), 3) := by decide +kernel
theorem dX10_take_208 : decode cX10_take 208 = .ok (.iload_n 2, 1) := by decide +kernel
theorem dX10_take_209 : decode cX10_take 209 = .ok (.ifCond .eq 18, 3) := by decide +kernel
theorem dX10_take_212 : decode cX10_take 212 = .ok (.aload_n 0, 1) := by decide +kernel
theorem dX10_take_213 : decode cX10_take 213 = .ok (.getfield 7, 3) := by decide +kernel
theorem dX10_take_216 : decode cX10_take 216 = .ok (.iload_n 1, 1) := by decide +kernel
theorem dX10_take_217 : decode cX10_take 217 = .ok (.iaload, 1) := by decide +kernel
theorem dX10_take_218 : decode cX10_take 218 = .ok (.iconst 2, 1) := by decide +kernel
theorem dX10_take_219 : decode cX10_take 219 = .ok (.if_icmp .ne 8, 3) := by decide +kernel
theorem dX10_take_222 : decode cX10_take 222 = .ok (.aload_n 0, 1) := by decide +kernel
theorem dX10_take_223 : decode cX10_take 223 = .ok (.iload_n 1, 1) := by decide +kernel
theorem dX10_take_224 : decode cX10_take 224 = .ok (.invokevirtual 271, 3) := by decide +kernel
theorem dX10_take_227 : decode cX10_take 227 = .ok (.iload_n 3, 1) := by decide +kernel
theorem dX10_take_228 : decode cX10_take 228 = .ok (.ireturn, 1) := by decide +kernel
theorem dX10_read_0 : decode cX10_read 0 = .ok (.iload_n 1, 1) := by decide +kernel
theorem dX10_read_1 : decode cX10_read 1 = .ok (.invokestatic 231, 3) := by decide +kernel
theorem dX10_read_4 : decode cX10_read 4 = .ok (.ifCond .eq 32, 3) := by decide +kernel
theorem dX10_read_7 : decode cX10_read 7 = .ok (.iload_n 2, 1) := by decide +kernel
theorem dX10_read_8 : decode cX10_read 8 = .ok (.ifCond .lt 28, 3) := by decide +kernel
theorem dX10_read_11 : decode cX10_read 11 = .ok (.iload_n 2, 1) := by decide +kernel
theorem dX10_read_12 : decode cX10_read 12 = .ok (.aload_n 0, 1) := by decide +kernel
theorem dX10_read_13 : decode cX10_read 13 = .ok (.getfield 137, 3) := by decide +kernel
theorem dX10_read_16 : decode cX10_read 16 = .ok (.iload_n 1, 1) := by decide +kernel
theorem dX10_read_17 : decode cX10_read 17 = .ok (.iaload, 1) := by decide +kernel
theorem dX10_read_18 : decode cX10_read 18 = .ok (.if_icmp .ge 18, 3) := by decide +kernel
theorem dX10_read_21 : decode cX10_read 21 = .ok (.aload_n 0, 1) := by decide +kernel
theorem dX10_read_22 : decode cX10_read 22 = .ok (.getfield 140, 3) := by decide +kernel
theorem dX10_read_25 : decode cX10_read 25 = .ok (.sipush 4096, 3) := by decide +kernel
theorem dX10_read_28 : decode cX10_read 28 = .ok (.iload_n 1, 1) := by decide +kernel
theorem dX10_read_29 : decode cX10_read 29 = .ok (.imul, 1) := by decide +kernel
theorem dX10_read_30 : decode cX10_read 30 = .ok (.iload_n 2, 1) := by decide +kernel
theorem dX10_read_31 : decode cX10_read 31 = .ok (.iadd, 1) := by decide +kernel
theorem dX10_read_32 : decode cX10_read 32 = .ok (.iaload, 1) := by decide +kernel
theorem dX10_read_33 : decode cX10_read 33 = .ok (.goto 4, 3) := by decide +kernel
theorem dX10_read_36 : decode cX10_read 36 = .ok (.iconst (-1), 1) := by decide +kernel
theorem dX10_read_37 : decode cX10_read 37 = .ok (.ireturn, 1) := by decide +kernel
theorem dX10_urgent_0 : decode cX10_urgent 0 = .ok (.iload_n 1, 1) := by decide +kernel
theorem dX10_urgent_1 : decode cX10_urgent 1 = .ok (.invokestatic 231, 3) := by decide +kernel
theorem dX10_urgent_4 : decode cX10_urgent 4 = .ok (.ifCond .ne 5, 3) := by decide +kernel
theorem dX10_urgent_7 : decode cX10_urgent 7 = .ok (.iconst (-1), 1) := by decide +kernel
theorem dX10_urgent_8 : decode cX10_urgent 8 = .ok (.ireturn, 1) := by decide +kernel
theorem dX10_urgent_9 : decode cX10_urgent 9 = .ok (.aload_n 0, 1) := by decide +kernel
theorem dX10_urgent_10 : decode cX10_urgent 10 = .ok (.getfield 143, 3) := by decide +kernel
theorem dX10_urgent_13 : decode cX10_urgent 13 = .ok (.iload_n 1, 1) := by decide +kernel
theorem dX10_urgent_14 : decode cX10_urgent 14 = .ok (.iaload, 1) := by decide +kernel
theorem dX10_urgent_15 : decode cX10_urgent 15 = .ok (.ifCond .ne 6, 3) := by decide +kernel
theorem dX10_urgent_18 : decode cX10_urgent 18 = .ok (.bipush (-2), 2) := by decide +kernel
theorem dX10_urgent_20 : decode cX10_urgent 20 = .ok (.ireturn, 1) := by decide +kernel
theorem dX10_urgent_21 : decode cX10_urgent 21 = .ok (.aload_n 0, 1) := by decide +kernel
theorem dX10_urgent_22 : decode cX10_urgent 22 = .ok (.getfield 146, 3) := by decide +kernel
theorem dX10_urgent_25 : decode cX10_urgent 25 = .ok (.sipush 1024, 3) := by decide +kernel
theorem dX10_urgent_28 : decode cX10_urgent 28 = .ok (.iload_n 1, 1) := by decide +kernel
theorem dX10_urgent_29 : decode cX10_urgent 29 = .ok (.imul, 1) := by decide +kernel
theorem dX10_urgent_30 : decode cX10_urgent 30 = .ok (.iaload, 1) := by decide +kernel
theorem dX10_urgent_31 : decode cX10_urgent 31 = .ok (.istore_n 2, 1) := by decide +kernel
theorem dX10_urgent_32 : decode cX10_urgent 32 = .ok (.aload_n 0, 1) := by decide +kernel
theorem dX10_urgent_33 : decode cX10_urgent 33 = .ok (.getfield 143, 3) := by decide +kernel
theorem dX10_urgent_36 : decode cX10_urgent 36 = .ok (.iload_n 1, 1) := by decide +kernel
theorem dX10_urgent_37 : decode cX10_urgent 37 = .ok (.dup2, 1) := by decide +kernel
theorem dX10_urgent_38 : decode cX10_urgent 38 = .ok (.iaload, 1) := by decide +kernel
theorem dX10_urgent_39 : decode cX10_urgent 39 = .ok (.iconst 1, 1) := by decide +kernel
theorem dX10_urgent_40 : decode cX10_urgent 40 = .ok (.isub, 1) := by decide +kernel
theorem dX10_urgent_41 : decode cX10_urgent 41 = .ok (.iastore, 1) := by decide +kernel
theorem dX10_urgent_42 : decode cX10_urgent 42 = .ok (.sipush 1024, 3) := by decide +kernel
theorem dX10_urgent_45 : decode cX10_urgent 45 = .ok (.iload_n 1, 1) := by decide +kernel
theorem dX10_urgent_46 : decode cX10_urgent 46 = .ok (.imul, 1) := by decide +kernel
theorem dX10_urgent_47 : decode cX10_urgent 47 = .ok (.istore_n 3, 1) := by decide +kernel
theorem dX10_urgent_48 : decode cX10_urgent 48 = .ok (.iload_n 3, 1) := by decide +kernel
theorem dX10_urgent_49 : decode cX10_urgent 49 = .ok (.sipush 1024, 3) := by decide +kernel
theorem dX10_urgent_52 : decode cX10_urgent 52 = .ok (.iload_n 1, 1) := by decide +kernel
theorem dX10_urgent_53 : decode cX10_urgent 53 = .ok (.imul, 1) := by decide +kernel
theorem dX10_urgent_54 : decode cX10_urgent 54 = .ok (.aload_n 0, 1) := by decide +kernel
theorem dX10_urgent_55 : decode cX10_urgent 55 = .ok (.getfield 143, 3) := by decide +kernel
theorem dX10_urgent_58 : decode cX10_urgent 58 = .ok (.iload_n 1, 1) := by decide +kernel
theorem dX10_urgent_59 : decode cX10_urgent 59 = .ok (.iaload, 1) := by decide +kernel
theorem dX10_urgent_60 : decode cX10_urgent 60 = .ok (.iadd, 1) := by decide +kernel
theorem dX10_urgent_61 : decode cX10_urgent 61 = .ok (.if_icmp .ge 23, 3) := by decide +kernel
theorem dX10_urgent_64 : decode cX10_urgent 64 = .ok (.aload_n 0, 1) := by decide +kernel
theorem dX10_urgent_65 : decode cX10_urgent 65 = .ok (.getfield 146, 3) := by decide +kernel
theorem dX10_urgent_68 : decode cX10_urgent 68 = .ok (.iload_n 3, 1) := by decide +kernel
theorem dX10_urgent_69 : decode cX10_urgent 69 = .ok (.aload_n 0, 1) := by decide +kernel
theorem dX10_urgent_70 : decode cX10_urgent 70 = .ok (.getfield 146, 3) := by decide +kernel
theorem dX10_urgent_73 : decode cX10_urgent 73 = .ok (.iload_n 3, 1) := by decide +kernel
theorem dX10_urgent_74 : decode cX10_urgent 74 = .ok (.iconst 1, 1) := by decide +kernel
theorem dX10_urgent_75 : decode cX10_urgent 75 = .ok (.iadd, 1) := by decide +kernel
theorem dX10_urgent_76 : decode cX10_urgent 76 = .ok (.iaload, 1) := by decide +kernel
theorem dX10_urgent_77 : decode cX10_urgent 77 = .ok (.iastore, 1) := by decide +kernel
theorem dX10_urgent_78 : decode cX10_urgent 78 = .ok (.iinc 3 1, 3) := by decide +kernel
theorem dX10_urgent_81 : decode cX10_urgent 81 = .ok (.goto (-33), 3) := by decide +kernel
theorem dX10_urgent_84 : decode cX10_urgent 84 = .ok (.iload_n 2, 1) := by decide +kernel
theorem dX10_urgent_85 : decode cX10_urgent 85 = .ok (.ireturn, 1) := by decide +kernel
theorem dX10_told_0 : decode cX10_told 0 = .ok (.iload_n 1, 1) := by decide +kernel
theorem dX10_told_1 : decode cX10_told 1 = .ok (.invokestatic 231, 3) := by decide +kernel
theorem dX10_told_4 : decode cX10_told 4 = .ok (.ifCond .ne 5, 3) := by decide +kernel
theorem dX10_told_7 : decode cX10_told 7 = .ok (.iconst (-1), 1) := by decide +kernel
theorem dX10_told_8 : decode cX10_told 8 = .ok (.ireturn, 1) := by decide +kernel
theorem dX10_told_9 : decode cX10_told 9 = .ok (.iload_n 2, 1) := by decide +kernel
theorem dX10_told_10 : decode cX10_told 10 = .ok (.tableswitch 133 0 9 #[54, 61, 68, 75, 82, 89, 95, 112, 119, 126], 54) := by decide +kernel
theorem dX10_told_64 : decode cX10_told 64 = .ok (.aload_n 0, 1) := by decide +kernel
theorem dX10_told_65 : decode cX10_told 65 = .ok (.getfield 7, 3) := by decide +kernel
theorem dX10_told_68 : decode cX10_told 68 = .ok (.iload_n 1, 1) := by decide +kernel
theorem dX10_told_69 : decode cX10_told 69 = .ok (.iaload, 1) := by decide +kernel
theorem dX10_told_70 : decode cX10_told 70 = .ok (.ireturn, 1) := by decide +kernel
theorem dX10_told_71 : decode cX10_told 71 = .ok (.aload_n 0, 1) := by decide +kernel
theorem dX10_told_72 : decode cX10_told 72 = .ok (.getfield 13, 3) := by decide +kernel
theorem dX10_told_75 : decode cX10_told 75 = .ok (.iload_n 1, 1) := by decide +kernel
theorem dX10_told_76 : decode cX10_told 76 = .ok (.iaload, 1) := by decide +kernel
