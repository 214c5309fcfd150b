theorem dX10_take_150 : decode cX10_take 150 = .ok (.iload_n 1, 1) := by decide +kernel
theorem dX10_take_151 : decode cX10_take 151 = .ok (.imul, 1) := by decide +kernel
theorem dX10_take_152 : decode cX10_take 152 = .ok (.istore 4, 2) := by decide +kernel
theorem dX10_take_154 : decode cX10_take 154 = .ok (.iload 4, 2) := by decide +kernel
theorem dX10_take_156 : decode cX10_take 156 = .ok (.bipush 64, 2) := by decide +kernel
theorem dX10_take_158 : decode cX10_take 158 = .ok (.iload_n 1, 1) := by decide +kernel
theorem dX10_take_159 : decode cX10_take 159 = .ok (.imul, 1) := by decide +kernel
theorem dX10_take_160 : decode cX10_take 160 = .ok (.aload_n 0, 1) := by decide +kernel
theorem dX10_take_161 : decode cX10_take 161 = .ok (.getfield 122, 3) := by decide +kernel
theorem dX10_take_164 : decode cX10_take 164 = .ok (.iload_n 1, 1) := by decide +kernel
theorem dX10_take_165 : decode cX10_take 165 = .ok (.iaload, 1) := by decide +kernel
theorem dX10_take_166 : decode cX10_take 166 = .ok (.iadd, 1) := by decide +kernel
theorem dX10_take_167 : decode cX10_take 167 = .ok (.if_icmp .ge 41, 3) := by decide +kernel
theorem dX10_take_170 : decode cX10_take 170 = .ok (.aload_n 0, 1) := by decide +kernel
theorem dX10_take_171 : decode cX10_take 171 = .ok (.getfield 125, 3) := by decide +kernel
theorem dX10_take_174 : decode cX10_take 174 = .ok (.iload 4, 2) := by decide +kernel
theorem dX10_take_176 : decode cX10_take 176 = .ok (.aload_n 0, 1) := by decide +kernel
theorem dX10_take_177 : decode cX10_take 177 = .ok (.getfield 125, 3) := by decide +kernel
theorem dX10_take_180 : decode cX10_take 180 = .ok (.iload 4, 2) := by decide +kernel
theorem dX10_take_182 : decode cX10_take 182 = .ok (.iconst 1, 1) := by decide +kernel
theorem dX10_take_183 : decode cX10_take 183 = .ok (.iadd, 1) := by decide +kernel
theorem dX10_take_184 : decode cX10_take 184 = .ok (.iaload, 1) := by decide +kernel
theorem dX10_take_185 : decode cX10_take 185 = .ok (.iastore, 1) := by decide +kernel
theorem dX10_take_186 : decode cX10_take 186 = .ok (.aload_n 0, 1) := by decide +kernel
theorem dX10_take_187 : decode cX10_take 187 = .ok (.getfield 128, 3) := by decide +kernel
theorem dX10_take_190 : decode cX10_take 190 = .ok (.iload 4, 2) := by decide +kernel
theorem dX10_take_192 : decode cX10_take 192 = .ok (.aload_n 0, 1) := by decide +kernel
theorem dX10_take_193 : decode cX10_take 193 = .ok (.getfield 128, 3) := by decide +kernel
theorem dX10_take_196 : decode cX10_take 196 = .ok (.iload 4, 2) := by decide +kernel
theorem dX10_take_198 : decode cX10_take 198 = .ok (.iconst 1, 1) := by decide +kernel
theorem dX10_take_199 : decode cX10_take 199 = .ok (.iadd, 1) := by decide +kernel
theorem dX10_take_200 : decode cX10_take 200 = .ok (.iaload, 1) := by decide +kernel
theorem dX10_take_201 : decode cX10_take 201 = .ok (.iastore, 1) := by decide +kernel
theorem dX10_take_202 : decode cX10_take 202 = .ok (.iinc 4 1, 3) := by decide +kernel
theorem dX10_take_205 : decode cX10_take 205 = .ok (.goto (-51), 3) := by decide +kernel
theorem dX10_take_208 : decode cX10_take 208 = .ok (.iload_n 2, 1) := by decide +kernel
theorem dX10_take_209 : decode cX10_take 209 = .ok (.ifCond .eq 18, 3) := by decide +kernel
theorem dX10_take_212 : decode cX10_take 212 = .ok (.aload_n 0, 1) := by decide +kernel
theorem dX10_take_213 : decode cX10_take 213 = .ok (.getfield 7, 3) := by decide +kernel
theorem dX10_take_216 : decode cX10_take 216 = .ok (.iload_n 1, 1) := by decide +kernel
theorem dX10_take_217 : decode cX10_take 217 = .ok (.iaload, 1) := by decide +kernel
theorem dX10_take_218 : decode cX10_take 218 = .ok (.iconst 2, 1) := by decide +kernel
theorem dX10_take_219 : decode cX10_take 219 = .ok (.if_icmp .ne 8, 3) := by decide +kernel
theorem dX10_take_222 : decode cX10_take 222 = .ok (.aload_n 0, 1) := by decide +kernel
theorem dX10_take_223 : decode cX10_take 223 = .ok (.iload_n 1, 1) := by decide +kernel
theorem dX10_take_224 : decode cX10_take 224 = .ok (.invokevirtual 271, 3) := by decide +kernel
theorem dX10_take_227 : decode cX10_take 227 = .ok (.iload_n 3, 1) := by decide +kernel
theorem dX10_take_228 : decode cX10_take 228 = .ok (.ireturn, 1) := by decide +kernel
theorem dX10_read_0 : decode cX10_read 0 = .ok (.iload_n 1, 1) := by decide +kernel
theorem dX10_read_1 : decode cX10_read 1 = .ok (.invokestatic 231, 3) := by decide +kernel
theorem dX10_read_4 : decode cX10_read 4 = .ok (.ifCond .eq 32, 3) := by decide +kernel
theorem dX10_read_7 : decode cX10_read 7 = .ok (.iload_n 2, 1) := by decide +kernel
theorem dX10_read_8 : decode cX10_read 8 = .ok (.ifCond .lt 28, 3) := by decide +kernel
theorem dX10_read_11 : decode cX10_read 11 = .ok (.iload_n 2, 1) := by decide +kernel
theorem dX10_read_12 : decode cX10_read 12 = .ok (.aload_n 0, 1) := by decide +kernel
theorem dX10_read_13 : decode cX10_read 13 = .ok (.getfield 137, 3) := by decide +kernel
theorem dX10_read_16 : decode cX10_read 16 = .ok (.iload_n 1, 1) := by decide +kernel
theorem dX10_read_17 : decode cX10_read 17 = .ok (.iaload, 1) := by decide +kernel
theorem dX10_read_18 : decode cX10_read 18 = .ok (.if_icmp .ge 18, 3) := by decide +kernel
theorem dX10_read_21 : decode cX10_read 21 = .ok (.aload_n 0, 1) := by decide +kernel
theorem dX10_read_22 : decode cX10_read 22 = .ok (.getfield 140, 3) := by decide +kernel
theorem dX10_read_25 : decode cX10_read 25 = .ok (.sipush 4096, 3) := by decide +kernel
theorem dX10_read_28 : decode cX10_read 28 = .ok (.iload_n 1, 1) := by decide +kernel
theorem dX10_read_29 : decode cX10_read 29 = .ok (.imul, 1) := by decide +kernel
theorem dX10_read_30 : decode cX10_read 30 = .ok (.iload_n 2, 1) := by decide +kernel
theorem dX10_read_31 : decode cX10_read 31 = .ok (.iadd, 1) := by decide +kernel
theorem dX10_read_32 : decode cX10_read 32 = .ok (.iaload, 1) := by decide +kernel
theorem dX10_read_33 : decode cX10_read 33 = .ok (.goto 4, 3) := by decide +kernel
theorem dX10_read_36 : decode cX10_read 36 = .ok (.iconst (-1), 1) := by decide +kernel
theorem dX10_read_37 : decode cX10_read 37 = .ok (.ireturn, 1) := by decide +kernel
theorem dX10_urgent_0 : decode cX10_urgent 0 = .ok (.iload_n 1, 1) := by decide +kernel
theorem dX10_urgent_1 : decode cX10_urgent 1 = .ok (.invokestatic 231, 3) := by decide +kernel
theorem dX10_urgent_4 : decode cX10_urgent 4 = .ok (.ifCond .ne 5, 3) := by decide +kernel
theorem dX10_urgent_7 : decode cX10_urgent 7 = .ok (.iconst (-1), 1) := by decide +kernel
theorem dX10_urgent_8 : decode cX10_urgent 8 = .ok (.ireturn, 1) := by decide +kernel
theorem dX10_urgent_9 : decode cX10_urgent 9 = .ok (.aload_n 0, 1) := by decide +kernel
theorem dX10_urgent_10 : decode cX10_urgent 10 = .ok (.getfield 143, 3) := by decide +kernel
theorem dX10_urgent_13 : decode cX10_urgent 13 = .ok (.iload_n 1, 1) := by decide +kernel
theorem dX10_urgent_14 : decode cX10_urgent 14 = .ok (.iaload, 1) := by decide +kernel
theorem dX10_urgent_15 : decode cX10_urgent 15 = .ok (.ifCond .ne 6, 3) := by decide +kernel
theorem dX10_urgent_18 : decode cX10_urgent 18 = .ok (.bipush (-2), 2) := by decide +kernel
theorem dX10_urgent_20 : decode cX10_urgent 20 = .ok (.ireturn, 1) := by decide +kernel
theorem dX10_urgent_21 : decode cX10_urgent 21 = .ok (.aload_n 0, 1) := by decide +kernel
theorem dX10_urgent_22 : decode cX10_urgent 22 = .ok (.getfield 146, 3) := by decide +kernel
theorem dX10_urgent_25 : decode cX10_urgent 25 = .ok (.sipush 1024, 3) := by decide +kernel
theorem dX10_urgent_28 : decode cX10_urgent 28 = .ok (.iload_n 1, 1) := by decide +kernel
theorem dX10_urgent_29 : decode cX10_urgent 29 = .ok (.imul, 1) := by decide +kernel
theorem dX10_urgent_30 : decode cX10_urgent 30 = .ok (.iaload, 1) := by decide +kernel
theorem dX10_urgent_31 : decode cX10_urgent 31 = .ok (.istore_n 2, 1) := by decide +kernel
theorem dX10_urgent_32 : decode cX10_urgent 32 = .ok (.aload_n 0, 1) := by decide +kernel
theorem dX10_urgent_33 : decode cX10_urgent 33 = .ok (.getfield 143, 3) := by decide +kernel
theorem dX10_urgent_36 : decode cX10_urgent 36 = .ok (.iload_n 1, 1) := by decide +kernel
theorem dX10_urgent_37 : decode cX10_urgent 37 = .ok (.dup2, 1) := by decide +kernel
theorem dX10_urgent_38 : decode cX10_urgent 38 = .ok (.iaload, 1) := by decide +kernel
theorem dX10_urgent_39 : decode cX10_urgent 39 = .ok (.iconst 1, 1) := by decide +kernel
theorem dX10_urgent_40 : decode cX10_urgent 40 = .ok (.isub, 1) := by decide +kernel
theorem dX10_urgent_41 : decode cX10_urgent 41 = .ok (.iastore, 1) := by decide +kernel
theorem dX10_urgent_42 : decode cX10_urgent 42 = .ok (.sipush 1024, 3) := by decide +kernel
theorem dX10_urgent_45 : decode cX10_urgent 45 = .ok (.iload_n 1, 1) := by decide +kernel
theorem dX10_urgent_46 : decode cX10_urgent 46 = .ok (.imul, 1) := by decide +kernel
theorem dX10_urgent_47 : decode cX10_urgent 47 = .ok (.istore_n 3, 1) := by decide +kernel
theorem dX10_urgent_48 : decode cX10_urgent 48 = .ok (.iload_n 3, 1) := by decide +kernel
theorem dX10_urgent_49 : decode cX10_urgent 49 = .ok (.sipush 1024, 3) := by decide +kernel
theorem dX10_urgent_52 : decode cX10_urgent 52 = .ok (.iload_n 1, 1) := by decide +kernel
theorem dX10_urgent_53 : decode cX10_urgent 53 = .ok (.imul, 1) := by decide +kernel
theorem dX10_urgent_54 : decode cX10_urgent 54 = .ok (.aload_n 0, 1) := by decide +kernel
theorem dX10_urgent_55 : decode cX10_urgent 55 = .ok (.getfield 143, 3) := by decide +kernel
theorem dX10_urgent_58 : decode cX10_urgent 58 = .ok (.iload_n 1, 1) := by decide +kernel
theorem dX10_urgent_59 : decode cX10_urgent 59 = .ok (.iaload, 1) := by decide +kernel
theorem dX10_urgent_60 : decode cX10_urgent 60 = .ok (.iadd, 1) := by decide +kernel
theorem dX10_urgent_61 : decode cX10_urgent 61 = .ok (.if_icmp .ge 23, 3) := by decide +kernel
theorem dX10_urgent_64 : decode cX10_urgent 64 = .ok (.aload_n 0, 1) := by decide +kernel
theorem dX10_urgent_65 : decode cX10_urgent 65 = .ok (.getfield 146, 3) := by decide +kernel
theorem dX10_urgent_68 : decode cX10_urgent 68 = .ok (.iload_n 3, 1) := by decide +kernel
theorem dX10_urgent_69 : decode cX10_urgent 69 = .ok (.aload_n 0, 1) := by decide +kernel
theorem dX10_urgent_70 : decode cX10_urgent 70 = .ok (.getfield 146, 3) := by decide +kernel
theorem dX10_urgent_73 : decode cX10_urgent 73 = .ok (.iload_n 3, 1) := by decide +kernel
theorem dX10_urgent_74 : decode cX10_urgent 74 = .ok (.iconst 1, 1) := by decide +kernel
theorem dX10_urgent_75 : decode cX10_urgent 75 = .ok (.iadd, 1) := by decide +kernel
theorem dX10_urgent_76 : decode cX10_urgent 76 = .ok (.iaload, 1) := by decide +kernel
theorem dX10_urgent_77 : decode cX10_urgent 77 = .ok (.iastore, 1) := by decide +kernel
theorem dX10_urgent_78 : decode cX10_urgent 78 = .ok (.iinc 3 1, 3) := by decide +kernel
theorem dX10_urgent_81 : decode cX10_urgent 81 = .ok (.goto (-33), 3) := by decide +kernel
theorem dX10_urgent_84 : decode cX10_urgent 84 = .ok (.iload_n 2, 1) := by decide +kernel
theorem dX10_urgent_85 : decode cX10_urgent 85 = .ok (.ireturn, 1) := by decide +kernel
theorem dX10_told_0 : decode cX10_told 0 = .ok (.iload_n 1, 1) := by decide +kernel
theorem dX10_told_1 : decode cX10_told 1 = .ok (.invokestatic 231, 3) := by decide +kernel
theorem dX10_told_4 : decode cX10_told 4 = .ok (.ifCond .ne 5, 3) := by decide +kernel
theorem dX10_told_7 : decode cX10_told 7 = .ok (.iconst (-1), 1) := by decide +kernel
theorem dX10_told_8 : decode cX10_told 8 = .ok (.ireturn, 1) := by decide +kernel
theorem dX10_told_9 : decode cX10_told 9 = .ok (.iload_n 2, 1) := by decide +kernel
theorem dX10_told_10 : decode cX10_told 10 = .ok (.tableswitch 133 0 9 #[54, 61, 68, 75, 82, 89, 95, 112, 119, 126], 54) := by decide +kernel
theorem dX10_told_64 : decode cX10_told 64 = .ok (.aload_n 0, 1) := by decide +kernel
theorem dX10_told_65 : decode cX10_told 65 = .ok (.getfield 7, 3) := by decide +kernel
theorem dX10_told_68 : decode cX10_told 68 = .ok (.iload_n 1, 1) := by decide +kernel
theorem dX10_told_69 : decode cX10_told 69 = .ok (.iaload, 1) := by decide +kernel
theorem dX10_told_70 : decode cX10_told 70 = .ok (.ireturn, 1) := by decide +kernel
theorem dX10_told_71 : decode cX10_told 71 = .ok (.aload_n 0, 1) := by decide +kernel
theorem dX10_told_72 : decode cX10_told 72 = .ok (.getfield 13, 3) := by decide +kernel
theorem dX10_told_75 : decode cX10_told 75 = .ok (.iload_n 1, 1) := by decide +kernel
theorem dX10_told_76 : decode cX10_told 76 = .ok (.iaload, 1) := by decide +kernel
theorem dX10_told_77 : decode cX10_told 77 = .ok (.ireturn, 1) := by decide +kernel
theorem dX10_told_78 : decode cX10_told 78 = .ok (.aload_n 0, 1) := by decide +kernel
theorem dX10_told_79 : decode cX10_told 79 = .ok (.getfield 16, 3) := by decide +kernel
theorem dX10_told_82 : decode cX10_told 82 = .ok (.iload_n 1, 1) := by decide +kernel
theorem dX10_told_83 : decode cX10_told 83 = .ok (.iaload, 1) := by decide +kernel
theorem dX10_told_84 : decode cX10_told 84 = .ok (.ireturn, 1) := by decide +kernel
theorem dX10_told_85 : decode cX10_told 85 = .ok (.aload_n 0, 1) := by decide +kernel
theorem dX10_told_86 : decode cX10_told 86 = .ok (.getfield 74, 3) := by decide +kernel
theorem dX10_told_89 : decode cX10_told 89 = .ok (.iload_n 1, 1) := by decide +kernel
theorem dX10_told_90 : decode cX10_told 90 = .ok (.iaload, 1) := by decide +kernel
theorem dX10_told_91 : decode cX10_told 91 = .ok (.ireturn, 1) := by decide +kernel
theorem dX10_told_92 : decode cX10_told 92 = .ok (.aload_n 0, 1) := by decide +kernel
theorem dX10_told_93 : decode cX10_told 93 = .ok (.getfield 98, 3) := by decide +kernel
theorem dX10_told_96 : decode cX10_told 96 = .ok (.iload_n 1, 1) := by decide +kernel
theorem dX10_told_97 : decode cX10_told 97 = .ok (.iaload, 1) := by decide +kernel
theorem dX10_told_98 : decode cX10_told 98 = .ok (.ireturn, 1) := by decide +kernel
theorem dX10_told_99 : decode cX10_told 99 = .ok (.aload_n 0, 1) := by decide +kernel
theorem dX10_told_100 : decode cX10_told 100 = .ok (.iload_n 1, 1) := by decide +kernel
theorem dX10_told_101 : decode cX10_told 101 = .ok (.invokevirtual 214, 3) := by decide +kernel
theorem dX10_told_104 : decode cX10_told 104 = .ok (.ireturn, 1) := by decide +kernel
theorem dX10_told_105 : decode cX10_told 105 = .ok (.aload_n 0, 1) := by decide +kernel
theorem dX10_told_106 : decode cX10_told 106 = .ok (.getfield 77, 3) := by decide +kernel
theorem dX10_told_109 : decode cX10_told 109 = .ok (.iload_n 1, 1) := by decide +kernel
theorem dX10_told_110 : decode cX10_told 110 = .ok (.iaload, 1) := by decide +kernel
theorem dX10_told_111 : decode cX10_told 111 = .ok (.aload_n 0, 1) := by decide +kernel
theorem dX10_told_112 : decode cX10_told 112 = .ok (.getfield 80, 3) := by decide +kernel
theorem dX10_told_115 : decode cX10_told 115 = .ok (.iload_n 1, 1) := by decide +kernel
theorem dX10_told_116 : decode cX10_told 116 = .ok (.iaload, 1) := by decide +kernel
theorem dX10_told_117 : decode cX10_told 117 = .ok (.iadd, 1) := by decide +kernel
theorem dX10_told_118 : decode cX10_told 118 = .ok (.invokestatic 221, 3) := by decide +kernel
theorem dX10_told_121 : decode cX10_told 121 = .ok (.ireturn, 1) := by decide +kernel
theorem dX10_told_122 : decode cX10_told 122 = .ok (.aload_n 0, 1) := by decide +kernel
theorem dX10_told_123 : decode cX10_told 123 = .ok (.getfield 122, 3) := by decide +kernel
theorem dX10_told_126 : decode cX10_told 126 = .ok (.iload_n 1, 1) := by decide +kernel
theorem dX10_told_127 : decode cX10_told 127 = .ok (.iaload, 1) := by decide +kernel
theorem dX10_told_128 : decode cX10_told 128 = .ok (.ireturn, 1) := by decide +kernel
theorem dX10_told_129 : decode cX10_told 129 = .ok (.aload_n 0, 1) := by decide +kernel
theorem dX10_told_130 : decode cX10_told 130 = .ok (.getfield 143, 3) := by decide +kernel
theorem dX10_told_133 : decode cX10_told 133 = .ok (.iload_n 1, 1) := by decide +kernel
theorem dX10_told_134 : decode cX10_told 134 = .ok (.iaload, 1) := by decide +kernel
theorem dX10_told_135 : decode cX10_told 135 = .ok (.ireturn, 1) := by decide +kernel
theorem dX10_told_136 : decode cX10_told 136 = .ok (.aload_n 0, 1) := by decide +kernel
theorem dX10_told_137 : decode cX10_told 137 = .ok (.getfield 23, 3) := by decide +kernel
theorem dX10_told_140 : decode cX10_told 140 = .ok (.iload_n 1, 1) := by decide +kernel
theorem dX10_told_141 : decode cX10_told 141 = .ok (.iaload, 1) := by decide +kernel
theorem dX10_told_142 : decode cX10_told 142 = .ok (.ireturn, 1) := by decide +kernel
theorem dX10_told_143 : decode cX10_told 143 = .ok (.iconst (-1), 1) := by decide +kernel
theorem dX10_told_144 : decode cX10_told 144 = .ok (.ireturn, 1) := by decide +kernel
theorem dX10_sent_0 : decode cX10_sent 0 = .ok (.aload_n 0, 1) := by decide +kernel
theorem dX10_sent_1 : decode cX10_sent 1 = .ok (.getfield 195, 3) := by decide +kernel
theorem dX10_sent_4 : decode cX10_sent 4 = .ok (.ireturn, 1) := by decide +kernel
theorem dX10_byteOf_0 : decode cX10_byteOf 0 = .ok (.iload_n 1, 1) := by decide +kernel
theorem dX10_byteOf_1 : decode cX10_byteOf 1 = .ok (.ifCond .lt 26, 3) := by decide +kernel
theorem dX10_byteOf_4 : decode cX10_byteOf 4 = .ok (.iload_n 1, 1) := by decide +kernel
theorem dX10_byteOf_5 : decode cX10_byteOf 5 = .ok (.aload_n 0, 1) := by decide +kernel
theorem dX10_byteOf_6 : decode cX10_byteOf 6 = .ok (.getfield 195, 3) := by decide +kernel
theorem dX10_byteOf_9 : decode cX10_byteOf 9 = .ok (.if_icmp .ge 18, 3) := by decide +kernel
theorem dX10_byteOf_12 : decode cX10_byteOf 12 = .ok (.iload_n 1, 1) := by decide +kernel
theorem dX10_byteOf_13 : decode cX10_byteOf 13 = .ok (.aload_n 0, 1) := by decide +kernel
theorem dX10_byteOf_14 : decode cX10_byteOf 14 = .ok (.getfield 195, 3) := by decide +kernel
theorem dX10_byteOf_17 : decode cX10_byteOf 17 = .ok (.bipush 64, 2) := by decide +kernel
theorem dX10_byteOf_19 : decode cX10_byteOf 19 = .ok (.isub, 1) := by decide +kernel
theorem dX10_byteOf_20 : decode cX10_byteOf 20 = .ok (.if_icmp .lt 7, 3) := by decide +kernel
theorem dX10_byteOf_23 : decode cX10_byteOf 23 = .ok (.iconst 1, 1) := by decide +kernel
theorem dX10_byteOf_24 : decode cX10_byteOf 24 = .ok (.goto 4, 3) := by decide +kernel
theorem dX10_byteOf_27 : decode cX10_byteOf 27 = .ok (.iconst 0, 1) := by decide +kernel
theorem dX10_byteOf_28 : decode cX10_byteOf 28 = .ok (.istore_n 3, 1) := by decide +kernel
theorem dX10_byteOf_29 : decode cX10_byteOf 29 = .ok (.iload_n 3, 1) := by decide +kernel
theorem dX10_byteOf_30 : decode cX10_byteOf 30 = .ok (.ifCond .eq 39, 3) := by decide +kernel
theorem dX10_byteOf_33 : decode cX10_byteOf 33 = .ok (.iload_n 2, 1) := by decide +kernel
theorem dX10_byteOf_34 : decode cX10_byteOf 34 = .ok (.ifCond .lt 35, 3) := by decide +kernel
theorem dX10_byteOf_37 : decode cX10_byteOf 37 = .ok (.iload_n 2, 1) := by decide +kernel
theorem dX10_byteOf_38 : decode cX10_byteOf 38 = .ok (.aload_n 0, 1) := by decide +kernel
theorem dX10_byteOf_39 : decode cX10_byteOf 39 = .ok (.getfield 168, 3) := by decide +kernel
theorem dX10_byteOf_42 : decode cX10_byteOf 42 = .ok (.iload_n 1, 1) := by decide +kernel
theorem dX10_byteOf_43 : decode cX10_byteOf 43 = .ok (.sipush 4096, 3) := by decide +kernel
theorem dX10_byteOf_46 : decode cX10_byteOf 46 = .ok (.irem, 1) := by decide +kernel
theorem dX10_byteOf_47 : decode cX10_byteOf 47 = .ok (.iaload, 1) := by decide +kernel
theorem dX10_byteOf_48 : decode cX10_byteOf 48 = .ok (.if_icmp .ge 21, 3) := by decide +kernel
theorem dX10_byteOf_51 : decode cX10_byteOf 51 = .ok (.aload_n 0, 1) := by decide +kernel
theorem dX10_byteOf_52 : decode cX10_byteOf 52 = .ok (.getfield 165, 3) := by decide +kernel
theorem dX10_byteOf_55 : decode cX10_byteOf 55 = .ok (.bipush 20, 2) := by decide +kernel
