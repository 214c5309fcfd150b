theorem dX10_send_70 : decode cX10_send 70 = .ok (.imul, 1) := by decide +kernel
theorem dX10_send_71 : decode cX10_send 71 = .ok (.aload_n 0, 1) := by decide +kernel
theorem dX10_send_72 : decode cX10_send 72 = .ok (.getfield 50, 3) := by decide +kernel
theorem dX10_send_75 : decode cX10_send 75 = .ok (.iload_n 1, 1) := by decide +kernel
theorem dX10_send_76 : decode cX10_send 76 = .ok (.iaload, 1) := by decide +kernel
theorem dX10_send_77 : decode cX10_send 77 = .ok (.iadd, 1) := by decide +kernel
theorem dX10_send_78 : decode cX10_send 78 = .ok (.istore 4, 2) := by decide +kernel
theorem dX10_send_80 : decode cX10_send 80 = .ok (.aload_n 0, 1) := by decide +kernel
theorem dX10_send_81 : decode cX10_send 81 = .ok (.getfield 251, 3) := by decide +kernel
theorem dX10_send_84 : decode cX10_send 84 = .ok (.bipush 8, 2) := by decide +kernel
theorem dX10_send_86 : decode cX10_send 86 = .ok (.iload_n 3, 1) := by decide +kernel
theorem dX10_send_87 : decode cX10_send 87 = .ok (.imul, 1) := by decide +kernel
theorem dX10_send_88 : decode cX10_send 88 = .ok (.isub, 1) := by decide +kernel
theorem dX10_send_89 : decode cX10_send 89 = .ok (.bipush 8, 2) := by decide +kernel
theorem dX10_send_91 : decode cX10_send 91 = .ok (.if_icmp .ge 15, 3) := by decide +kernel
theorem dX10_send_94 : decode cX10_send 94 = .ok (.aload_n 0, 1) := by decide +kernel
theorem dX10_send_95 : decode cX10_send 95 = .ok (.getfield 251, 3) := by decide +kernel
theorem dX10_send_98 : decode cX10_send 98 = .ok (.bipush 8, 2) := by decide +kernel
theorem dX10_send_100 : decode cX10_send 100 = .ok (.iload_n 3, 1) := by decide +kernel
theorem dX10_send_101 : decode cX10_send 101 = .ok (.imul, 1) := by decide +kernel
theorem dX10_send_102 : decode cX10_send 102 = .ok (.isub, 1) := by decide +kernel
theorem dX10_send_103 : decode cX10_send 103 = .ok (.goto 5, 3) := by decide +kernel
theorem dX10_send_106 : decode cX10_send 106 = .ok (.bipush 8, 2) := by decide +kernel
theorem dX10_send_108 : decode cX10_send 108 = .ok (.istore 5, 2) := by decide +kernel
theorem dX10_send_110 : decode cX10_send 110 = .ok (.aload_n 0, 1) := by decide +kernel
theorem dX10_send_111 : decode cX10_send 111 = .ok (.getfield 56, 3) := by decide +kernel
theorem dX10_send_114 : decode cX10_send 114 = .ok (.iload 4, 2) := by decide +kernel
theorem dX10_send_116 : decode cX10_send 116 = .ok (.iload 5, 2) := by decide +kernel
theorem dX10_send_118 : decode cX10_send 118 = .ok (.iastore, 1) := by decide +kernel
theorem dX10_send_119 : decode cX10_send 119 = .ok (.aload_n 0, 1) := by decide +kernel
theorem dX10_send_120 : decode cX10_send 120 = .ok (.getfield 59, 3) := by decide +kernel
theorem dX10_send_123 : decode cX10_send 123 = .ok (.iload 4, 2) := by decide +kernel
theorem dX10_send_125 : decode cX10_send 125 = .ok (.iload_n 3, 1) := by decide +kernel
theorem dX10_send_126 : decode cX10_send 126 = .ok (.iconst 1, 1) := by decide +kernel
theorem dX10_send_127 : decode cX10_send 127 = .ok (.iadd, 1) := by decide +kernel
theorem dX10_send_128 : decode cX10_send 128 = .ok (.iload_n 2, 1) := by decide +kernel
theorem dX10_send_129 : decode cX10_send 129 = .ok (.if_icmp .ne 7, 3) := by decide +kernel
theorem dX10_send_132 : decode cX10_send 132 = .ok (.iconst 1, 1) := by decide +kernel
theorem dX10_send_133 : decode cX10_send 133 = .ok (.goto 4, 3) := by decide +kernel
theorem dX10_send_136 : decode cX10_send 136 = .ok (.iconst 0, 1) := by decide +kernel
theorem dX10_send_137 : decode cX10_send 137 = .ok (.bastore, 1) := by decide +kernel
theorem dX10_send_138 : decode cX10_send 138 = .ok (.iconst 0, 1) := by decide +kernel
theorem dX10_send_139 : decode cX10_send 139 = .ok (.istore 6, 2) := by decide +kernel
theorem dX10_send_141 : decode cX10_send 141 = .ok (.iload 6, 2) := by decide +kernel
theorem dX10_send_143 : decode cX10_send 143 = .ok (.iload 5, 2) := by decide +kernel
theorem dX10_send_145 : decode cX10_send 145 = .ok (.if_icmp .ge 34, 3) := by decide +kernel
theorem dX10_send_148 : decode cX10_send 148 = .ok (.aload_n 0, 1) := by decide +kernel
theorem dX10_send_149 : decode cX10_send 149 = .ok (.getfield 71, 3) := by decide +kernel
theorem dX10_send_152 : decode cX10_send 152 = .ok (.bipush 8, 2) := by decide +kernel
theorem dX10_send_154 : decode cX10_send 154 = .ok (.iload 4, 2) := by decide +kernel
theorem dX10_send_156 : decode cX10_send 156 = .ok (.imul, 1) := by decide +kernel
theorem dX10_send_157 : decode cX10_send 157 = .ok (.iload 6, 2) := by decide +kernel
theorem dX10_send_159 : decode cX10_send 159 = .ok (.iadd, 1) := by decide +kernel
theorem dX10_send_160 : decode cX10_send 160 = .ok (.aload_n 0, 1) := by decide +kernel
theorem dX10_send_161 : decode cX10_send 161 = .ok (.getfield 149, 3) := by decide +kernel
theorem dX10_send_164 : decode cX10_send 164 = .ok (.bipush 8, 2) := by decide +kernel
theorem dX10_send_166 : decode cX10_send 166 = .ok (.iload_n 3, 1) := by decide +kernel
theorem dX10_send_167 : decode cX10_send 167 = .ok (.imul, 1) := by decide +kernel
theorem dX10_send_168 : decode cX10_send 168 = .ok (.iload 6, 2) := by decide +kernel
theorem dX10_send_170 : decode cX10_send 170 = .ok (.iadd, 1) := by decide +kernel
theorem dX10_send_171 : decode cX10_send 171 = .ok (.iaload, 1) := by decide +kernel
theorem dX10_send_172 : decode cX10_send 172 = .ok (.iastore, 1) := by decide +kernel
theorem dX10_send_173 : decode cX10_send 173 = .ok (.iinc 6 1, 3) := by decide +kernel
theorem dX10_send_176 : decode cX10_send 176 = .ok (.goto (-35), 3) := by decide +kernel
theorem dX10_send_179 : decode cX10_send 179 = .ok (.aload_n 0, 1) := by decide +kernel
theorem dX10_send_180 : decode cX10_send 180 = .ok (.getfield 50, 3) := by decide +kernel
theorem dX10_send_183 : decode cX10_send 183 = .ok (.iload_n 1, 1) := by decide +kernel
theorem dX10_send_184 : decode cX10_send 184 = .ok (.dup2, 1) := by decide +kernel
theorem dX10_send_185 : decode cX10_send 185 = .ok (.iaload, 1) := by decide +kernel
theorem dX10_send_186 : decode cX10_send 186 = .ok (.iconst 1, 1) := by decide +kernel
theorem dX10_send_187 : decode cX10_send 187 = .ok (.iadd, 1) := by decide +kernel
theorem dX10_send_188 : decode cX10_send 188 = .ok (.iastore, 1) := by decide +kernel
theorem dX10_send_189 : decode cX10_send 189 = .ok (.iinc 3 1, 3) := by decide +kernel
theorem dX10_send_192 : decode cX10_send 192 = .ok (.goto (-130), 3) := by decide +kernel
theorem dX10_send_195 : decode cX10_send 195 = .ok (.aload_n 0, 1) := by decide +kernel
theorem dX10_send_196 : decode cX10_send 196 = .ok (.iconst 0, 1) := by decide +kernel
theorem dX10_send_197 : decode cX10_send 197 = .ok (.putfield 251, 3) := by decide +kernel
theorem dX10_send_200 : decode cX10_send 200 = .ok (.aload_n 0, 1) := by decide +kernel
theorem dX10_send_201 : decode cX10_send 201 = .ok (.iload_n 1, 1) := by decide +kernel
theorem dX10_send_202 : decode cX10_send 202 = .ok (.invokevirtual 256, 3) := by decide +kernel
theorem dX10_send_205 : decode cX10_send 205 = .ok (.aload_n 0, 1) := by decide +kernel
theorem dX10_send_206 : decode cX10_send 206 = .ok (.getfield 50, 3) := by decide +kernel
theorem dX10_send_209 : decode cX10_send 209 = .ok (.iload_n 1, 1) := by decide +kernel
theorem dX10_send_210 : decode cX10_send 210 = .ok (.iaload, 1) := by decide +kernel
theorem dX10_send_211 : decode cX10_send 211 = .ok (.ireturn, 1) := by decide +kernel
theorem dX10_urge_0 : decode cX10_urge 0 = .ok (.iload_n 1, 1) := by decide +kernel
theorem dX10_urge_1 : decode cX10_urge 1 = .ok (.invokestatic 231, 3) := by decide +kernel
theorem dX10_urge_4 : decode cX10_urge 4 = .ok (.ifCond .eq 14, 3) := by decide +kernel
theorem dX10_urge_7 : decode cX10_urge 7 = .ok (.iload_n 2, 1) := by decide +kernel
theorem dX10_urge_8 : decode cX10_urge 8 = .ok (.ifCond .lt 10, 3) := by decide +kernel
theorem dX10_urge_11 : decode cX10_urge 11 = .ok (.iload_n 2, 1) := by decide +kernel
theorem dX10_urge_12 : decode cX10_urge 12 = .ok (.sipush 255, 3) := by decide +kernel
theorem dX10_urge_15 : decode cX10_urge 15 = .ok (.if_icmp .le 5, 3) := by decide +kernel
theorem dX10_urge_18 : decode cX10_urge 18 = .ok (.iconst (-1), 1) := by decide +kernel
theorem dX10_urge_19 : decode cX10_urge 19 = .ok (.ireturn, 1) := by decide +kernel
theorem dX10_urge_20 : decode cX10_urge 20 = .ok (.aload_n 0, 1) := by decide +kernel
theorem dX10_urge_21 : decode cX10_urge 21 = .ok (.getfield 7, 3) := by decide +kernel
theorem dX10_urge_24 : decode cX10_urge 24 = .ok (.iload_n 1, 1) := by decide +kernel
theorem dX10_urge_25 : decode cX10_urge 25 = .ok (.iaload, 1) := by decide +kernel
theorem dX10_urge_26 : decode cX10_urge 26 = .ok (.iconst 2, 1) := by decide +kernel
theorem dX10_urge_27 : decode cX10_urge 27 = .ok (.if_icmp .eq 6, 3) := by decide +kernel
theorem dX10_urge_30 : decode cX10_urge 30 = .ok (.bipush (-2), 2) := by decide +kernel
theorem dX10_urge_32 : decode cX10_urge 32 = .ok (.ireturn, 1) := by decide +kernel
theorem dX10_urge_33 : decode cX10_urge 33 = .ok (.aload_n 0, 1) := by decide +kernel
theorem dX10_urge_34 : decode cX10_urge 34 = .ok (.getfield 83, 3) := by decide +kernel
theorem dX10_urge_37 : decode cX10_urge 37 = .ok (.iload_n 1, 1) := by decide +kernel
theorem dX10_urge_38 : decode cX10_urge 38 = .ok (.iaload, 1) := by decide +kernel
theorem dX10_urge_39 : decode cX10_urge 39 = .ok (.bipush 8, 2) := by decide +kernel
theorem dX10_urge_41 : decode cX10_urge 41 = .ok (.if_icmp .ne 6, 3) := by decide +kernel
theorem dX10_urge_44 : decode cX10_urge 44 = .ok (.bipush (-3), 2) := by decide +kernel
theorem dX10_urge_46 : decode cX10_urge 46 = .ok (.ireturn, 1) := by decide +kernel
theorem dX10_urge_47 : decode cX10_urge 47 = .ok (.aload_n 0, 1) := by decide +kernel
theorem dX10_urge_48 : decode cX10_urge 48 = .ok (.getfield 86, 3) := by decide +kernel
theorem dX10_urge_51 : decode cX10_urge 51 = .ok (.bipush 8, 2) := by decide +kernel
theorem dX10_urge_53 : decode cX10_urge 53 = .ok (.iload_n 1, 1) := by decide +kernel
theorem dX10_urge_54 : decode cX10_urge 54 = .ok (.imul, 1) := by decide +kernel
theorem dX10_urge_55 : decode cX10_urge 55 = .ok (.aload_n 0, 1) := by decide +kernel
theorem dX10_urge_56 : decode cX10_urge 56 = .ok (.getfield 83, 3) := by decide +kernel
theorem dX10_urge_59 : decode cX10_urge 59 = .ok (.iload_n 1, 1) := by decide +kernel
theorem dX10_urge_60 : decode cX10_urge 60 = .ok (.iaload, 1) := by decide +kernel
theorem dX10_urge_61 : decode cX10_urge 61 = .ok (.iadd, 1) := by decide +kernel
theorem dX10_urge_62 : decode cX10_urge 62 = .ok (.iload_n 2, 1) := by decide +kernel
theorem dX10_urge_63 : decode cX10_urge 63 = .ok (.iastore, 1) := by decide +kernel
theorem dX10_urge_64 : decode cX10_urge 64 = .ok (.aload_n 0, 1) := by decide +kernel
theorem dX10_urge_65 : decode cX10_urge 65 = .ok (.getfield 83, 3) := by decide +kernel
theorem dX10_urge_68 : decode cX10_urge 68 = .ok (.iload_n 1, 1) := by decide +kernel
theorem dX10_urge_69 : decode cX10_urge 69 = .ok (.dup2, 1) := by decide +kernel
theorem dX10_urge_70 : decode cX10_urge 70 = .ok (.iaload, 1) := by decide +kernel
theorem dX10_urge_71 : decode cX10_urge 71 = .ok (.iconst 1, 1) := by decide +kernel
theorem dX10_urge_72 : decode cX10_urge 72 = .ok (.iadd, 1) := by decide +kernel
theorem dX10_urge_73 : decode cX10_urge 73 = .ok (.iastore, 1) := by decide +kernel
theorem dX10_urge_74 : decode cX10_urge 74 = .ok (.aload_n 0, 1) := by decide +kernel
theorem dX10_urge_75 : decode cX10_urge 75 = .ok (.iload_n 1, 1) := by decide +kernel
theorem dX10_urge_76 : decode cX10_urge 76 = .ok (.invokevirtual 256, 3) := by decide +kernel
theorem dX10_urge_79 : decode cX10_urge 79 = .ok (.aload_n 0, 1) := by decide +kernel
theorem dX10_urge_80 : decode cX10_urge 80 = .ok (.getfield 83, 3) := by decide +kernel
theorem dX10_urge_83 : decode cX10_urge 83 = .ok (.iload_n 1, 1) := by decide +kernel
theorem dX10_urge_84 : decode cX10_urge 84 = .ok (.iaload, 1) := by decide +kernel
theorem dX10_urge_85 : decode cX10_urge 85 = .ok (.ireturn, 1) := by decide +kernel
theorem dX10_two_0 : decode cX10_two 0 = .ok (.sipush 256, 3) := by decide +kernel
theorem dX10_two_3 : decode cX10_two 3 = .ok (.aload_n 0, 1) := by decide +kernel
theorem dX10_two_4 : decode cX10_two 4 = .ok (.getfield 177, 3) := by decide +kernel
theorem dX10_two_7 : decode cX10_two 7 = .ok (.iload_n 1, 1) := by decide +kernel
theorem dX10_two_8 : decode cX10_two 8 = .ok (.iaload, 1) := by decide +kernel
theorem dX10_two_9 : decode cX10_two 9 = .ok (.imul, 1) := by decide +kernel
theorem dX10_two_10 : decode cX10_two 10 = .ok (.aload_n 0, 1) := by decide +kernel
theorem dX10_two_11 : decode cX10_two 11 = .ok (.getfield 177, 3) := by decide +kernel
theorem dX10_two_14 : decode cX10_two 14 = .ok (.iload_n 1, 1) := by decide +kernel
theorem dX10_two_15 : decode cX10_two 15 = .ok (.iconst 1, 1) := by decide +kernel
theorem dX10_two_16 : decode cX10_two 16 = .ok (.iadd, 1) := by decide +kernel
theorem dX10_two_17 : decode cX10_two 17 = .ok (.iaload, 1) := by decide +kernel
theorem dX10_two_18 : decode cX10_two 18 = .ok (.iadd, 1) := by decide +kernel
theorem dX10_two_19 : decode cX10_two 19 = .ok (.ireturn, 1) := by decide +kernel
theorem dX10_codeOf_0 : decode cX10_codeOf 0 = .ok (.iload_n 0, 1) := by decide +kernel
theorem dX10_codeOf_1 : decode cX10_codeOf 1 = .ok (.sipush 240, 3) := by decide +kernel
theorem dX10_codeOf_4 : decode cX10_codeOf 4 = .ok (.iand, 1) := by decide +kernel
theorem dX10_codeOf_5 : decode cX10_codeOf 5 = .ok (.istore_n 1, 1) := by decide +kernel
theorem dX10_codeOf_6 : decode cX10_codeOf 6 = .ok (.iload_n 1, 1) := by decide +kernel
theorem dX10_codeOf_7 : decode cX10_codeOf 7 = .ok (.sipush 224, 3) := by decide +kernel
theorem dX10_codeOf_10 : decode cX10_codeOf 10 = .ok (.if_icmp .eq 16, 3) := by decide +kernel
theorem dX10_codeOf_13 : decode cX10_codeOf 13 = .ok (.iload_n 1, 1) := by decide +kernel
theorem dX10_codeOf_14 : decode cX10_codeOf 14 = .ok (.sipush 208, 3) := by decide +kernel
theorem dX10_codeOf_17 : decode cX10_codeOf 17 = .ok (.if_icmp .eq 9, 3) := by decide +kernel
theorem dX10_codeOf_20 : decode cX10_codeOf 20 = .ok (.iload_n 1, 1) := by decide +kernel
theorem dX10_codeOf_21 : decode cX10_codeOf 21 = .ok (.bipush 96, 2) := by decide +kernel
theorem dX10_codeOf_23 : decode cX10_codeOf 23 = .ok (.if_icmp .ne 7, 3) := by decide +kernel
theorem dX10_codeOf_26 : decode cX10_codeOf 26 = .ok (.iconst 1, 1) := by decide +kernel
theorem dX10_codeOf_27 : decode cX10_codeOf 27 = .ok (.goto 4, 3) := by decide +kernel
theorem dX10_codeOf_30 : decode cX10_codeOf 30 = .ok (.iconst 0, 1) := by decide +kernel
theorem dX10_codeOf_31 : decode cX10_codeOf 31 = .ok (.istore_n 2, 1) := by decide +kernel
theorem dX10_codeOf_32 : decode cX10_codeOf 32 = .ok (.iload_n 1, 1) := by decide +kernel
theorem dX10_codeOf_33 : decode cX10_codeOf 33 = .ok (.sipush 240, 3) := by decide +kernel
theorem dX10_codeOf_36 : decode cX10_codeOf 36 = .ok (.if_icmp .eq 29, 3) := by decide +kernel
theorem dX10_codeOf_39 : decode cX10_codeOf 39 = .ok (.iload_n 1, 1) := by decide +kernel
theorem dX10_codeOf_40 : decode cX10_codeOf 40 = .ok (.bipush 16, 2) := by decide +kernel
theorem dX10_codeOf_42 : decode cX10_codeOf 42 = .ok (.if_icmp .eq 23, 3) := by decide +kernel
theorem dX10_codeOf_45 : decode cX10_codeOf 45 = .ok (.iload_n 1, 1) := by decide +kernel
theorem dX10_codeOf_46 : decode cX10_codeOf 46 = .ok (.bipush 32, 2) := by decide +kernel
theorem dX10_codeOf_48 : decode cX10_codeOf 48 = .ok (.if_icmp .eq 17, 3) := by decide +kernel
theorem dX10_codeOf_51 : decode cX10_codeOf 51 = .ok (.iload_n 1, 1) := by decide +kernel
theorem dX10_codeOf_52 : decode cX10_codeOf 52 = .ok (.sipush 128, 3) := by decide +kernel
theorem dX10_codeOf_55 : decode cX10_codeOf 55 = .ok (.if_icmp .eq 10, 3) := by decide +kernel
theorem dX10_codeOf_58 : decode cX10_codeOf 58 = .ok (.iload_n 1, 1) := by decide +kernel
theorem dX10_codeOf_59 : decode cX10_codeOf 59 = .ok (.sipush 192, 3) := by decide +kernel
theorem dX10_codeOf_62 : decode cX10_codeOf 62 = .ok (.if_icmp .ne 7, 3) := by decide +kernel
theorem dX10_codeOf_65 : decode cX10_codeOf 65 = .ok (.iconst 1, 1) := by decide +kernel
theorem dX10_codeOf_66 : decode cX10_codeOf 66 = .ok (.goto 4, 3) := by decide +kernel
theorem dX10_codeOf_69 : decode cX10_codeOf 69 = .ok (.iconst 0, 1) := by decide +kernel
theorem dX10_codeOf_70 : decode cX10_codeOf 70 = .ok (.istore_n 3, 1) := by decide +kernel
theorem dX10_codeOf_71 : decode cX10_codeOf 71 = .ok (.iload_n 2, 1) := by decide +kernel
theorem dX10_codeOf_72 : decode cX10_codeOf 72 = .ok (.ifCond .ne 12, 3) := by decide +kernel
theorem dX10_codeOf_75 : decode cX10_codeOf 75 = .ok (.iload_n 3, 1) := by decide +kernel
theorem dX10_codeOf_76 : decode cX10_codeOf 76 = .ok (.ifCond .eq 12, 3) := by decide +kernel
theorem dX10_codeOf_79 : decode cX10_codeOf 79 = .ok (.iload_n 1, 1) := by decide +kernel
theorem dX10_codeOf_80 : decode cX10_codeOf 80 = .ok (.iload_n 0, 1) := by decide +kernel
theorem dX10_codeOf_81 : decode cX10_codeOf 81 = .ok (.if_icmp .ne 7, 3) := by decide +kernel
theorem dX10_codeOf_84 : decode cX10_codeOf 84 = .ok (.iload_n 1, 1) := by decide +kernel
theorem dX10_codeOf_85 : decode cX10_codeOf 85 = .ok (.goto 4, 3) := by decide +kernel
theorem dX10_codeOf_88 : decode cX10_codeOf 88 = .ok (.iconst 0, 1) := by decide +kernel
theorem dX10_codeOf_89 : decode cX10_codeOf 89 = .ok (.ireturn, 1) := by decide +kernel
theorem dX10_headOf_0 : decode cX10_headOf 0 = .ok (.iload_n 0, 1) := by decide +kernel
theorem dX10_headOf_1 : decode cX10_headOf 1 = .ok (.sipush 224, 3) := by decide +kernel
theorem dX10_headOf_4 : decode cX10_headOf 4 = .ok (.if_icmp .eq 17, 3) := by decide +kernel
theorem dX10_headOf_7 : decode cX10_headOf 7 = .ok (.iload_n 0, 1) := by decide +kernel
theorem dX10_headOf_8 : decode cX10_headOf 8 = .ok (.sipush 208, 3) := by decide +kernel
theorem dX10_headOf_11 : decode cX10_headOf 11 = .ok (.if_icmp .eq 10, 3) := by decide +kernel
theorem dX10_headOf_14 : decode cX10_headOf 14 = .ok (.iload_n 0, 1) := by decide +kernel
theorem dX10_headOf_15 : decode cX10_headOf 15 = .ok (.sipush 128, 3) := by decide +kernel
theorem dX10_headOf_18 : decode cX10_headOf 18 = .ok (.if_icmp .ne 8, 3) := by decide +kernel
theorem dX10_headOf_21 : decode cX10_headOf 21 = .ok (.bipush 10, 2) := by decide +kernel
theorem dX10_headOf_23 : decode cX10_headOf 23 = .ok (.goto 17, 3) := by decide +kernel
theorem dX10_headOf_26 : decode cX10_headOf 26 = .ok (.iload_n 0, 1) := by decide +kernel
theorem dX10_headOf_27 : decode cX10_headOf 27 = .ok (.sipush 192, 3) := by decide +kernel
theorem dX10_headOf_30 : decode cX10_headOf 30 = .ok (.if_icmp .ne 8, 3) := by decide +kernel
theorem dX10_headOf_33 : decode cX10_headOf 33 = .ok (.bipush 9, 2) := by decide +kernel
theorem dX10_headOf_35 : decode cX10_headOf 35 = .ok (.goto 5, 3) := by decide +kernel
theorem dX10_headOf_38 : decode cX10_headOf 38 = .ok (.bipush 8, 2) := by decide +kernel
theorem dX10_headOf_40 : decode cX10_headOf 40 = .ok (.ireturn, 1) := by decide +kernel
theorem dX10_isGood_0 : decode cX10_isGood 0 = .ok (.iconst 0, 1) := by decide +kernel
theorem dX10_isGood_1 : decode cX10_isGood 1 = .ok (.istore_n 1, 1) := by decide +kernel
theorem dX10_isGood_2 : decode cX10_isGood 2 = .ok (.iconst 0, 1) := by decide +kernel
theorem dX10_isGood_3 : decode cX10_isGood 3 = .ok (.istore_n 2, 1) := by decide +kernel
theorem dX10_isGood_4 : decode cX10_isGood 4 = .ok (.iconst 1, 1) := by decide +kernel
theorem dX10_isGood_5 : decode cX10_isGood 5 = .ok (.istore_n 3, 1) := by decide +kernel
theorem dX10_isGood_6 : decode cX10_isGood 6 = .ok (.iload_n 3, 1) := by decide +kernel
theorem dX10_isGood_7 : decode cX10_isGood 7 = .ok (.aload_n 0, 1) := by decide +kernel
theorem dX10_isGood_8 : decode cX10_isGood 8 = .ok (.getfield 259, 3) := by decide +kernel
theorem dX10_isGood_11 : decode cX10_isGood 11 = .ok (.if_icmp .gt 40, 3) := by decide +kernel
theorem dX10_isGood_14 : decode cX10_isGood 14 = .ok (.iload_n 1, 1) := by decide +kernel
theorem dX10_isGood_15 : decode cX10_isGood 15 = .ok (.aload_n 0, 1) := by decide +kernel
theorem dX10_isGood_16 : decode cX10_isGood 16 = .ok (.getfield 177, 3) := by decide +kernel
theorem dX10_isGood_19 : decode cX10_isGood 19 = .ok (.iload_n 3, 1) := by decide +kernel
theorem dX10_isGood_20 : decode cX10_isGood 20 = .ok (.iconst 1, 1) := by decide +kernel
theorem dX10_isGood_21 : decode cX10_isGood 21 = .ok (.isub, 1) := by decide +kernel
theorem dX10_isGood_22 : decode cX10_isGood 22 = .ok (.iaload, 1) := by decide +kernel
