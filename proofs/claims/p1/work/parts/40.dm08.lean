theorem dX10_isDue_57 : decode cX10_isDue 57 = .ok (.ireturn, 1) := by decide +kernel
theorem dX10_resend_0 : decode cX10_resend 0 = .ok (.aload_n 0, 1) := by decide +kernel
theorem dX10_resend_1 : decode cX10_resend 1 = .ok (.iload_n 1, 1) := by decide +kernel
theorem dX10_resend_2 : decode cX10_resend 2 = .ok (.aload_n 0, 1) := by decide +kernel
theorem dX10_resend_3 : decode cX10_resend 3 = .ok (.getfield 35, 3) := by decide +kernel
theorem dX10_resend_6 : decode cX10_resend 6 = .ok (.iload_n 1, 1) := by decide +kernel
theorem dX10_resend_7 : decode cX10_resend 7 = .ok (.iaload, 1) := by decide +kernel
theorem dX10_resend_8 : decode cX10_resend 8 = .ok (.aload_n 0, 1) := by decide +kernel
theorem dX10_resend_9 : decode cX10_resend 9 = .ok (.getfield 38, 3) := by decide +kernel
theorem dX10_resend_12 : decode cX10_resend 12 = .ok (.iload_n 1, 1) := by decide +kernel
theorem dX10_resend_13 : decode cX10_resend 13 = .ok (.iaload, 1) := by decide +kernel
theorem dX10_resend_14 : decode cX10_resend 14 = .ok (.invokevirtual 321, 3) := by decide +kernel
theorem dX10_resend_17 : decode cX10_resend 17 = .ok (.ifCond .eq 71, 3) := by decide +kernel
theorem dX10_resend_20 : decode cX10_resend 20 = .ok (.aload_n 0, 1) := by decide +kernel
theorem dX10_resend_21 : decode cX10_resend 21 = .ok (.aload_n 0, 1) := by decide +kernel
theorem dX10_resend_22 : decode cX10_resend 22 = .ok (.getfield 47, 3) := by decide +kernel
theorem dX10_resend_25 : decode cX10_resend 25 = .ok (.iload_n 1, 1) := by decide +kernel
theorem dX10_resend_26 : decode cX10_resend 26 = .ok (.iaload, 1) := by decide +kernel
theorem dX10_resend_27 : decode cX10_resend 27 = .ok (.putfield 183, 3) := by decide +kernel
theorem dX10_resend_30 : decode cX10_resend 30 = .ok (.iconst 0, 1) := by decide +kernel
theorem dX10_resend_31 : decode cX10_resend 31 = .ok (.istore_n 2, 1) := by decide +kernel
theorem dX10_resend_32 : decode cX10_resend 32 = .ok (.iload_n 2, 1) := by decide +kernel
theorem dX10_resend_33 : decode cX10_resend 33 = .ok (.aload_n 0, 1) := by decide +kernel
theorem dX10_resend_34 : decode cX10_resend 34 = .ok (.getfield 183, 3) := by decide +kernel
theorem dX10_resend_37 : decode cX10_resend 37 = .ok (.if_icmp .ge 26, 3) := by decide +kernel
theorem dX10_resend_40 : decode cX10_resend 40 = .ok (.aload_n 0, 1) := by decide +kernel
theorem dX10_resend_41 : decode cX10_resend 41 = .ok (.getfield 180, 3) := by decide +kernel
theorem dX10_resend_44 : decode cX10_resend 44 = .ok (.iload_n 2, 1) := by decide +kernel
theorem dX10_resend_45 : decode cX10_resend 45 = .ok (.aload_n 0, 1) := by decide +kernel
theorem dX10_resend_46 : decode cX10_resend 46 = .ok (.getfield 44, 3) := by decide +kernel
theorem dX10_resend_49 : decode cX10_resend 49 = .ok (.bipush 20, 2) := by decide +kernel
theorem dX10_resend_51 : decode cX10_resend 51 = .ok (.iload_n 1, 1) := by decide +kernel
theorem dX10_resend_52 : decode cX10_resend 52 = .ok (.imul, 1) := by decide +kernel
theorem dX10_resend_53 : decode cX10_resend 53 = .ok (.iload_n 2, 1) := by decide +kernel
theorem dX10_resend_54 : decode cX10_resend 54 = .ok (.iadd, 1) := by decide +kernel
theorem dX10_resend_55 : decode cX10_resend 55 = .ok (.iaload, 1) := by decide +kernel
theorem dX10_resend_56 : decode cX10_resend 56 = .ok (.iastore, 1) := by decide +kernel
theorem dX10_resend_57 : decode cX10_resend 57 = .ok (.iinc 2 1, 3) := by decide +kernel
theorem dX10_resend_60 : decode cX10_resend 60 = .ok (.goto (-28), 3) := by decide +kernel
theorem dX10_resend_63 : decode cX10_resend 63 = .ok (.aload_n 0, 1) := by decide +kernel
theorem dX10_resend_64 : decode cX10_resend 64 = .ok (.iload_n 1, 1) := by decide +kernel
theorem dX10_resend_65 : decode cX10_resend 65 = .ok (.invokevirtual 211, 3) := by decide +kernel
theorem dX10_resend_68 : decode cX10_resend 68 = .ok (.aload_n 0, 1) := by decide +kernel
theorem dX10_resend_69 : decode cX10_resend 69 = .ok (.getfield 35, 3) := by decide +kernel
theorem dX10_resend_72 : decode cX10_resend 72 = .ok (.iload_n 1, 1) := by decide +kernel
theorem dX10_resend_73 : decode cX10_resend 73 = .ok (.dup2, 1) := by decide +kernel
theorem dX10_resend_74 : decode cX10_resend 74 = .ok (.iaload, 1) := by decide +kernel
theorem dX10_resend_75 : decode cX10_resend 75 = .ok (.iconst 1, 1) := by decide +kernel
theorem dX10_resend_76 : decode cX10_resend 76 = .ok (.iadd, 1) := by decide +kernel
theorem dX10_resend_77 : decode cX10_resend 77 = .ok (.iastore, 1) := by decide +kernel
theorem dX10_resend_78 : decode cX10_resend 78 = .ok (.aload_n 0, 1) := by decide +kernel
theorem dX10_resend_79 : decode cX10_resend 79 = .ok (.getfield 38, 3) := by decide +kernel
theorem dX10_resend_82 : decode cX10_resend 82 = .ok (.iload_n 1, 1) := by decide +kernel
theorem dX10_resend_83 : decode cX10_resend 83 = .ok (.aload_n 0, 1) := by decide +kernel
theorem dX10_resend_84 : decode cX10_resend 84 = .ok (.getfield 198, 3) := by decide +kernel
theorem dX10_resend_87 : decode cX10_resend 87 = .ok (.iastore, 1) := by decide +kernel
theorem dX10_resend_88 : decode cX10_resend 88 = .ok (.iconst 0, 1) := by decide +kernel
theorem dX10_resend_89 : decode cX10_resend 89 = .ok (.istore_n 2, 1) := by decide +kernel
theorem dX10_resend_90 : decode cX10_resend 90 = .ok (.iload_n 2, 1) := by decide +kernel
theorem dX10_resend_91 : decode cX10_resend 91 = .ok (.aload_n 0, 1) := by decide +kernel
theorem dX10_resend_92 : decode cX10_resend 92 = .ok (.getfield 53, 3) := by decide +kernel
theorem dX10_resend_95 : decode cX10_resend 95 = .ok (.iload_n 1, 1) := by decide +kernel
theorem dX10_resend_96 : decode cX10_resend 96 = .ok (.iaload, 1) := by decide +kernel
theorem dX10_resend_97 : decode cX10_resend 97 = .ok (.if_icmp .ge 55, 3) := by decide +kernel
theorem dX10_resend_100 : decode cX10_resend 100 = .ok (.aload_n 0, 1) := by decide +kernel
theorem dX10_resend_101 : decode cX10_resend 101 = .ok (.getfield 7, 3) := by decide +kernel
theorem dX10_resend_104 : decode cX10_resend 104 = .ok (.iload_n 1, 1) := by decide +kernel
theorem dX10_resend_105 : decode cX10_resend 105 = .ok (.iaload, 1) := by decide +kernel
theorem dX10_resend_106 : decode cX10_resend 106 = .ok (.iconst 2, 1) := by decide +kernel
theorem dX10_resend_107 : decode cX10_resend 107 = .ok (.if_icmp .ne 45, 3) := by decide +kernel
theorem dX10_resend_110 : decode cX10_resend 110 = .ok (.aload_n 0, 1) := by decide +kernel
theorem dX10_resend_111 : decode cX10_resend 111 = .ok (.iload_n 1, 1) := by decide +kernel
theorem dX10_resend_112 : decode cX10_resend 112 = .ok (.aload_n 0, 1) := by decide +kernel
theorem dX10_resend_113 : decode cX10_resend 113 = .ok (.getfield 65, 3) := by decide +kernel
theorem dX10_resend_116 : decode cX10_resend 116 = .ok (.bipush 40, 2) := by decide +kernel
theorem dX10_resend_118 : decode cX10_resend 118 = .ok (.iload_n 1, 1) := by decide +kernel
theorem dX10_resend_119 : decode cX10_resend 119 = .ok (.imul, 1) := by decide +kernel
theorem dX10_resend_120 : decode cX10_resend 120 = .ok (.iload_n 2, 1) := by decide +kernel
theorem dX10_resend_121 : decode cX10_resend 121 = .ok (.iadd, 1) := by decide +kernel
theorem dX10_resend_122 : decode cX10_resend 122 = .ok (.iaload, 1) := by decide +kernel
theorem dX10_resend_123 : decode cX10_resend 123 = .ok (.aload_n 0, 1) := by decide +kernel
theorem dX10_resend_124 : decode cX10_resend 124 = .ok (.getfield 68, 3) := by decide +kernel
theorem dX10_resend_127 : decode cX10_resend 127 = .ok (.bipush 40, 2) := by decide +kernel
theorem dX10_resend_129 : decode cX10_resend 129 = .ok (.iload_n 1, 1) := by decide +kernel
theorem dX10_resend_130 : decode cX10_resend 130 = .ok (.imul, 1) := by decide +kernel
theorem dX10_resend_131 : decode cX10_resend 131 = .ok (.iload_n 2, 1) := by decide +kernel
theorem dX10_resend_132 : decode cX10_resend 132 = .ok (.iadd, 1) := by decide +kernel
theorem dX10_resend_133 : decode cX10_resend 133 = .ok (.iaload, 1) := by decide +kernel
theorem dX10_resend_134 : decode cX10_resend 134 = .ok (.invokevirtual 321, 3) := by decide +kernel
theorem dX10_resend_137 : decode cX10_resend 137 = .ok (.ifCond .eq 9, 3) := by decide +kernel
theorem dX10_resend_140 : decode cX10_resend 140 = .ok (.aload_n 0, 1) := by decide +kernel
theorem dX10_resend_141 : decode cX10_resend 141 = .ok (.iload_n 1, 1) := by decide +kernel
theorem dX10_resend_142 : decode cX10_resend 142 = .ok (.iload_n 2, 1) := by decide +kernel
theorem dX10_resend_143 : decode cX10_resend 143 = .ok (.invokevirtual 224, 3) := by decide +kernel
theorem dX10_resend_146 : decode cX10_resend 146 = .ok (.iinc 2 1, 3) := by decide +kernel
theorem dX10_resend_149 : decode cX10_resend 149 = .ok (.goto (-59), 3) := by decide +kernel
theorem dX10_resend_152 : decode cX10_resend 152 = .ok (.aload_n 0, 1) := by decide +kernel
theorem dX10_resend_153 : decode cX10_resend 153 = .ok (.getfield 7, 3) := by decide +kernel
theorem dX10_resend_156 : decode cX10_resend 156 = .ok (.iload_n 1, 1) := by decide +kernel
theorem dX10_resend_157 : decode cX10_resend 157 = .ok (.iaload, 1) := by decide +kernel
theorem dX10_resend_158 : decode cX10_resend 158 = .ok (.iconst 2, 1) := by decide +kernel
theorem dX10_resend_159 : decode cX10_resend 159 = .ok (.if_icmp .ne 37, 3) := by decide +kernel
theorem dX10_resend_162 : decode cX10_resend 162 = .ok (.aload_n 0, 1) := by decide +kernel
theorem dX10_resend_163 : decode cX10_resend 163 = .ok (.getfield 83, 3) := by decide +kernel
theorem dX10_resend_166 : decode cX10_resend 166 = .ok (.iload_n 1, 1) := by decide +kernel
theorem dX10_resend_167 : decode cX10_resend 167 = .ok (.iaload, 1) := by decide +kernel
theorem dX10_resend_168 : decode cX10_resend 168 = .ok (.ifCond .le 28, 3) := by decide +kernel
theorem dX10_resend_171 : decode cX10_resend 171 = .ok (.aload_n 0, 1) := by decide +kernel
theorem dX10_resend_172 : decode cX10_resend 172 = .ok (.iload_n 1, 1) := by decide +kernel
theorem dX10_resend_173 : decode cX10_resend 173 = .ok (.aload_n 0, 1) := by decide +kernel
theorem dX10_resend_174 : decode cX10_resend 174 = .ok (.getfield 92, 3) := by decide +kernel
theorem dX10_resend_177 : decode cX10_resend 177 = .ok (.iload_n 1, 1) := by decide +kernel
theorem dX10_resend_178 : decode cX10_resend 178 = .ok (.iaload, 1) := by decide +kernel
theorem dX10_resend_179 : decode cX10_resend 179 = .ok (.aload_n 0, 1) := by decide +kernel
theorem dX10_resend_180 : decode cX10_resend 180 = .ok (.getfield 95, 3) := by decide +kernel
theorem dX10_resend_183 : decode cX10_resend 183 = .ok (.iload_n 1, 1) := by decide +kernel
theorem dX10_resend_184 : decode cX10_resend 184 = .ok (.iaload, 1) := by decide +kernel
theorem dX10_resend_185 : decode cX10_resend 185 = .ok (.invokevirtual 321, 3) := by decide +kernel
theorem dX10_resend_188 : decode cX10_resend 188 = .ok (.ifCond .eq 8, 3) := by decide +kernel
theorem dX10_resend_191 : decode cX10_resend 191 = .ok (.aload_n 0, 1) := by decide +kernel
theorem dX10_resend_192 : decode cX10_resend 192 = .ok (.iload_n 1, 1) := by decide +kernel
theorem dX10_resend_193 : decode cX10_resend 193 = .ok (.invokevirtual 227, 3) := by decide +kernel
theorem dX10_resend_196 : decode cX10_resend 196 = .ok (.return_, 1) := by decide +kernel
theorem dX10_step_0 : decode cX10_step 0 = .ok (.aload_n 0, 1) := by decide +kernel
theorem dX10_step_1 : decode cX10_step 1 = .ok (.iload_n 1, 1) := by decide +kernel
theorem dX10_step_2 : decode cX10_step 2 = .ok (.invokevirtual 325, 3) := by decide +kernel
theorem dX10_step_5 : decode cX10_step 5 = .ok (.aload_n 0, 1) := by decide +kernel
theorem dX10_step_6 : decode cX10_step 6 = .ok (.getfield 7, 3) := by decide +kernel
theorem dX10_step_9 : decode cX10_step 9 = .ok (.iload_n 1, 1) := by decide +kernel
theorem dX10_step_10 : decode cX10_step 10 = .ok (.iaload, 1) := by decide +kernel
theorem dX10_step_11 : decode cX10_step 11 = .ok (.iconst 2, 1) := by decide +kernel
theorem dX10_step_12 : decode cX10_step 12 = .ok (.if_icmp .ne 24, 3) := by decide +kernel
theorem dX10_step_15 : decode cX10_step 15 = .ok (.aload_n 0, 1) := by decide +kernel
theorem dX10_step_16 : decode cX10_step 16 = .ok (.getfield 198, 3) := by decide +kernel
theorem dX10_step_19 : decode cX10_step 19 = .ok (.aload_n 0, 1) := by decide +kernel
theorem dX10_step_20 : decode cX10_step 20 = .ok (.getfield 32, 3) := by decide +kernel
theorem dX10_step_23 : decode cX10_step 23 = .ok (.iload_n 1, 1) := by decide +kernel
theorem dX10_step_24 : decode cX10_step 24 = .ok (.iaload, 1) := by decide +kernel
theorem dX10_step_25 : decode cX10_step 25 = .ok (.isub, 1) := by decide +kernel
theorem dX10_step_26 : decode cX10_step 26 = .ok (.bipush 50, 2) := by decide +kernel
theorem dX10_step_28 : decode cX10_step 28 = .ok (.if_icmp .lt 8, 3) := by decide +kernel
theorem dX10_step_31 : decode cX10_step 31 = .ok (.aload_n 0, 1) := by decide +kernel
theorem dX10_step_32 : decode cX10_step 32 = .ok (.iload_n 1, 1) := by decide +kernel
theorem dX10_step_33 : decode cX10_step 33 = .ok (.invokevirtual 318, 3) := by decide +kernel
theorem dX10_step_36 : decode cX10_step 36 = .ok (.aload_n 0, 1) := by decide +kernel
theorem dX10_step_37 : decode cX10_step 37 = .ok (.getfield 7, 3) := by decide +kernel
theorem dX10_step_40 : decode cX10_step 40 = .ok (.iload_n 1, 1) := by decide +kernel
theorem dX10_step_41 : decode cX10_step 41 = .ok (.iaload, 1) := by decide +kernel
theorem dX10_step_42 : decode cX10_step 42 = .ok (.iconst 2, 1) := by decide +kernel
theorem dX10_step_43 : decode cX10_step 43 = .ok (.if_icmp .ne 24, 3) := by decide +kernel
theorem dX10_step_46 : decode cX10_step 46 = .ok (.aload_n 0, 1) := by decide +kernel
theorem dX10_step_47 : decode cX10_step 47 = .ok (.getfield 198, 3) := by decide +kernel
theorem dX10_step_50 : decode cX10_step 50 = .ok (.aload_n 0, 1) := by decide +kernel
theorem dX10_step_51 : decode cX10_step 51 = .ok (.getfield 29, 3) := by decide +kernel
theorem dX10_step_54 : decode cX10_step 54 = .ok (.iload_n 1, 1) := by decide +kernel
theorem dX10_step_55 : decode cX10_step 55 = .ok (.iaload, 1) := by decide +kernel
theorem dX10_step_56 : decode cX10_step 56 = .ok (.isub, 1) := by decide +kernel
theorem dX10_step_57 : decode cX10_step 57 = .ok (.bipush 20, 2) := by decide +kernel
theorem dX10_step_59 : decode cX10_step 59 = .ok (.if_icmp .lt 8, 3) := by decide +kernel
theorem dX10_step_62 : decode cX10_step 62 = .ok (.aload_n 0, 1) := by decide +kernel
theorem dX10_step_63 : decode cX10_step 63 = .ok (.iload_n 1, 1) := by decide +kernel
theorem dX10_step_64 : decode cX10_step 64 = .ok (.invokevirtual 271, 3) := by decide +kernel
