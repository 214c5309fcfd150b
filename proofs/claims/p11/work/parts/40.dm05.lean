theorem dX10_fresh_112 : decode cX10_fresh 112 = .ok (.if_icmp .ge 22, 3) := by decide +kernel
theorem dX10_fresh_115 : decode cX10_fresh 115 = .ok (.aload_n 0, 1) := by decide +kernel
theorem dX10_fresh_116 : decode cX10_fresh 116 = .ok (.getfield 104, 3) := by decide +kernel
theorem dX10_fresh_119 : decode cX10_fresh 119 = .ok (.sipush 128, 3) := by decide +kernel
theorem dX10_fresh_122 : decode cX10_fresh 122 = .ok (.iload_n 1, 1) := by decide +kernel
theorem dX10_fresh_123 : decode cX10_fresh 123 = .ok (.imul, 1) := by decide +kernel
theorem dX10_fresh_124 : decode cX10_fresh 124 = .ok (.iload_n 2, 1) := by decide +kernel
theorem dX10_fresh_125 : decode cX10_fresh 125 = .ok (.iadd, 1) := by decide +kernel
theorem dX10_fresh_126 : decode cX10_fresh 126 = .ok (.iconst (-1), 1) := by decide +kernel
theorem dX10_fresh_127 : decode cX10_fresh 127 = .ok (.iastore, 1) := by decide +kernel
theorem dX10_fresh_128 : decode cX10_fresh 128 = .ok (.iinc 2 1, 3) := by decide +kernel
theorem dX10_fresh_131 : decode cX10_fresh 131 = .ok (.goto (-23), 3) := by decide +kernel
theorem dX10_fresh_134 : decode cX10_fresh 134 = .ok (.aload_n 0, 1) := by decide +kernel
theorem dX10_fresh_135 : decode cX10_fresh 135 = .ok (.getfield 113, 3) := by decide +kernel
theorem dX10_fresh_138 : decode cX10_fresh 138 = .ok (.iload_n 1, 1) := by decide +kernel
theorem dX10_fresh_139 : decode cX10_fresh 139 = .ok (.iconst 0, 1) := by decide +kernel
theorem dX10_fresh_140 : decode cX10_fresh 140 = .ok (.iastore, 1) := by decide +kernel
theorem dX10_fresh_141 : decode cX10_fresh 141 = .ok (.aload_n 0, 1) := by decide +kernel
theorem dX10_fresh_142 : decode cX10_fresh 142 = .ok (.getfield 116, 3) := by decide +kernel
theorem dX10_fresh_145 : decode cX10_fresh 145 = .ok (.iload_n 1, 1) := by decide +kernel
theorem dX10_fresh_146 : decode cX10_fresh 146 = .ok (.iconst 0, 1) := by decide +kernel
theorem dX10_fresh_147 : decode cX10_fresh 147 = .ok (.iastore, 1) := by decide +kernel
theorem dX10_fresh_148 : decode cX10_fresh 148 = .ok (.aload_n 0, 1) := by decide +kernel
theorem dX10_fresh_149 : decode cX10_fresh 149 = .ok (.getfield 122, 3) := by decide +kernel
theorem dX10_fresh_152 : decode cX10_fresh 152 = .ok (.iload_n 1, 1) := by decide +kernel
theorem dX10_fresh_153 : decode cX10_fresh 153 = .ok (.iconst 0, 1) := by decide +kernel
theorem dX10_fresh_154 : decode cX10_fresh 154 = .ok (.iastore, 1) := by decide +kernel
theorem dX10_fresh_155 : decode cX10_fresh 155 = .ok (.aload_n 0, 1) := by decide +kernel
theorem dX10_fresh_156 : decode cX10_fresh 156 = .ok (.getfield 134, 3) := by decide +kernel
theorem dX10_fresh_159 : decode cX10_fresh 159 = .ok (.iload_n 1, 1) := by decide +kernel
theorem dX10_fresh_160 : decode cX10_fresh 160 = .ok (.iconst 0, 1) := by decide +kernel
theorem dX10_fresh_161 : decode cX10_fresh 161 = .ok (.iastore, 1) := by decide +kernel
theorem dX10_fresh_162 : decode cX10_fresh 162 = .ok (.aload_n 0, 1) := by decide +kernel
theorem dX10_fresh_163 : decode cX10_fresh 163 = .ok (.getfield 143, 3) := by decide +kernel
theorem dX10_fresh_166 : decode cX10_fresh 166 = .ok (.iload_n 1, 1) := by decide +kernel
theorem dX10_fresh_167 : decode cX10_fresh 167 = .ok (.iconst 0, 1) := by decide +kernel
theorem dX10_fresh_168 : decode cX10_fresh 168 = .ok (.iastore, 1) := by decide +kernel
theorem dX10_fresh_169 : decode cX10_fresh 169 = .ok (.aload_n 0, 1) := by decide +kernel
theorem dX10_fresh_170 : decode cX10_fresh 170 = .ok (.getfield 16, 3) := by decide +kernel
theorem dX10_fresh_173 : decode cX10_fresh 173 = .ok (.iload_n 1, 1) := by decide +kernel
theorem dX10_fresh_174 : decode cX10_fresh 174 = .ok (.iconst 0, 1) := by decide +kernel
theorem dX10_fresh_175 : decode cX10_fresh 175 = .ok (.iastore, 1) := by decide +kernel
theorem dX10_fresh_176 : decode cX10_fresh 176 = .ok (.aload_n 0, 1) := by decide +kernel
theorem dX10_fresh_177 : decode cX10_fresh 177 = .ok (.getfield 32, 3) := by decide +kernel
theorem dX10_fresh_180 : decode cX10_fresh 180 = .ok (.iload_n 1, 1) := by decide +kernel
theorem dX10_fresh_181 : decode cX10_fresh 181 = .ok (.aload_n 0, 1) := by decide +kernel
theorem dX10_fresh_182 : decode cX10_fresh 182 = .ok (.getfield 198, 3) := by decide +kernel
theorem dX10_fresh_185 : decode cX10_fresh 185 = .ok (.iastore, 1) := by decide +kernel
theorem dX10_fresh_186 : decode cX10_fresh 186 = .ok (.return_, 1) := by decide +kernel
theorem dX10_call_0 : decode cX10_call 0 = .ok (.iload_n 1, 1) := by decide +kernel
theorem dX10_call_1 : decode cX10_call 1 = .ok (.invokestatic 231, 3) := by decide +kernel
theorem dX10_call_4 : decode cX10_call 4 = .ok (.ifCond .ne 5, 3) := by decide +kernel
theorem dX10_call_7 : decode cX10_call 7 = .ok (.iconst (-1), 1) := by decide +kernel
theorem dX10_call_8 : decode cX10_call 8 = .ok (.ireturn, 1) := by decide +kernel
theorem dX10_call_9 : decode cX10_call 9 = .ok (.aload_n 0, 1) := by decide +kernel
theorem dX10_call_10 : decode cX10_call 10 = .ok (.getfield 7, 3) := by decide +kernel
theorem dX10_call_13 : decode cX10_call 13 = .ok (.iload_n 1, 1) := by decide +kernel
theorem dX10_call_14 : decode cX10_call 14 = .ok (.iaload, 1) := by decide +kernel
theorem dX10_call_15 : decode cX10_call 15 = .ok (.ifCond .eq 6, 3) := by decide +kernel
theorem dX10_call_18 : decode cX10_call 18 = .ok (.bipush (-2), 2) := by decide +kernel
theorem dX10_call_20 : decode cX10_call 20 = .ok (.ireturn, 1) := by decide +kernel
theorem dX10_call_21 : decode cX10_call 21 = .ok (.aload_n 0, 1) := by decide +kernel
theorem dX10_call_22 : decode cX10_call 22 = .ok (.iload_n 1, 1) := by decide +kernel
theorem dX10_call_23 : decode cX10_call 23 = .ok (.invokevirtual 235, 3) := by decide +kernel
theorem dX10_call_26 : decode cX10_call 26 = .ok (.aload_n 0, 1) := by decide +kernel
theorem dX10_call_27 : decode cX10_call 27 = .ok (.getfield 7, 3) := by decide +kernel
theorem dX10_call_30 : decode cX10_call 30 = .ok (.iload_n 1, 1) := by decide +kernel
theorem dX10_call_31 : decode cX10_call 31 = .ok (.iconst 1, 1) := by decide +kernel
theorem dX10_call_32 : decode cX10_call 32 = .ok (.iastore, 1) := by decide +kernel
theorem dX10_call_33 : decode cX10_call 33 = .ok (.aload_n 0, 1) := by decide +kernel
theorem dX10_call_34 : decode cX10_call 34 = .ok (.getfield 19, 3) := by decide +kernel
theorem dX10_call_37 : decode cX10_call 37 = .ok (.iload_n 1, 1) := by decide +kernel
theorem dX10_call_38 : decode cX10_call 38 = .ok (.iconst 0, 1) := by decide +kernel
theorem dX10_call_39 : decode cX10_call 39 = .ok (.bastore, 1) := by decide +kernel
theorem dX10_call_40 : decode cX10_call 40 = .ok (.aload_n 0, 1) := by decide +kernel
theorem dX10_call_41 : decode cX10_call 41 = .ok (.iload_n 1, 1) := by decide +kernel
theorem dX10_call_42 : decode cX10_call 42 = .ok (.sipush 230, 3) := by decide +kernel
theorem dX10_call_45 : decode cX10_call 45 = .ok (.iconst 0, 1) := by decide +kernel
theorem dX10_call_46 : decode cX10_call 46 = .ok (.aload_n 0, 1) := by decide +kernel
theorem dX10_call_47 : decode cX10_call 47 = .ok (.getfield 13, 3) := by decide +kernel
theorem dX10_call_50 : decode cX10_call 50 = .ok (.iload_n 1, 1) := by decide +kernel
theorem dX10_call_51 : decode cX10_call 51 = .ok (.iaload, 1) := by decide +kernel
theorem dX10_call_52 : decode cX10_call 52 = .ok (.bipush 64, 2) := by decide +kernel
theorem dX10_call_54 : decode cX10_call 54 = .ok (.invokevirtual 238, 3) := by decide +kernel
theorem dX10_call_57 : decode cX10_call 57 = .ok (.aload_n 0, 1) := by decide +kernel
theorem dX10_call_58 : decode cX10_call 58 = .ok (.iload_n 1, 1) := by decide +kernel
theorem dX10_call_59 : decode cX10_call 59 = .ok (.invokevirtual 242, 3) := by decide +kernel
theorem dX10_call_62 : decode cX10_call 62 = .ok (.aload_n 0, 1) := by decide +kernel
theorem dX10_call_63 : decode cX10_call 63 = .ok (.getfield 13, 3) := by decide +kernel
theorem dX10_call_66 : decode cX10_call 66 = .ok (.iload_n 1, 1) := by decide +kernel
theorem dX10_call_67 : decode cX10_call 67 = .ok (.iaload, 1) := by decide +kernel
theorem dX10_call_68 : decode cX10_call 68 = .ok (.ireturn, 1) := by decide +kernel
theorem dX10_setReason_0 : decode cX10_setReason 0 = .ok (.aload_n 0, 1) := by decide +kernel
theorem dX10_setReason_1 : decode cX10_setReason 1 = .ok (.getfield 23, 3) := by decide +kernel
theorem dX10_setReason_4 : decode cX10_setReason 4 = .ok (.iload_n 1, 1) := by decide +kernel
theorem dX10_setReason_5 : decode cX10_setReason 5 = .ok (.aload_n 0, 1) := by decide +kernel
theorem dX10_setReason_6 : decode cX10_setReason 6 = .ok (.getfield 23, 3) := by decide +kernel
theorem dX10_setReason_9 : decode cX10_setReason 9 = .ok (.iload_n 1, 1) := by decide +kernel
theorem dX10_setReason_10 : decode cX10_setReason 10 = .ok (.iaload, 1) := by decide +kernel
theorem dX10_setReason_11 : decode cX10_setReason 11 = .ok (.ifCond .ge 7, 3) := by decide +kernel
theorem dX10_setReason_14 : decode cX10_setReason 14 = .ok (.iload_n 2, 1) := by decide +kernel
theorem dX10_setReason_15 : decode cX10_setReason 15 = .ok (.goto 9, 3) := by decide +kernel
theorem dX10_setReason_18 : decode cX10_setReason 18 = .ok (.aload_n 0, 1) := by decide +kernel
theorem dX10_setReason_19 : decode cX10_setReason 19 = .ok (.getfield 23, 3) := by decide +kernel
theorem dX10_setReason_22 : decode cX10_setReason 22 = .ok (.iload_n 1, 1) := by decide +kernel
theorem dX10_setReason_23 : decode cX10_setReason 23 = .ok (.iaload, 1) := by decide +kernel
theorem dX10_setReason_24 : decode cX10_setReason 24 = .ok (.iastore, 1) := by decide +kernel
theorem dX10_setReason_25 : decode cX10_setReason 25 = .ok (.return_, 1) := by decide +kernel
theorem dX10_freeze_0 : decode cX10_freeze 0 = .ok (.aload_n 0, 1) := by decide +kernel
theorem dX10_freeze_1 : decode cX10_freeze 1 = .ok (.getfield 7, 3) := by decide +kernel
theorem dX10_freeze_4 : decode cX10_freeze 4 = .ok (.iload_n 1, 1) := by decide +kernel
theorem dX10_freeze_5 : decode cX10_freeze 5 = .ok (.iconst 4, 1) := by decide +kernel
theorem dX10_freeze_6 : decode cX10_freeze 6 = .ok (.iastore, 1) := by decide +kernel
theorem dX10_freeze_7 : decode cX10_freeze 7 = .ok (.aload_n 0, 1) := by decide +kernel
theorem dX10_freeze_8 : decode cX10_freeze 8 = .ok (.getfield 26, 3) := by decide +kernel
theorem dX10_freeze_11 : decode cX10_freeze 11 = .ok (.iload_n 1, 1) := by decide +kernel
theorem dX10_freeze_12 : decode cX10_freeze 12 = .ok (.aload_n 0, 1) := by decide +kernel
theorem dX10_freeze_13 : decode cX10_freeze 13 = .ok (.getfield 198, 3) := by decide +kernel
theorem dX10_freeze_16 : decode cX10_freeze 16 = .ok (.iastore, 1) := by decide +kernel
theorem dX10_freeze_17 : decode cX10_freeze 17 = .ok (.aload_n 0, 1) := by decide +kernel
theorem dX10_freeze_18 : decode cX10_freeze 18 = .ok (.getfield 35, 3) := by decide +kernel
theorem dX10_freeze_21 : decode cX10_freeze 21 = .ok (.iload_n 1, 1) := by decide +kernel
theorem dX10_freeze_22 : decode cX10_freeze 22 = .ok (.iconst 0, 1) := by decide +kernel
theorem dX10_freeze_23 : decode cX10_freeze 23 = .ok (.iastore, 1) := by decide +kernel
theorem dX10_freeze_24 : decode cX10_freeze 24 = .ok (.return_, 1) := by decide +kernel
theorem dX10_giveUp_0 : decode cX10_giveUp 0 = .ok (.aload_n 0, 1) := by decide +kernel
theorem dX10_giveUp_1 : decode cX10_giveUp 1 = .ok (.iload_n 1, 1) := by decide +kernel
theorem dX10_giveUp_2 : decode cX10_giveUp 2 = .ok (.sipush 128, 3) := by decide +kernel
theorem dX10_giveUp_5 : decode cX10_giveUp 5 = .ok (.aload_n 0, 1) := by decide +kernel
theorem dX10_giveUp_6 : decode cX10_giveUp 6 = .ok (.getfield 16, 3) := by decide +kernel
theorem dX10_giveUp_9 : decode cX10_giveUp 9 = .ok (.iload_n 1, 1) := by decide +kernel
theorem dX10_giveUp_10 : decode cX10_giveUp 10 = .ok (.iaload, 1) := by decide +kernel
theorem dX10_giveUp_11 : decode cX10_giveUp 11 = .ok (.aload_n 0, 1) := by decide +kernel
theorem dX10_giveUp_12 : decode cX10_giveUp 12 = .ok (.getfield 13, 3) := by decide +kernel
theorem dX10_giveUp_15 : decode cX10_giveUp 15 = .ok (.iload_n 1, 1) := by decide +kernel
theorem dX10_giveUp_16 : decode cX10_giveUp 16 = .ok (.iaload, 1) := by decide +kernel
theorem dX10_giveUp_17 : decode cX10_giveUp 17 = .ok (.iconst 1, 1) := by decide +kernel
theorem dX10_giveUp_18 : decode cX10_giveUp 18 = .ok (.invokevirtual 238, 3) := by decide +kernel
theorem dX10_giveUp_21 : decode cX10_giveUp 21 = .ok (.aload_n 0, 1) := by decide +kernel
theorem dX10_giveUp_22 : decode cX10_giveUp 22 = .ok (.iload_n 1, 1) := by decide +kernel
theorem dX10_giveUp_23 : decode cX10_giveUp 23 = .ok (.iconst 1, 1) := by decide +kernel
theorem dX10_giveUp_24 : decode cX10_giveUp 24 = .ok (.invokevirtual 245, 3) := by decide +kernel
theorem dX10_giveUp_27 : decode cX10_giveUp 27 = .ok (.aload_n 0, 1) := by decide +kernel
theorem dX10_giveUp_28 : decode cX10_giveUp 28 = .ok (.iload_n 1, 1) := by decide +kernel
theorem dX10_giveUp_29 : decode cX10_giveUp 29 = .ok (.invokevirtual 248, 3) := by decide +kernel
theorem dX10_giveUp_32 : decode cX10_giveUp 32 = .ok (.return_, 1) := by decide +kernel
theorem dX10_end_0 : decode cX10_end 0 = .ok (.iload_n 1, 1) := by decide +kernel
theorem dX10_end_1 : decode cX10_end 1 = .ok (.invokestatic 231, 3) := by decide +kernel
theorem dX10_end_4 : decode cX10_end 4 = .ok (.ifCond .ne 5, 3) := by decide +kernel
theorem dX10_end_7 : decode cX10_end 7 = .ok (.iconst (-1), 1) := by decide +kernel
theorem dX10_end_8 : decode cX10_end 8 = .ok (.ireturn, 1) := by decide +kernel
theorem dX10_end_9 : decode cX10_end 9 = .ok (.aload_n 0, 1) := by decide +kernel
theorem dX10_end_10 : decode cX10_end 10 = .ok (.getfield 7, 3) := by decide +kernel
theorem dX10_end_13 : decode cX10_end 13 = .ok (.iload_n 1, 1) := by decide +kernel
theorem dX10_end_14 : decode cX10_end 14 = .ok (.iaload, 1) := by decide +kernel
theorem dX10_end_15 : decode cX10_end 15 = .ok (.iconst 2, 1) := by decide +kernel
theorem dX10_end_16 : decode cX10_end 16 = .ok (.if_icmp .eq 16, 3) := by decide +kernel
theorem dX10_end_19 : decode cX10_end 19 = .ok (.aload_n 0, 1) := by decide +kernel
theorem dX10_end_20 : decode cX10_end 20 = .ok (.getfield 7, 3) := by decide +kernel
theorem dX10_end_23 : decode cX10_end 23 = .ok (.iload_n 1, 1) := by decide +kernel
theorem dX10_end_24 : decode cX10_end 24 = .ok (.iaload, 1) := by decide +kernel
theorem dX10_end_25 : decode cX10_end 25 = .ok (.iconst 1, 1) := by decide +kernel
theorem dX10_end_26 : decode cX10_end 26 = .ok (.if_icmp .eq 6, 3) := by decide +kernel
theorem dX10_end_29 : decode cX10_end 29 = .ok (.bipush (-2), 2) := by decide +kernel
theorem dX10_end_31 : decode cX10_end 31 = .ok (.ireturn, 1) := by decide +kernel
theorem dX10_end_32 : decode cX10_end 32 = .ok (.aload_n 0, 1) := by decide +kernel
theorem dX10_end_33 : decode cX10_end 33 = .ok (.iload_n 1, 1) := by decide +kernel
theorem dX10_end_34 : decode cX10_end 34 = .ok (.sipush 128, 3) := by decide +kernel
theorem dX10_end_37 : decode cX10_end 37 = .ok (.aload_n 0, 1) := by decide +kernel
theorem dX10_end_38 : decode cX10_end 38 = .ok (.getfield 16, 3) := by decide +kernel
theorem dX10_end_41 : decode cX10_end 41 = .ok (.iload_n 1, 1) := by decide +kernel
theorem dX10_end_42 : decode cX10_end 42 = .ok (.iaload, 1) := by decide +kernel
theorem dX10_end_43 : decode cX10_end 43 = .ok (.aload_n 0, 1) := by decide +kernel
theorem dX10_end_44 : decode cX10_end 44 = .ok (.getfield 13, 3) := by decide +kernel
theorem dX10_end_47 : decode cX10_end 47 = .ok (.iload_n 1, 1) := by decide +kernel
theorem dX10_end_48 : decode cX10_end 48 = .ok (.iaload, 1) := by decide +kernel
theorem dX10_end_49 : decode cX10_end 49 = .ok (.iconst 0, 1) := by decide +kernel
theorem dX10_end_50 : decode cX10_end 50 = .ok (.invokevirtual 238, 3) := by decide +kernel
theorem dX10_end_53 : decode cX10_end 53 = .ok (.aload_n 0, 1) := by decide +kernel
theorem dX10_end_54 : decode cX10_end 54 = .ok (.iload_n 1, 1) := by decide +kernel
theorem dX10_end_55 : decode cX10_end 55 = .ok (.invokevirtual 242, 3) := by decide +kernel
theorem dX10_end_58 : decode cX10_end 58 = .ok (.aload_n 0, 1) := by decide +kernel
theorem dX10_end_59 : decode cX10_end 59 = .ok (.iload_n 1, 1) := by decide +kernel
theorem dX10_end_60 : decode cX10_end 60 = .ok (.iconst 0, 1) := by decide +kernel
theorem dX10_end_61 : decode cX10_end 61 = .ok (.invokevirtual 245, 3) := by decide +kernel
theorem dX10_end_64 : decode cX10_end 64 = .ok (.aload_n 0, 1) := by decide +kernel
theorem dX10_end_65 : decode cX10_end 65 = .ok (.getfield 50, 3) := by decide +kernel
theorem dX10_end_68 : decode cX10_end 68 = .ok (.iload_n 1, 1) := by decide +kernel
theorem dX10_end_69 : decode cX10_end 69 = .ok (.aload_n 0, 1) := by decide +kernel
theorem dX10_end_70 : decode cX10_end 70 = .ok (.getfield 53, 3) := by decide +kernel
theorem dX10_end_73 : decode cX10_end 73 = .ok (.iload_n 1, 1) := by decide +kernel
theorem dX10_end_74 : decode cX10_end 74 = .ok (.iaload, 1) := by decide +kernel
theorem dX10_end_75 : decode cX10_end 75 = .ok (.iastore, 1) := by decide +kernel
theorem dX10_end_76 : decode cX10_end 76 = .ok (.aload_n 0, 1) := by decide +kernel
theorem dX10_end_77 : decode cX10_end 77 = .ok (.getfield 7, 3) := by decide +kernel
theorem dX10_end_80 : decode cX10_end 80 = .ok (.iload_n 1, 1) := by decide +kernel
theorem dX10_end_81 : decode cX10_end 81 = .ok (.iconst 3, 1) := by decide +kernel
theorem dX10_end_82 : decode cX10_end 82 = .ok (.iastore, 1) := by decide +kernel
theorem dX10_end_83 : decode cX10_end 83 = .ok (.iconst 1, 1) := by decide +kernel
theorem dX10_end_84 : decode cX10_end 84 = .ok (.ireturn, 1) := by decide +kernel
theorem dX10_type_0 : decode cX10_type 0 = .ok (.iload_n 3, 1) := by decide +kernel
theorem dX10_type_1 : decode cX10_type 1 = .ok (.iconst 1, 1) := by decide +kernel
theorem dX10_type_2 : decode cX10_type 2 = .ok (.if_icmp .lt 9, 3) := by decide +kernel
theorem dX10_type_5 : decode cX10_type 5 = .ok (.iload_n 3, 1) := by decide +kernel
theorem dX10_type_6 : decode cX10_type 6 = .ok (.bipush 8, 2) := by decide +kernel
theorem dX10_type_8 : decode cX10_type 8 = .ok (.if_icmp .le 5, 3) := by decide +kernel
theorem dX10_type_11 : decode cX10_type 11 = .ok (.iconst (-1), 1) := by decide +kernel
theorem dX10_type_12 : decode cX10_type 12 = .ok (.ireturn, 1) := by decide +kernel
theorem dX10_type_13 : decode cX10_type 13 = .ok (.aload_n 0, 1) := by decide +kernel
theorem dX10_type_14 : decode cX10_type 14 = .ok (.getfield 251, 3) := by decide +kernel
theorem dX10_type_17 : decode cX10_type 17 = .ok (.iload_n 3, 1) := by decide +kernel
theorem dX10_type_18 : decode cX10_type 18 = .ok (.iadd, 1) := by decide +kernel
theorem dX10_type_19 : decode cX10_type 19 = .ok (.bipush 64, 2) := by decide +kernel
theorem dX10_type_21 : decode cX10_type 21 = .ok (.if_icmp .le 6, 3) := by decide +kernel
theorem dX10_type_24 : decode cX10_type 24 = .ok (.bipush (-3), 2) := by decide +kernel
theorem dX10_type_26 : decode cX10_type 26 = .ok (.ireturn, 1) := by decide +kernel
theorem dX10_type_27 : decode cX10_type 27 = .ok (.iload_n 3, 1) := by decide +kernel
theorem dX10_type_28 : decode cX10_type 28 = .ok (.iconst 1, 1) := by decide +kernel
theorem dX10_type_29 : decode cX10_type 29 = .ok (.isub, 1) := by decide +kernel
theorem dX10_type_30 : decode cX10_type 30 = .ok (.istore 4, 2) := by decide +kernel
theorem dX10_type_32 : decode cX10_type 32 = .ok (.iload 4, 2) := by decide +kernel
theorem dX10_type_34 : decode cX10_type 34 = .ok (.ifCond .lt 40, 3) := by decide +kernel
theorem dX10_type_37 : decode cX10_type 37 = .ok (.aload_n 0, 1) := by decide +kernel
theorem dX10_type_38 : decode cX10_type 38 = .ok (.getfield 149, 3) := by decide +kernel
theorem dX10_type_41 : decode cX10_type 41 = .ok (.aload_n 0, 1) := by decide +kernel
theorem dX10_type_42 : decode cX10_type 42 = .ok (.getfield 251, 3) := by decide +kernel
theorem dX10_type_45 : decode cX10_type 45 = .ok (.lload_n 1, 1) := by decide +kernel
theorem dX10_type_46 : decode cX10_type 46 = .ok (.bipush 8, 2) := by decide +kernel
theorem dX10_type_48 : decode cX10_type 48 = .ok (.iload 4, 2) := by decide +kernel
theorem dX10_type_50 : decode cX10_type 50 = .ok (.imul, 1) := by decide +kernel
theorem dX10_type_51 : decode cX10_type 51 = .ok (.lshr, 1) := by decide +kernel
theorem dX10_type_52 : decode cX10_type 52 = .ok (.ldc2_w 254, 3) := by decide +kernel
theorem dX10_type_55 : decode cX10_type 55 = .ok (.land, 1) := by decide +kernel
theorem dX10_type_56 : decode cX10_type 56 = .ok (.l2i, 1) := by decide +kernel
theorem dX10_type_57 : decode cX10_type 57 = .ok (.iastore, 1) := by decide +kernel
theorem dX10_type_58 : decode cX10_type 58 = .ok (.aload_n 0, 1) := by decide +kernel
theorem dX10_type_59 : decode cX10_type 59 = .ok (.dup, 1) := by decide +kernel
theorem dX10_type_60 : decode cX10_type 60 = .ok (.getfield 251, 3) := by decide +kernel
theorem dX10_type_63 : decode cX10_type 63 = .ok (.iconst 1, 1) := by decide +kernel
theorem dX10_type_64 : decode cX10_type 64 = .ok (.iadd, 1) := by decide +kernel
theorem dX10_type_65 : decode cX10_type 65 = .ok (.putfield 251, 3) := by decide +kernel
theorem dX10_type_68 : decode cX10_type 68 = .ok (.iinc 4 (-1), 3) := by decide +kernel
theorem dX10_type_71 : decode cX10_type 71 = .ok (.goto (-39), 3) := by decide +kernel
theorem dX10_type_74 : decode cX10_type 74 = .ok (.aload_n 0, 1) := by decide +kernel
theorem dX10_type_75 : decode cX10_type 75 = .ok (.getfield 251, 3) := by decide +kernel
theorem dX10_type_78 : decode cX10_type 78 = .ok (.ireturn, 1) := by decide +kernel
theorem dX10_send_0 : decode cX10_send 0 = .ok (.iload_n 1, 1) := by decide +kernel
theorem dX10_send_1 : decode cX10_send 1 = .ok (.invokestatic 231, 3) := by decide +kernel
theorem dX10_send_4 : decode cX10_send 4 = .ok (.ifCond .ne 5, 3) := by decide +kernel
theorem dX10_send_7 : decode cX10_send 7 = .ok (.iconst (-1), 1) := by decide +kernel
theorem dX10_send_8 : decode cX10_send 8 = .ok (.ireturn, 1) := by decide +kernel
theorem dX10_send_9 : decode cX10_send 9 = .ok (.aload_n 0, 1) := by decide +kernel
theorem dX10_send_10 : decode cX10_send 10 = .ok (.getfield 7, 3) := by decide +kernel
theorem dX10_send_13 : decode cX10_send 13 = .ok (.iload_n 1, 1) := by decide +kernel
theorem dX10_send_14 : decode cX10_send 14 = .ok (.iaload, 1) := by decide +kernel
theorem dX10_send_15 : decode cX10_send 15 = .ok (.iconst 2, 1) := by decide +kernel
theorem dX10_send_16 : decode cX10_send 16 = .ok (.if_icmp .eq 6, 3) := by decide +kernel
theorem dX10_send_19 : decode cX10_send 19 = .ok (.bipush (-2), 2) := by decide +kernel
theorem dX10_send_21 : decode cX10_send 21 = .ok (.ireturn, 1) := by decide +kernel
theorem dX10_send_22 : decode cX10_send 22 = .ok (.aload_n 0, 1) := by decide +kernel
theorem dX10_send_23 : decode cX10_send 23 = .ok (.getfield 251, 3) := by decide +kernel
theorem dX10_send_26 : decode cX10_send 26 = .ok (.ifCond .ne 7, 3) := by decide +kernel
theorem dX10_send_29 : decode cX10_send 29 = .ok (.iconst 1, 1) := by decide +kernel
theorem dX10_send_30 : decode cX10_send 30 = .ok (.goto 13, 3) := by decide +kernel
theorem dX10_send_33 : decode cX10_send 33 = .ok (.aload_n 0, 1) := by decide +kernel
theorem dX10_send_34 : decode cX10_send 34 = .ok (.getfield 251, 3) := by decide +kernel
theorem dX10_send_37 : decode cX10_send 37 = .ok (.bipush 7, 2) := by decide +kernel
theorem dX10_send_39 : decode cX10_send 39 = .ok (.iadd, 1) := by decide +kernel
theorem dX10_send_40 : decode cX10_send 40 = .ok (.bipush 8, 2) := by decide +kernel
theorem dX10_send_42 : decode cX10_send 42 = .ok (.idiv, 1) := by decide +kernel
theorem dX10_send_43 : decode cX10_send 43 = .ok (.istore_n 2, 1) := by decide +kernel
theorem dX10_send_44 : decode cX10_send 44 = .ok (.aload_n 0, 1) := by decide +kernel
theorem dX10_send_45 : decode cX10_send 45 = .ok (.getfield 50, 3) := by decide +kernel
theorem dX10_send_48 : decode cX10_send 48 = .ok (.iload_n 1, 1) := by decide +kernel
theorem dX10_send_49 : decode cX10_send 49 = .ok (.iaload, 1) := by decide +kernel
theorem dX10_send_50 : decode cX10_send 50 = .ok (.iload_n 2, 1) := by decide +kernel
theorem dX10_send_51 : decode cX10_send 51 = .ok (.iadd, 1) := by decide +kernel
theorem dX10_send_52 : decode cX10_send 52 = .ok (.bipush 40, 2) := by decide +kernel
theorem dX10_send_54 : decode cX10_send 54 = .ok (.if_icmp .le 6, 3) := by decide +kernel
theorem dX10_send_57 : decode cX10_send 57 = .ok (.bipush (-3), 2) := by decide +kernel
theorem dX10_send_59 : decode cX10_send 59 = .ok (.ireturn, 1) := by decide +kernel
theorem dX10_send_60 : decode cX10_send 60 = .ok (.iconst 0, 1) := by decide +kernel
theorem dX10_send_61 : decode cX10_send 61 = .ok (.istore_n 3, 1) := by decide +kernel
theorem dX10_send_62 : decode cX10_send 62 = .ok (.iload_n 3, 1) := by decide +kernel
theorem dX10_send_63 : decode cX10_send 63 = .ok (.iload_n 2, 1) := by decide +kernel
theorem dX10_send_64 : decode cX10_send 64 = .ok (.if_icmp .ge 131, 3) := by decide +kernel
theorem dX10_send_67 : decode cX10_send 67 = .ok (.bipush 40, 2) := by decide +kernel
theorem dX10_send_69 : decode cX10_send 69 = .ok (.iload_n 1, 1) := by decide +kernel
