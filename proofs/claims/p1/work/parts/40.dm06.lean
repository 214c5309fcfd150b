theorem dX10_end_65 : decode cX10_end 65 = .ok (.getfield 50, 3) := by decide +kernel
theorem dX10_end_68 : decode cX10_end 68 = .ok (.iload_n 1, 1) := by decide +kernel
theorem dX10_end_69 : decode cX10_end 69 = .ok (.aload_n 0, 1) := by decide +kernel
theorem dX10_end_70 : decode cX10_end 70 = .ok (.getfield 53, 3) := by decide +kernel
theorem dX10_end_73 : decode cX10_end 73 = .ok (.iload_n 1, 1) := by decide +kernel
theorem dX10_end_74 : decode cX10_end 74 = .ok (.iaload, 1) := by decide +kernel
theorem dX10_end_75 : decode cX10_end 75 = .ok (.iastore, 1) := by decide +kernel
theorem dX10_end_76 : decode cX10_end 76 = .ok (.aload_n 0, 1) := by decide +kernel
theorem dX10_end_77 : decode cX10_end 77 = .ok (.getfield 7, 3) := by decide +kernel
theorem dX10_end_80 : decode cX10_end 80 = .ok (.iload_n 1, 1) := by decide +kernel
theorem dX10_end_81 : decode cX10_end 81 = .ok (.iconst 3, 1) := by decide +kernel
theorem dX10_end_82 : decode cX10_end 82 = .ok (.iastore, 1) := by decide +kernel
theorem dX10_end_83 : decode cX10_end 83 = .ok (.iconst 1, 1) := by decide +kernel
theorem dX10_end_84 : decode cX10_end 84 = .ok (.ireturn, 1) := by decide +kernel
theorem dX10_type_0 : decode cX10_type 0 = .ok (.iload_n 3, 1) := by decide +kernel
theorem dX10_type_1 : decode cX10_type 1 = .ok (.iconst 1, 1) := by decide +kernel
theorem dX10_type_2 : decode cX10_type 2 = .ok (.if_icmp .lt 9, 3) := by decide +kernel
theorem dX10_type_5 : decode cX10_type 5 = .ok (.iload_n 3, 1) := by decide +kernel
theorem dX10_type_6 : decode cX10_type 6 = .ok (.bipush 8, 2) := by decide +kernel
theorem dX10_type_8 : decode cX10_type 8 = .ok (.if_icmp .le 5, 3) := by decide +kernel
theorem dX10_type_11 : decode cX10_type 11 = .ok (.iconst (-1), 1) := by decide +kernel
theorem dX10_type_12 : decode cX10_type 12 = .ok (.ireturn, 1) := by decide +kernel
theorem dX10_type_13 : decode cX10_type 13 = .ok (.aload_n 0, 1) := by decide +kernel
theorem dX10_type_14 : decode cX10_type 14 = .ok (.getfield 251, 3) := by decide +kernel
theorem dX10_type_17 : decode cX10_type 17 = .ok (.iload_n 3, 1) := by decide +kernel
theorem dX10_type_18 : decode cX10_type 18 = .ok (.iadd, 1) := by decide +kernel
theorem dX10_type_19 : decode cX10_type 19 = .ok (.bipush 64, 2) := by decide +kernel
theorem dX10_type_21 : decode cX10_type 21 = .ok (.if_icmp .le 6, 3) := by decide +kernel
theorem dX10_type_24 : decode cX10_type 24 = .ok (.bipush (-3), 2) := by decide +kernel
theorem dX10_type_26 : decode cX10_type 26 = .ok (.ireturn, 1) := by decide +kernel
theorem dX10_type_27 : decode cX10_type 27 = .ok (.iload_n 3, 1) := by decide +kernel
theorem dX10_type_28 : decode cX10_type 28 = .ok (.iconst 1, 1) := by decide +kernel
theorem dX10_type_29 : decode cX10_type 29 = .ok (.isub, 1) := by decide +kernel
theorem dX10_type_30 : decode cX10_type 30 = .ok (.istore 4, 2) := by decide +kernel
theorem dX10_type_32 : decode cX10_type 32 = .ok (.iload 4, 2) := by decide +kernel
theorem dX10_type_34 : decode cX10_type 34 = .ok (.ifCond .lt 40, 3) := by decide +kernel
theorem dX10_type_37 : decode cX10_type 37 = .ok (.aload_n 0, 1) := by decide +kernel
theorem dX10_type_38 : decode cX10_type 38 = .ok (.getfield 149, 3) := by decide +kernel
theorem dX10_type_41 : decode cX10_type 41 = .ok (.aload_n 0, 1) := by decide +kernel
theorem dX10_type_42 : decode cX10_type 42 = .ok (.getfield 251, 3) := by decide +kernel
theorem dX10_type_45 : decode cX10_type 45 = .ok (.lload_n 1, 1) := by decide +kernel
theorem dX10_type_46 : decode cX10_type 46 = .ok (.bipush 8, 2) := by decide +kernel
theorem dX10_type_48 : decode cX10_type 48 = .ok (.iload 4, 2) := by decide +kernel
theorem dX10_type_50 : decode cX10_type 50 = .ok (.imul, 1) := by decide +kernel
theorem dX10_type_51 : decode cX10_type 51 = .ok (.lshr, 1) := by decide +kernel
theorem dX10_type_52 : decode cX10_type 52 = .ok (.ldc2_w 254, 3) := by decide +kernel
theorem dX10_type_55 : decode cX10_type 55 = .ok (.land, 1) := by decide +kernel
theorem dX10_type_56 : decode cX10_type 56 = .ok (.l2i, 1) := by decide +kernel
theorem dX10_type_57 : decode cX10_type 57 = .ok (.iastore, 1) := by decide +kernel
theorem dX10_type_58 : decode cX10_type 58 = .ok (.aload_n 0, 1) := by decide +kernel
theorem dX10_type_59 : decode cX10_type 59 = .ok (.dup, 1) := by decide +kernel
theorem dX10_type_60 : decode cX10_type 60 = .ok (.getfield 251, 3) := by decide +kernel
theorem dX10_type_63 : decode cX10_type 63 = .ok (.iconst 1, 1) := by decide +kernel
theorem dX10_type_64 : decode cX10_type 64 = .ok (.iadd, 1) := by decide +kernel
theorem dX10_type_65 : decode cX10_type 65 = .ok (.putfield 251, 3) := by decide +kernel
theorem dX10_type_68 : decode cX10_type 68 = .ok (.iinc 4 (-1), 3) := by decide +kernel
theorem dX10_type_71 : decode cX10_type 71 = .ok (.goto (-39), 3) := by decide +kernel
theorem dX10_type_74 : decode cX10_type 74 = .ok (.aload_n 0, 1) := by decide +kernel
theorem dX10_type_75 : decode cX10_type 75 = .ok (.getfield 251, 3) := by decide +kernel
theorem dX10_type_78 : decode cX10_type 78 = .ok (.ireturn, 1) := by decide +kernel
theorem dX10_send_0 : decode cX10_send 0 = .ok (.iload_n 1, 1) := by decide +kernel
theorem dX10_send_1 : decode cX10_send 1 = .ok (.invokestatic 231, 3) := by decide +kernel
theorem dX10_send_4 : decode cX10_send 4 = .ok (.ifCond .ne 5, 3) := by decide +kernel
theorem dX10_send_7 : decode cX10_send 7 = .ok (.iconst (-1), 1) := by decide +kernel
theorem dX10_send_8 : decode cX10_send 8 = .ok (.ireturn, 1) := by decide +kernel
theorem dX10_send_9 : decode cX10_send 9 = .ok (.aload_n 0, 1) := by decide +kernel
theorem dX10_send_10 : decode cX10_send 10 = .ok (.getfield 7, 3) := by decide +kernel
theorem dX10_send_13 : decode cX10_send 13 = .ok (.iload_n 1, 1) := by decide +kernel
theorem dX10_send_14 : decode cX10_send 14 = .ok (.iaload, 1) := by decide +kernel
theorem dX10_send_15 : decode cX10_send 15 = .ok (.iconst 2, 1) := by decide +kernel
theorem dX10_send_16 : decode cX10_send 16 = .ok (.if_icmp .eq 6, 3) := by decide +kernel
theorem dX10_send_19 : decode cX10_send 19 = .ok (.bipush (-2), 2) := by decide +kernel
theorem dX10_send_21 : decode cX10_send 21 = .ok (.ireturn, 1) := by decide +kernel
theorem dX10_send_22 : decode cX10_send 22 = .ok (.aload_n 0, 1) := by decide +kernel
theorem dX10_send_23 : decode cX10_send 23 = .ok (.getfield 251, 3) := by decide +kernel
theorem dX10_send_26 : decode cX10_send 26 = .ok (.ifCond .ne 7, 3) := by decide +kernel
theorem dX10_send_29 : decode cX10_send 29 = .ok (.iconst 1, 1) := by decide +kernel
theorem dX10_send_30 : decode cX10_send 30 = .ok (.goto 13, 3) := by decide +kernel
theorem dX10_send_33 : decode cX10_send 33 = .ok (.aload_n 0, 1) := by decide +kernel
theorem dX10_send_34 : decode cX10_send 34 = .ok (.getfield 251, 3) := by decide +kernel
theorem dX10_send_37 : decode cX10_send 37 = .ok (.bipush 7, 2) := by decide +kernel
theorem dX10_send_39 : decode cX10_send 39 = .ok (.iadd, 1) := by decide +kernel
theorem dX10_send_40 : decode cX10_send 40 = .ok (.bipush 8, 2) := by decide +kernel
theorem dX10_send_42 : decode cX10_send 42 = .ok (.idiv, 1) := by decide +kernel
theorem dX10_send_43 : decode cX10_send 43 = .ok (.istore_n 2, 1) := by decide +kernel
theorem dX10_send_44 : decode cX10_send 44 = .ok (.aload_n 0, 1) := by decide +kernel
theorem dX10_send_45 : decode cX10_send 45 = .ok (.getfield 50, 3) := by decide +kernel
theorem dX10_send_48 : decode cX10_send 48 = .ok (.iload_n 1, 1) := by decide +kernel
theorem dX10_send_49 : decode cX10_send 49 = .ok (.iaload, 1) := by decide +kernel
theorem dX10_send_50 : decode cX10_send 50 = .ok (.iload_n 2, 1) := by decide +kernel
theorem dX10_send_51 : decode cX10_send 51 = .ok (.iadd, 1) := by decide +kernel
theorem dX10_send_52 : decode cX10_send 52 = .ok (.bipush 40, 2) := by decide +kernel
theorem dX10_send_54 : decode cX10_send 54 = .ok (.if_icmp .le 6, 3) := by decide +kernel
theorem dX10_send_57 : decode cX10_send 57 = .ok (.bipush (-3), 2) := by decide +kernel
theorem dX10_send_59 : decode cX10_send 59 = .ok (.ireturn, 1) := by decide +kernel
theorem dX10_send_60 : decode cX10_send 60 = .ok (.iconst 0, 1) := by decide +kernel
theorem dX10_send_61 : decode cX10_send 61 = .ok (.istore_n 3, 1) := by decide +kernel
theorem dX10_send_62 : decode cX10_send 62 = .ok (.iload_n 3, 1) := by decide +kernel
theorem dX10_send_63 : decode cX10_send 63 = .ok (.iload_n 2, 1) := by decide +kernel
theorem dX10_send_64 : decode cX10_send 64 = .ok (.if_icmp .ge 131, 3) := by decide +kernel
theorem dX10_send_67 : decode cX10_send 67 = .ok (.bipush 40, 2) := by decide +kernel
theorem dX10_send_69 : decode cX10_send 69 = .ok (.iload_n 1, 1) := by decide +kernel
theorem dX10_send_70 : decode cX10_send 70 = .ok (.imul, 1) := by decide +kernel
theorem dX10_send_71 : decode cX10_send 71 = .ok (.aload_n 0, 1) := by decide +kernel
theorem dX10_send_72 : decode cX10_send 72 = .ok (.getfield 50, 3) := by decide +kernel
theorem dX10_send_75 : decode cX10_send 75 = .ok (.iload_n 1, 1) := by decide +kernel
theorem dX10_send_76 : decode cX10_send 76 = .ok (.iaload, 1) := by decide +kernel
theorem dX10_send_77 : decode cX10_send 77 = .ok (.iadd, 1) := by decide +kernel
theorem dX10_send_78 : decode cX10_send 78 = .ok (.istore 4, 2) := by decide +kernel
theorem dX10_send_80 : decode cX10_send 80 = .ok (.aload_n 0, 1) := by decide +kernel
theorem dX10_send_81 : decode cX10_send 81 = .ok (.getfield 251, 3) := by decide +kernel
theorem dX10_send_84 : decode cX10_send 84 = .ok (.bipush 8, 2) := by decide +kernel
theorem dX10_send_86 : decode cX10_send 86 = .ok (.iload_n 3, 1) := by decide +kernel
theorem dX10_send_87 : decode cX10_send 87 = .ok (.imul, 1) := by decide +kernel
theorem dX10_send_88 : decode cX10_send 88 = .ok (.isub, 1) := by decide +kernel
theorem dX10_send_89 : decode cX10_send 89 = .ok (.bipush 8, 2) := by decide +kernel
theorem dX10_send_91 : decode cX10_send 91 = .ok (.if_icmp .ge 15, 3) := by decide +kernel
theorem dX10_send_94 : decode cX10_send 94 = .ok (.aload_n 0, 1) := by decide +kernel
theorem dX10_send_95 : decode cX10_send 95 = .ok (.getfield 251, 3) := by decide +kernel
theorem dX10_send_98 : decode cX10_send 98 = .ok (.bipush 8, 2) := by decide +kernel
theorem dX10_send_100 : decode cX10_send 100 = .ok (.iload_n 3, 1) := by decide +kernel
theorem dX10_send_101 : decode cX10_send 101 = .ok (.imul, 1) := by decide +kernel
theorem dX10_send_102 : decode cX10_send 102 = .ok (.isub, 1) := by decide +kernel
theorem dX10_send_103 : decode cX10_send 103 = .ok (.goto 5, 3) := by decide +kernel
theorem dX10_send_106 : decode cX10_send 106 = .ok (.bipush 8, 2) := by decide +kernel
theorem dX10_send_108 : decode cX10_send 108 = .ok (.istore 5, 2) := by decide +kernel
theorem dX10_send_110 : decode cX10_send 110 = .ok (.aload_n 0, 1) := by decide +kernel
theorem dX10_send_111 : decode cX10_send 111 = .ok (.getfield 56, 3) := by decide +kernel
theorem dX10_send_114 : decode cX10_send 114 = .ok (.iload 4, 2) := by decide +kernel
theorem dX10_send_116 : decode cX10_send 116 = .ok (.iload 5, 2) := by decide +kernel
theorem dX10_send_118 : decode cX10_send 118 = .ok (.iastore, 1) := by decide +kernel
theorem dX10_send_119 : decode cX10_send 119 = .ok (.aload_n 0, 1) := by decide +kernel
theorem dX10_send_120 : decode cX10_send 120 = .ok (.getfield 59, 3) := by decide +kernel
theorem dX10_send_123 : decode cX10_send 123 = .ok (.iload 4, 2) := by decide +kernel
theorem dX10_send_125 : decode cX10_send 125 = .ok (.iload_n 3, 1) := by decide +kernel
theorem dX10_send_126 : decode cX10_send 126 = .ok (.iconst 1, 1) := by decide +kernel
theorem dX10_send_127 : decode cX10_send 127 = .ok (.iadd, 1) := by decide +kernel
theorem dX10_send_128 : decode cX10_send 128 = .ok (.iload_n 2, 1) := by decide +kernel
theorem dX10_send_129 : decode cX10_send 129 = .ok (.if_icmp .ne 7, 3) := by decide +kernel
theorem dX10_send_132 : decode cX10_send 132 = .ok (.iconst 1, 1) := by decide +kernel
theorem dX10_send_133 : decode cX10_send 133 = .ok (.goto 4, 3) := by decide +kernel
theorem dX10_send_136 : decode cX10_send 136 = .ok (.iconst 0, 1) := by decide +kernel
theorem dX10_send_137 : decode cX10_send 137 = .ok (.bastore, 1) := by decide +kernel
theorem dX10_send_138 : decode cX10_send 138 = .ok (.iconst 0, 1) := by decide +kernel
theorem dX10_send_139 : decode cX10_send 139 = .ok (.istore 6, 2) := by decide +kernel
theorem dX10_send_141 : decode cX10_send 141 = .ok (.iload 6, 2) := by decide +kernel
theorem dX10_send_143 : decode cX10_send 143 = .ok (.iload 5, 2) := by decide +kernel
theorem dX10_send_145 : decode cX10_send 145 = .ok (.if_icmp .ge 34, 3) := by decide +kernel
theorem dX10_send_148 : decode cX10_send 148 = .ok (.aload_n 0, 1) := by decide +kernel
theorem dX10_send_149 : decode cX10_send 149 = .ok (.getfield 71, 3) := by decide +kernel
theorem dX10_send_152 : decode cX10_send 152 = .ok (.bipush 8, 2) := by decide +kernel
theorem dX10_send_154 : decode cX10_send 154 = .ok (.iload 4, 2) := by decide +kernel
theorem dX10_send_156 : decode cX10_send 156 = .ok (.imul, 1) := by decide +kernel
theorem dX10_send_157 : decode cX10_send 157 = .ok (.iload 6, 2) := by decide +kernel
theorem dX10_send_159 : decode cX10_send 159 = .ok (.iadd, 1) := by decide +kernel
theorem dX10_send_160 : decode cX10_send 160 = .ok (.aload_n 0, 1) := by decide +kernel
theorem dX10_send_161 : decode cX10_send 161 = .ok (.getfield 149, 3) := by decide +kernel
theorem dX10_send_164 : decode cX10_send 164 = .ok (.bipush 8, 2) := by decide +kernel
theorem dX10_send_166 : decode cX10_send 166 = .ok (.iload_n 3, 1) := by decide +kernel
theorem dX10_send_167 : decode cX10_send 167 = .ok (.imul, 1) := by decide +kernel
theorem dX10_send_168 : decode cX10_send 168 = .ok (.iload 6, 2) := by decide +kernel
theorem dX10_send_170 : decode cX10_send 170 = .ok (.iadd, 1) := by decide +kernel
theorem dX10_send_171 : decode cX10_send 171 = .ok (.iaload, 1) := by decide +kernel
theorem dX10_send_172 : decode cX10_send 172 = .ok (.iastore, 1) := by decide +kernel
theorem dX10_send_173 : decode cX10_send 173 = .ok (.iinc 6 1, 3) := by decide +kernel
theorem dX10_send_176 : decode cX10_send 176 = .ok (.goto (-35), 3) := by decide +kernel
theorem dX10_send_179 : decode cX10_send 179 = .ok (.aload_n 0, 1) := by decide +kernel
theorem dX10_send_180 : decode cX10_send 180 = .ok (.getfield 50, 3) := by decide +kernel
theorem dX10_send_183 : decode cX10_send 183 = .ok (.iload_n 1, 1) := by decide +kernel
