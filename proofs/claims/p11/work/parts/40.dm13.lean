theorem dX10_arriveAll_64 : decode cX10_arriveAll 64 = .ok (.invokevirtual 311, 3) := by decide +kernel
theorem dX10_arriveAll_67 : decode cX10_arriveAll 67 = .ok (.ifCond .ne 20, 3) := by decide +kernel
theorem dX10_arriveAll_70 : decode cX10_arriveAll 70 = .ok (.iload_n 2, 1) := by decide +kernel
theorem dX10_arriveAll_71 : decode cX10_arriveAll 71 = .ok (.ifCond .eq 12, 3) := by decide +kernel
theorem dX10_arriveAll_74 : decode cX10_arriveAll 74 = .ok (.aload_n 0, 1) := by decide +kernel
theorem dX10_arriveAll_75 : decode cX10_arriveAll 75 = .ok (.iconst 2, 1) := by decide +kernel
theorem dX10_arriveAll_76 : decode cX10_arriveAll 76 = .ok (.iload_n 3, 1) := by decide +kernel
theorem dX10_arriveAll_77 : decode cX10_arriveAll 77 = .ok (.invokevirtual 311, 3) := by decide +kernel
theorem dX10_arriveAll_80 : decode cX10_arriveAll 80 = .ok (.ifCond .eq 7, 3) := by decide +kernel
theorem dX10_arriveAll_83 : decode cX10_arriveAll 83 = .ok (.iconst 1, 1) := by decide +kernel
theorem dX10_arriveAll_84 : decode cX10_arriveAll 84 = .ok (.goto 4, 3) := by decide +kernel
theorem dX10_arriveAll_87 : decode cX10_arriveAll 87 = .ok (.iconst 0, 1) := by decide +kernel
theorem dX10_arriveAll_88 : decode cX10_arriveAll 88 = .ok (.istore 5, 2) := by decide +kernel
theorem dX10_arriveAll_90 : decode cX10_arriveAll 90 = .ok (.iload 5, 2) := by decide +kernel
theorem dX10_arriveAll_92 : decode cX10_arriveAll 92 = .ok (.ifCond .eq 8, 3) := by decide +kernel
theorem dX10_arriveAll_95 : decode cX10_arriveAll 95 = .ok (.aload_n 0, 1) := by decide +kernel
theorem dX10_arriveAll_96 : decode cX10_arriveAll 96 = .ok (.iload_n 3, 1) := by decide +kernel
theorem dX10_arriveAll_97 : decode cX10_arriveAll 97 = .ok (.invokevirtual 315, 3) := by decide +kernel
theorem dX10_arriveAll_100 : decode cX10_arriveAll 100 = .ok (.iinc 3 1, 3) := by decide +kernel
theorem dX10_arriveAll_103 : decode cX10_arriveAll 103 = .ok (.goto (-86), 3) := by decide +kernel
theorem dX10_arriveAll_106 : decode cX10_arriveAll 106 = .ok (.iinc 2 1, 3) := by decide +kernel
theorem dX10_arriveAll_109 : decode cX10_arriveAll 109 = .ok (.goto (-102), 3) := by decide +kernel
theorem dX10_arriveAll_112 : decode cX10_arriveAll 112 = .ok (.aload_n 0, 1) := by decide +kernel
theorem dX10_arriveAll_113 : decode cX10_arriveAll 113 = .ok (.getfield 308, 3) := by decide +kernel
theorem dX10_arriveAll_116 : decode cX10_arriveAll 116 = .ok (.iload_n 1, 1) := by decide +kernel
theorem dX10_arriveAll_117 : decode cX10_arriveAll 117 = .ok (.if_icmp .ge 39, 3) := by decide +kernel
theorem dX10_arriveAll_120 : decode cX10_arriveAll 120 = .ok (.aload_n 0, 1) := by decide +kernel
theorem dX10_arriveAll_121 : decode cX10_arriveAll 121 = .ok (.getfield 174, 3) := by decide +kernel
theorem dX10_arriveAll_124 : decode cX10_arriveAll 124 = .ok (.aload_n 0, 1) := by decide +kernel
theorem dX10_arriveAll_125 : decode cX10_arriveAll 125 = .ok (.getfield 308, 3) := by decide +kernel
theorem dX10_arriveAll_128 : decode cX10_arriveAll 128 = .ok (.sipush 4096, 3) := by decide +kernel
theorem dX10_arriveAll_131 : decode cX10_arriveAll 131 = .ok (.irem, 1) := by decide +kernel
theorem dX10_arriveAll_132 : decode cX10_arriveAll 132 = .ok (.iaload, 1) := by decide +kernel
theorem dX10_arriveAll_133 : decode cX10_arriveAll 133 = .ok (.bipush 8, 2) := by decide +kernel
theorem dX10_arriveAll_135 : decode cX10_arriveAll 135 = .ok (.iadd, 1) := by decide +kernel
theorem dX10_arriveAll_136 : decode cX10_arriveAll 136 = .ok (.aload_n 0, 1) := by decide +kernel
theorem dX10_arriveAll_137 : decode cX10_arriveAll 137 = .ok (.getfield 198, 3) := by decide +kernel
theorem dX10_arriveAll_140 : decode cX10_arriveAll 140 = .ok (.if_icmp .gt 16, 3) := by decide +kernel
theorem dX10_arriveAll_143 : decode cX10_arriveAll 143 = .ok (.aload_n 0, 1) := by decide +kernel
theorem dX10_arriveAll_144 : decode cX10_arriveAll 144 = .ok (.dup, 1) := by decide +kernel
theorem dX10_arriveAll_145 : decode cX10_arriveAll 145 = .ok (.getfield 308, 3) := by decide +kernel
theorem dX10_arriveAll_148 : decode cX10_arriveAll 148 = .ok (.iconst 1, 1) := by decide +kernel
theorem dX10_arriveAll_149 : decode cX10_arriveAll 149 = .ok (.iadd, 1) := by decide +kernel
theorem dX10_arriveAll_150 : decode cX10_arriveAll 150 = .ok (.putfield 308, 3) := by decide +kernel
theorem dX10_arriveAll_153 : decode cX10_arriveAll 153 = .ok (.goto (-41), 3) := by decide +kernel
theorem dX10_arriveAll_156 : decode cX10_arriveAll 156 = .ok (.return_, 1) := by decide +kernel
theorem dX10_isDue_0 : decode cX10_isDue 0 = .ok (.aload_n 0, 1) := by decide +kernel
theorem dX10_isDue_1 : decode cX10_isDue 1 = .ok (.getfield 7, 3) := by decide +kernel
theorem dX10_isDue_4 : decode cX10_isDue 4 = .ok (.iload_n 1, 1) := by decide +kernel
theorem dX10_isDue_5 : decode cX10_isDue 5 = .ok (.iaload, 1) := by decide +kernel
theorem dX10_isDue_6 : decode cX10_isDue 6 = .ok (.iconst 1, 1) := by decide +kernel
theorem dX10_isDue_7 : decode cX10_isDue 7 = .ok (.if_icmp .lt 28, 3) := by decide +kernel
theorem dX10_isDue_10 : decode cX10_isDue 10 = .ok (.aload_n 0, 1) := by decide +kernel
theorem dX10_isDue_11 : decode cX10_isDue 11 = .ok (.getfield 7, 3) := by decide +kernel
theorem dX10_isDue_14 : decode cX10_isDue 14 = .ok (.iload_n 1, 1) := by decide +kernel
theorem dX10_isDue_15 : decode cX10_isDue 15 = .ok (.iaload, 1) := by decide +kernel
theorem dX10_isDue_16 : decode cX10_isDue 16 = .ok (.iconst 3, 1) := by decide +kernel
theorem dX10_isDue_17 : decode cX10_isDue 17 = .ok (.if_icmp .gt 18, 3) := by decide +kernel
theorem dX10_isDue_20 : decode cX10_isDue 20 = .ok (.iload_n 2, 1) := by decide +kernel
theorem dX10_isDue_21 : decode cX10_isDue 21 = .ok (.ifCond .eq 14, 3) := by decide +kernel
theorem dX10_isDue_24 : decode cX10_isDue 24 = .ok (.aload_n 0, 1) := by decide +kernel
theorem dX10_isDue_25 : decode cX10_isDue 25 = .ok (.getfield 198, 3) := by decide +kernel
theorem dX10_isDue_28 : decode cX10_isDue 28 = .ok (.iload_n 3, 1) := by decide +kernel
theorem dX10_isDue_29 : decode cX10_isDue 29 = .ok (.isub, 1) := by decide +kernel
theorem dX10_isDue_30 : decode cX10_isDue 30 = .ok (.bipush 8, 2) := by decide +kernel
theorem dX10_isDue_32 : decode cX10_isDue 32 = .ok (.if_icmp .ge 5, 3) := by decide +kernel
theorem dX10_isDue_35 : decode cX10_isDue 35 = .ok (.iconst 0, 1) := by decide +kernel
theorem dX10_isDue_36 : decode cX10_isDue 36 = .ok (.ireturn, 1) := by decide +kernel
theorem dX10_isDue_37 : decode cX10_isDue 37 = .ok (.iload_n 2, 1) := by decide +kernel
theorem dX10_isDue_38 : decode cX10_isDue 38 = .ok (.iconst 4, 1) := by decide +kernel
theorem dX10_isDue_39 : decode cX10_isDue 39 = .ok (.if_icmp .ne 8, 3) := by decide +kernel
theorem dX10_isDue_42 : decode cX10_isDue 42 = .ok (.aload_n 0, 1) := by decide +kernel
theorem dX10_isDue_43 : decode cX10_isDue 43 = .ok (.iload_n 1, 1) := by decide +kernel
theorem dX10_isDue_44 : decode cX10_isDue 44 = .ok (.invokevirtual 318, 3) := by decide +kernel
theorem dX10_isDue_47 : decode cX10_isDue 47 = .ok (.iload_n 2, 1) := by decide +kernel
theorem dX10_isDue_48 : decode cX10_isDue 48 = .ok (.iconst 4, 1) := by decide +kernel
theorem dX10_isDue_49 : decode cX10_isDue 49 = .ok (.if_icmp .ge 7, 3) := by decide +kernel
theorem dX10_isDue_52 : decode cX10_isDue 52 = .ok (.iconst 1, 1) := by decide +kernel
theorem dX10_isDue_53 : decode cX10_isDue 53 = .ok (.goto 4, 3) := by decide +kernel
theorem dX10_isDue_56 : decode cX10_isDue 56 = .ok (.iconst 0, 1) := by decide +kernel
theorem dX10_isDue_57 : decode cX10_isDue 57 = .ok (.ireturn, 1) := by decide +kernel
theorem dX10_resend_0 : decode cX10_resend 0 = .ok (.aload_n 0, 1) := by decide +kernel
theorem dX10_resend_1 : decode cX10_resend 1 = .ok (.iload_n 1, 1) := by decide +kernel
theorem dX10_resend_2 : decode cX10_resend 2 = .ok (.aload_n 0, 1) := by decide +kernel
theorem dX10_resend_3 : decode cX10_resend 3 = .ok (.getfield 35, 3) := by decide +kernel
theorem dX10_resend_6 : decode cX10_resend 6 = .ok (.iload_n 1, 1) := by decide +kernel
theorem dX10_resend_7 : decode cX10_resend 7 = .ok (.iaload, 1) := by decide +kernel
theorem dX10_resend_8 : decode cX10_resend 8 = .ok (.aload_n 0, 1) := by decide +kernel
theorem dX10_resend_9 : decode cX10_resend 9 = .ok (.getfield 38, 3) := by decide +kernel
theorem dX10_resend_12 : decode cX10_resend 12 = .ok (.iload_n 1, 1) := by decide +kernel
theorem dX10_resend_13 : decode cX10_resend 13 = .ok (.iaload, 1) := by decide +kernel
theorem dX10_resend_14 : decode cX10_resend 14 = .ok (.invokevirtual 321, 3) := by decide +kernel
theorem dX10_resend_17 : decode cX10_resend 17 = .ok (.ifCond .eq 71, 3) := by decide +kernel
theorem dX10_resend_20 : decode cX10_resend 20 = .ok (.aload_n 0, 1) := by decide +kernel
theorem dX10_resend_21 : decode cX10_resend 21 = .ok (.aload_n 0, 1) := by decide +kernel
theorem dX10_resend_22 : decode cX10_resend 22 = .ok (.getfield 47, 3) := by decide +kernel
theorem dX10_resend_25 : decode cX10_resend 25 = .ok (.iload_n 1, 1) := by decide +kernel
theorem dX10_resend_26 : decode cX10_resend 26 = .ok (.iaload, 1) := by decide +kernel
theorem dX10_resend_27 : decode cX10_resend 27 = .ok (.putfield 183, 3) := by decide +kernel
theorem dX10_resend_30 : decode cX10_resend 30 = .ok (.iconst 0, 1) := by decide +kernel
theorem dX10_resend_31 : decode cX10_resend 31 = .ok (.istore_n 2, 1) := by decide +kernel
theorem dX10_resend_32 : decode cX10_resend 32 = .ok (.iload_n 2, 1) := by decide +kernel
theorem dX10_resend_33 : decode cX10_resend 33 = .ok (.aload_n 0, 1) := by decide +kernel
theorem dX10_resend_34 : decode cX10_resend 34 = .ok (.getfield 183, 3) := by decide +kernel
theorem dX10_resend_37 : decode cX10_resend 37 = .ok (.if_icmp .ge 26, 3) := by decide +kernel
theorem dX10_resend_40 : decode cX10_resend 40 = .ok (.aload_n 0, 1) := by decide +kernel
theorem dX10_resend_41 : decode cX10_resend 41 = .ok (.getfield 180, 3) := by decide +kernel
theorem dX10_resend_44 : decode cX10_resend 44 = .ok (.iload_n 2, 1) := by decide +kernel
theorem dX10_resend_45 : decode cX10_resend 45 = .ok (.aload_n 0, 1) := by decide +kernel
theorem dX10_resend_46 : decode cX10_resend 46 = .ok (.getfield 44, 3) := by decide +kernel
theorem dX10_resend_49 : decode cX10_resend 49 = .ok (.bipush 20, 2) := by decide +kernel
theorem dX10_resend_51 : decode cX10_resend 51 = .ok (.iload_n 1, 1) := by decide +kernel
theorem dX10_resend_52 : decode cX10_resend 52 = .ok (.imul, 1) := by decide +kernel
theorem dX10_resend_53 : decode cX10_resend 53 = .ok (.iload_n 2, 1) := by decide +kernel
theorem dX10_resend_54 : decode cX10_resend 54 = .ok (.iadd, 1) := by decide +kernel
theorem dX10_resend_55 : decode cX10_resend 55 = .ok (.iaload, 1) := by decide +kernel
theorem dX10_resend_56 : decode cX10_resend 56 = .ok (.iastore, 1) := by decide +kernel
theorem dX10_resend_57 : decode cX10_resend 57 = .ok (.iinc 2 1, 3) := by decide +kernel
theorem dX10_resend_60 : decode cX10_resend 60 = .ok (.goto (-28), 3) := by decide +kernel
theorem dX10_resend_63 : decode cX10_resend 63 = .ok (.aload_n 0, 1) := by decide +kernel
theorem dX10_resend_64 : decode cX10_resend 64 = .ok (.iload_n 1, 1) := by decide +kernel
theorem dX10_resend_65 : decode cX10_resend 65 = .ok (.invokevirtual 211, 3) := by decide +kernel
theorem dX10_resend_68 : decode cX10_resend 68 = .ok (.aload_n 0, 1) := by decide +kernel
theorem dX10_resend_69 : decode cX10_resend 69 = .ok (.getfield 35, 3) := by decide +kernel
theorem dX10_resend_72 : decode cX10_resend 72 = .ok (.iload_n 1, 1) := by decide +kernel
theorem dX10_resend_73 : decode cX10_resend 73 = .ok (.dup2, 1) := by decide +kernel
theorem dX10_resend_74 : decode cX10_resend 74 = .ok (.iaload, 1) := by decide +kernel
theorem dX10_resend_75 : decode cX10_resend 75 = .ok (.iconst 1, 1) := by decide +kernel
theorem dX10_resend_76 : decode cX10_resend 76 = .ok (.iadd, 1) := by decide +kernel
theorem dX10_resend_77 : decode cX10_resend 77 = .ok (.iastore, 1) := by decide +kernel
theorem dX10_resend_78 : decode cX10_resend 78 = .ok (.aload_n 0, 1) := by decide +kernel
theorem dX10_resend_79 : decode cX10_resend 79 = .ok (.getfield 38, 3) := by decide +kernel
theorem dX10_resend_82 : decode cX10_resend 82 = .ok (.iload_n 1, 1) := by decide +kernel
theorem dX10_resend_83 : decode cX10_resend 83 = .ok (.aload_n 0, 1) := by decide +kernel
theorem dX10_resend_84 : decode cX10_resend 84 = .ok (.getfield 198, 3) := by decide +kernel
theorem dX10_resend_87 : decode cX10_resend 87 = .ok (.iastore, 1) := by decide +kernel
theorem dX10_resend_88 : decode cX10_resend 88 = .ok (.iconst 0, 1) := by decide +kernel
theorem dX10_resend_89 : decode cX10_resend 89 = .ok (.istore_n 2, 1) := by decide +kernel
theorem dX10_resend_90 : decode cX10_resend 90 = .ok (.iload_n 2, 1) := by decide +kernel
theorem dX10_resend_91 : decode cX10_resend 91 = .ok (.aload_n 0, 1) := by decide +kernel
theorem dX10_resend_92 : decode cX10_resend 92 = .ok (.getfield 53, 3) := by decide +kernel
theorem dX10_resend_95 : decode cX10_resend 95 = .ok (.iload_n 1, 1) := by decide +kernel
theorem dX10_resend_96 : decode cX10_resend 96 = .ok (.iaload, 1) := by decide +kernel
theorem dX10_resend_97 : decode cX10_resend 97 = .ok (.if_icmp .ge 55, 3) := by decide +kernel
theorem dX10_resend_100 : decode cX10_resend 100 = .ok (.aload_n 0, 1) := by decide +kernel
theorem dX10_resend_101 : decode cX10_resend 101 = .ok (.getfield 7, 3) := by decide +kernel
theorem dX10_resend_104 : decode cX10_resend 104 = .ok (.iload_n 1, 1) := by decide +kernel
theorem dX10_resend_105 : decode cX10_resend 105 = .ok (.iaload, 1) := by decide +kernel
theorem dX10_resend_106 : decode cX10_resend 106 = .ok (.iconst 2, 1) := by decide +kernel
theorem dX10_resend_107 : decode cX10_resend 107 = .ok (.if_icmp .ne 45, 3) := by decide +kernel
theorem dX10_resend_110 : decode cX10_resend 110 = .ok (.aload_n 0, 1) := by decide +kernel
theorem dX10_resend_111 : decode cX10_resend 111 = .ok (.iload_n 1, 1) := by decide +kernel
theorem dX10_resend_112 : decode cX10_resend 112 = .ok (.aload_n 0, 1) := by decide +kernel
theorem dX10_resend_113 : decode cX10_resend 113 = .ok (.getfield 65, 3) := by decide +kernel
theorem dX10_resend_116 : decode cX10_resend 116 = .ok (.bipush 40, 2) := by decide +kernel
theorem dX10_resend_118 : decode cX10_resend 118 = .ok (.iload_n 1, 1) := by decide +kernel
theorem dX10_resend_119 : decode cX10_resend 119 = .ok (.imul, 1) := by decide +kernel
theorem dX10_resend_120 : decode cX10_resend 120 = .ok (.iload_n 2, 1) := by decide +kernel
theorem dX10_resend_121 : decode cX10_resend 121 = .ok (.iadd, 1) := by decide +kernel
theorem dX10_resend_122 : decode cX10_resend 122 = .ok (.iaload, 1) := by decide +kernel
theorem dX10_resend_123 : decode cX10_resend 123 = .ok (.aload_n 0, 1) := by decide +kernel
theorem dX10_resend_124 : decode cX10_resend 124 = .ok (.getfield 68, 3) := by decide +kernel
theorem dX10_resend_127 : decode cX10_resend 127 = .ok (.bipush 40, 2) := by decide +kernel
theorem dX10_resend_129 : decode cX10_resend 129 = .ok (.iload_n 1, 1) := by decide +kernel
theorem dX10_resend_130 : decode cX10_resend 130 = .ok (.imul, 1) := by decide +kernel
theorem dX10_resend_131 : decode cX10_resend 131 = .ok (.iload_n 2, 1) := by decide +kernel
theorem dX10_resend_132 : decode cX10_resend 132 = .ok (.iadd, 1) := by decide +kernel
theorem dX10_resend_133 : decode cX10_resend 133 = .ok (.iaload, 1) := by decide +kernel
theorem dX10_resend_134 : decode cX10_resend 134 = .ok (.invokevirtual 321, 3) := by decide +kernel
theorem dX10_resend_137 : decode cX10_resend 137 = .ok (.ifCond .eq 9, 3) := by decide +kernel
theorem dX10_resend_140 : decode cX10_resend 140 = .ok (.aload_n 0, 1) := by decide +kernel
theorem dX10_resend_141 : decode cX10_resend 141 = .ok (.iload_n 1, 1) := by decide +kernel
theorem dX10_resend_142 : decode cX10_resend 142 = .ok (.iload_n 2, 1) := by decide +kernel
theorem dX10_resend_143 : decode cX10_resend 143 = .ok (.invokevirtual 224, 3) := by decide +kernel
theorem dX10_resend_146 : decode cX10_resend 146 = .ok (.iinc 2 1, 3) := by decide +kernel
theorem dX10_resend_149 : decode cX10_resend 149 = .ok (.goto (-59), 3) := by decide +kernel
theorem dX10_resend_152 : decode cX10_resend 152 = .ok (.aload_n 0, 1) := by decide +kernel
theorem dX10_resend_153 : decode cX10_resend 153 = .ok (.getfield 7, 3) := by decide +kernel
theorem dX10_resend_156 : decode cX10_resend 156 = .ok (.iload_n 1, 1) := by decide +kernel
theorem dX10_resend_157 : decode cX10_resend 157 = .ok (.iaload, 1) := by decide +kernel
theorem dX10_resend_158 : decode cX10_resend 158 = .ok (.iconst 2, 1) := by decide +kernel
theorem dX10_resend_159 : decode cX10_resend 159 = .ok (.if_icmp .ne 37, 3) := by decide +kernel
theorem dX10_resend_162 : decode cX10_resend 162 = .ok (.aload_n 0, 1) := by decide +kernel
theorem dX10_resend_163 : decode cX10_resend 163 = .ok (.getfield 83, 3) := by decide +kernel
theorem dX10_resend_166 : decode cX10_resend 166 = .ok (.iload_n 1, 1) := by decide +kernel
theorem dX10_resend_167 : decode cX10_resend 167 = .ok (.iaload, 1) := by decide +kernel
theorem dX10_resend_168 : decode cX10_resend 168 = .ok (.ifCond .le 28, 3) := by decide +kernel
theorem dX10_resend_171 : decode cX10_resend 171 = .ok (.aload_n 0, 1) := by decide +kernel
theorem dX10_resend_172 : decode cX10_resend 172 = .ok (.iload_n 1, 1) := by decide +kernel
theorem dX10_resend_173 : decode cX10_resend 173 = .ok (.aload_n 0, 1) := by decide +kernel
theorem dX10_resend_174 : decode cX10_resend 174 = .ok (.getfield 92, 3) := by decide +kernel
theorem dX10_resend_177 : decode cX10_resend 177 = .ok (.iload_n 1, 1) := by decide +kernel
theorem dX10_resend_178 : decode cX10_resend 178 = .ok (.iaload, 1) := by decide +kernel
theorem dX10_resend_179 : decode cX10_resend 179 = .ok (.aload_n 0, 1) := by decide +kernel
theorem dX10_resend_180 : decode cX10_resend 180 = .ok (.getfield 95, 3) := by decide +kernel
theorem dX10_resend_183 : decode cX10_resend 183 = .ok (.iload_n 1, 1) := by decide +kernel
theorem dX10_resend_184 : decode cX10_resend 184 = .ok (.iaload, 1) := by decide +kernel
theorem dX10_resend_185 : decode cX10_resend 185 = .ok (.invokevirtual 321, 3) := by decide +kernel
theorem dX10_resend_188 : decode cX10_resend 188 = .ok (.ifCond .eq 8, 3) := by decide +kernel
theorem dX10_resend_191 : decode cX10_resend 191 = .ok (.aload_n 0, 1) := by decide +kernel
theorem dX10_resend_192 : decode cX10_resend 192 = .ok (.iload_n 1, 1) := by decide +kernel
theorem dX10_resend_193 : decode cX10_resend 193 = .ok (.invokevirtual 227, 3) := by decide +kernel
theorem dX10_resend_196 : decode cX10_resend 196 = .ok (.return_, 1) := by decide +kernel
theorem dX10_step_0 : decode cX10_step 0 = .ok (.aload_n 0, 1) := by decide +kernel
