theorem dX10_send_184 : decode cX10_send 184 = .ok (.dup2, 1) := by decide +kernel
theorem dX10_send_185 : decode cX10_send 185 = .ok (.iaload, 1) := by decide +kernel
theorem dX10_send_186 : decode cX10_send 186 = .ok (.iconst 1, 1) := by decide +kernel
theorem dX10_send_187 : decode cX10_send 187 = .ok (.iadd, 1) := by decide +kernel
theorem dX10_send_188 : decode cX10_send 188 = .ok (.iastore, 1) := by decide +kernel
theorem dX10_send_189 : decode cX10_send 189 = .ok (.iinc 3 1, 3) := by decide +kernel
theorem dX10_send_192 : decode cX10_send 192 = .ok (.goto (-130), 3) := by decide +kernel
theorem dX10_send_195 : decode cX10_send 195 = .ok (.aload_n 0, 1) := by decide +kernel
theorem dX10_send_196 : decode cX10_send 196 = .ok (.iconst 0, 1) := by decide +kernel
theorem dX10_send_197 : decode cX10_send 197 = .ok (.putfield 251, 3) := by decide +kernel
theorem dX10_send_200 : decode cX10_send 200 = .ok (.aload_n 0, 1) := by decide +kernel
theorem dX10_send_201 : decode cX10_send 201 = .ok (.iload_n 1, 1) := by decide +kernel
theorem dX10_send_202 : decode cX10_send 202 = .ok (.invokevirtual 256, 3) := by decide +kernel
theorem dX10_send_205 : decode cX10_send 205 = .ok (.aload_n 0, 1) := by decide +kernel
theorem dX10_send_206 : decode cX10_send 206 = .ok (.getfield 50, 3) := by decide +kernel
theorem dX10_send_209 : decode cX10_send 209 = .ok (.iload_n 1, 1) := by decide +kernel
theorem dX10_send_210 : decode cX10_send 210 = .ok (.iaload, 1) := by decide +kernel
theorem dX10_send_211 : decode cX10_send 211 = .ok (.ireturn, 1) := by decide +kernel
theorem dX10_urge_0 : decode cX10_urge 0 = .ok (.iload_n 1, 1) := by decide +kernel
theorem dX10_urge_1 : decode cX10_urge 1 = .ok (.invokestatic 231, 3) := by decide +kernel
theorem dX10_urge_4 : decode cX10_urge 4 = .ok (.ifCond .eq 14, 3) := by decide +kernel
theorem dX10_urge_7 : decode cX10_urge 7 = .ok (.iload_n 2, 1) := by decide +kernel
theorem dX10_urge_8 : decode cX10_urge 8 = .ok (.ifCond .lt 10, 3) := by decide +kernel
theorem dX10_urge_11 : decode cX10_urge 11 = .ok (.iload_n 2, 1) := by decide +kernel
theorem dX10_urge_12 : decode cX10_urge 12 = .ok (.sipush 255, 3) := by decide +kernel
theorem dX10_urge_15 : decode cX10_urge 15 = .ok (.if_icmp .le 5, 3) := by decide +kernel
theorem dX10_urge_18 : decode cX10_urge 18 = .ok (.iconst (-1), 1) := by decide +kernel
theorem dX10_urge_19 : decode cX10_urge 19 = .ok (.ireturn, 1) := by decide +kernel
theorem dX10_urge_20 : decode cX10_urge 20 = .ok (.aload_n 0, 1) := by decide +kernel
theorem dX10_urge_21 : decode cX10_urge 21 = .ok (.getfield 7, 3) := by decide +kernel
theorem dX10_urge_24 : decode cX10_urge 24 = .ok (.iload_n 1, 1) := by decide +kernel
theorem dX10_urge_25 : decode cX10_urge 25 = .ok (.iaload, 1) := by decide +kernel
theorem dX10_urge_26 : decode cX10_urge 26 = .ok (.iconst 2, 1) := by decide +kernel
theorem dX10_urge_27 : decode cX10_urge 27 = .ok (.if_icmp .eq 6, 3) := by decide +kernel
theorem dX10_urge_30 : decode cX10_urge 30 = .ok (.bipush (-2), 2) := by decide +kernel
theorem dX10_urge_32 : decode cX10_urge 32 = .ok (.ireturn, 1) := by decide +kernel
theorem dX10_urge_33 : decode cX10_urge 33 = .ok (.aload_n 0, 1) := by decide +kernel
theorem dX10_urge_34 : decode cX10_urge 34 = .ok (.getfield 83, 3) := by decide +kernel
theorem dX10_urge_37 : decode cX10_urge 37 = .ok (.iload_n 1, 1) := by decide +kernel
theorem dX10_urge_38 : decode cX10_urge 38 = .ok (.iaload, 1) := by decide +kernel
theorem dX10_urge_39 : decode cX10_urge 39 = .ok (.bipush 8, 2) := by decide +kernel
theorem dX10_urge_41 : decode cX10_urge 41 = .ok (.if_icmp .ne 6, 3) := by decide +kernel
theorem dX10_urge_44 : decode cX10_urge 44 = .ok (.bipush (-3), 2) := by decide +kernel
theorem dX10_urge_46 : decode cX10_urge 46 = .ok (.ireturn, 1) := by decide +kernel
theorem dX10_urge_47 : decode cX10_urge 47 = .ok (.aload_n 0, 1) := by decide +kernel
theorem dX10_urge_48 : decode cX10_urge 48 = .ok (.getfield 86, 3) := by decide +kernel
theorem dX10_urge_51 : decode cX10_urge 51 = .ok (.bipush 8, 2) := by decide +kernel
theorem dX10_urge_53 : decode cX10_urge 53 = .ok (.iload_n 1, 1) := by decide +kernel
theorem dX10_urge_54 : decode cX10_urge 54 = .ok (.imul, 1) := by decide +kernel
theorem dX10_urge_55 : decode cX10_urge 55 = .ok (.aload_n 0, 1) := by decide +kernel
theorem dX10_urge_56 : decode cX10_urge 56 = .ok (.getfield 83, 3) := by decide +kernel
theorem dX10_urge_59 : decode cX10_urge 59 = .ok (.iload_n 1, 1) := by decide +kernel
theorem dX10_urge_60 : decode cX10_urge 60 = .ok (.iaload, 1) := by decide +kernel
theorem dX10_urge_61 : decode cX10_urge 61 = .ok (.iadd, 1) := by decide +kernel
theorem dX10_urge_62 : decode cX10_urge 62 = .ok (.iload_n 2, 1) := by decide +kernel
theorem dX10_urge_63 : decode cX10_urge 63 = .ok (.iastore, 1) := by decide +kernel
theorem dX10_urge_64 : decode cX10_urge 64 = .ok (.aload_n 0, 1) := by decide +kernel
theorem dX10_urge_65 : decode cX10_urge 65 = .ok (.getfield 83, 3) := by decide +kernel
theorem dX10_urge_68 : decode cX10_urge 68 = .ok (.iload_n 1, 1) := by decide +kernel
theorem dX10_urge_69 : decode cX10_urge 69 = .ok (.dup2, 1) := by decide +kernel
theorem dX10_urge_70 : decode cX10_urge 70 = .ok (.iaload, 1) := by decide +kernel
theorem dX10_urge_71 : decode cX10_urge 71 = .ok (.iconst 1, 1) := by decide +kernel
theorem dX10_urge_72 : decode cX10_urge 72 = .ok (.iadd, 1) := by decide +kernel
theorem dX10_urge_73 : decode cX10_urge 73 = .ok (.iastore, 1) := by decide +kernel
theorem dX10_urge_74 : decode cX10_urge 74 = .ok (.aload_n 0, 1) := by decide +kernel
theorem dX10_urge_75 : decode cX10_urge 75 = .ok (.iload_n 1, 1) := by decide +kernel
theorem dX10_urge_76 : decode cX10_urge 76 = .ok (.invokevirtual 256, 3) := by decide +kernel
theorem dX10_urge_79 : decode cX10_urge 79 = .ok (.aload_n 0, 1) := by decide +kernel
theorem dX10_urge_80 : decode cX10_urge 80 = .ok (.getfield 83, 3) := by decide +kernel
theorem dX10_urge_83 : decode cX10_urge 83 = .ok (.iload_n 1, 1) := by decide +kernel
theorem dX10_urge_84 : decode cX10_urge 84 = .ok (.iaload, 1) := by decide +kernel
theorem dX10_urge_85 : decode cX10_urge 85 = .ok (.ireturn, 1) := by decide +kernel
theorem dX10_arriveAll_0 : decode cX10_arriveAll 0 = .ok (.aload_n 0, 1) := by decide +kernel
theorem dX10_arriveAll_1 : decode cX10_arriveAll 1 = .ok (.getfield 195, 3) := by decide +kernel
theorem dX10_arriveAll_4 : decode cX10_arriveAll 4 = .ok (.istore_n 1, 1) := by decide +kernel
theorem dX10_arriveAll_5 : decode cX10_arriveAll 5 = .ok (.iconst 0, 1) := by decide +kernel
theorem dX10_arriveAll_6 : decode cX10_arriveAll 6 = .ok (.istore_n 2, 1) := by decide +kernel
theorem dX10_arriveAll_7 : decode cX10_arriveAll 7 = .ok (.iload_n 2, 1) := by decide +kernel
theorem dX10_arriveAll_8 : decode cX10_arriveAll 8 = .ok (.iconst 2, 1) := by decide +kernel
theorem dX10_arriveAll_9 : decode cX10_arriveAll 9 = .ok (.if_icmp .ge 103, 3) := by decide +kernel
theorem dX10_arriveAll_12 : decode cX10_arriveAll 12 = .ok (.aload_n 0, 1) := by decide +kernel
theorem dX10_arriveAll_13 : decode cX10_arriveAll 13 = .ok (.getfield 308, 3) := by decide +kernel
theorem dX10_arriveAll_16 : decode cX10_arriveAll 16 = .ok (.istore_n 3, 1) := by decide +kernel
theorem dX10_arriveAll_17 : decode cX10_arriveAll 17 = .ok (.iload_n 3, 1) := by decide +kernel
theorem dX10_arriveAll_18 : decode cX10_arriveAll 18 = .ok (.iload_n 1, 1) := by decide +kernel
theorem dX10_arriveAll_19 : decode cX10_arriveAll 19 = .ok (.if_icmp .ge 87, 3) := by decide +kernel
theorem dX10_arriveAll_22 : decode cX10_arriveAll 22 = .ok (.aload_n 0, 1) := by decide +kernel
theorem dX10_arriveAll_23 : decode cX10_arriveAll 23 = .ok (.iconst 3, 1) := by decide +kernel
theorem dX10_arriveAll_24 : decode cX10_arriveAll 24 = .ok (.iload_n 3, 1) := by decide +kernel
theorem dX10_arriveAll_25 : decode cX10_arriveAll 25 = .ok (.invokevirtual 311, 3) := by decide +kernel
theorem dX10_arriveAll_28 : decode cX10_arriveAll 28 = .ok (.ifCond .eq 8, 3) := by decide +kernel
theorem dX10_arriveAll_31 : decode cX10_arriveAll 31 = .ok (.bipush 7, 2) := by decide +kernel
theorem dX10_arriveAll_33 : decode cX10_arriveAll 33 = .ok (.goto 4, 3) := by decide +kernel
theorem dX10_arriveAll_36 : decode cX10_arriveAll 36 = .ok (.iconst 2, 1) := by decide +kernel
theorem dX10_arriveAll_37 : decode cX10_arriveAll 37 = .ok (.istore 4, 2) := by decide +kernel
theorem dX10_arriveAll_39 : decode cX10_arriveAll 39 = .ok (.aload_n 0, 1) := by decide +kernel
theorem dX10_arriveAll_40 : decode cX10_arriveAll 40 = .ok (.getfield 174, 3) := by decide +kernel
theorem dX10_arriveAll_43 : decode cX10_arriveAll 43 = .ok (.iload_n 3, 1) := by decide +kernel
theorem dX10_arriveAll_44 : decode cX10_arriveAll 44 = .ok (.sipush 4096, 3) := by decide +kernel
theorem dX10_arriveAll_47 : decode cX10_arriveAll 47 = .ok (.irem, 1) := by decide +kernel
theorem dX10_arriveAll_48 : decode cX10_arriveAll 48 = .ok (.iaload, 1) := by decide +kernel
theorem dX10_arriveAll_49 : decode cX10_arriveAll 49 = .ok (.iload 4, 2) := by decide +kernel
theorem dX10_arriveAll_51 : decode cX10_arriveAll 51 = .ok (.iadd, 1) := by decide +kernel
theorem dX10_arriveAll_52 : decode cX10_arriveAll 52 = .ok (.iload_n 2, 1) := by decide +kernel
theorem dX10_arriveAll_53 : decode cX10_arriveAll 53 = .ok (.iadd, 1) := by decide +kernel
theorem dX10_arriveAll_54 : decode cX10_arriveAll 54 = .ok (.aload_n 0, 1) := by decide +kernel
theorem dX10_arriveAll_55 : decode cX10_arriveAll 55 = .ok (.getfield 198, 3) := by decide +kernel
theorem dX10_arriveAll_58 : decode cX10_arriveAll 58 = .ok (.if_icmp .ne 29, 3) := by decide +kernel
theorem dX10_arriveAll_61 : decode cX10_arriveAll 61 = .ok (.aload_n 0, 1) := by decide +kernel
theorem dX10_arriveAll_62 : decode cX10_arriveAll 62 = .ok (.iconst 1, 1) := by decide +kernel
theorem dX10_arriveAll_63 : decode cX10_arriveAll 63 = .ok (.iload_n 3, 1) := by decide +kernel
theorem dX10_arriveAll_64 : decode cX10_arriveAll 64 = .ok (.invokevirtual 311, 3) := by decide +kernel
theorem dX10_arriveAll_67 : decode cX10_arriveAll 67 = .ok (.ifCond .ne 20, 3) := by decide +kernel
theorem dX10_arriveAll_70 : decode cX10_arriveAll 70 = .ok (.iload_n 2, 1) := by decide +kernel
theorem dX10_arriveAll_71 : decode cX10_arriveAll 71 = .ok (.ifCond .eq 12, 3) := by decide +kernel
theorem dX10_arriveAll_74 : decode cX10_arriveAll 74 = .ok (.aload_n 0, 1) := by decide +kernel
theorem dX10_arriveAll_75 : decode cX10_arriveAll 75 = .ok (.iconst 2, 1) := by decide +kernel
theorem dX10_arriveAll_76 : decode cX10_arriveAll 76 = .ok (.iload_n 3, 1) := by decide +kernel
theorem dX10_arriveAll_77 : decode cX10_arriveAll 77 = .ok (.invokevirtual 311, 3) := by decide +kernel
theorem dX10_arriveAll_80 : decode cX10_arriveAll 80 = .ok (.ifCond .eq 7, 3) := by decide +kernel
theorem dX10_arriveAll_83 : decode cX10_arriveAll 83 = .ok (.iconst 1, 1) := by decide +kernel
theorem dX10_arriveAll_84 : decode cX10_arriveAll 84 = .ok (.goto 4, 3) := by decide +kernel
theorem dX10_arriveAll_87 : decode cX10_arriveAll 87 = .ok (.iconst 0, 1) := by decide +kernel
theorem dX10_arriveAll_88 : decode cX10_arriveAll 88 = .ok (.istore 5, 2) := by decide +kernel
theorem dX10_arriveAll_90 : decode cX10_arriveAll 90 = .ok (.iload 5, 2) := by decide +kernel
theorem dX10_arriveAll_92 : decode cX10_arriveAll 92 = .ok (.ifCond .eq 8, 3) := by decide +kernel
theorem dX10_arriveAll_95 : decode cX10_arriveAll 95 = .ok (.aload_n 0, 1) := by decide +kernel
theorem dX10_arriveAll_96 : decode cX10_arriveAll 96 = .ok (.iload_n 3, 1) := by decide +kernel
theorem dX10_arriveAll_97 : decode cX10_arriveAll 97 = .ok (.invokevirtual 315, 3) := by decide +kernel
theorem dX10_arriveAll_100 : decode cX10_arriveAll 100 = .ok (.iinc 3 1, 3) := by decide +kernel
theorem dX10_arriveAll_103 : decode cX10_arriveAll 103 = .ok (.goto (-86), 3) := by decide +kernel
theorem dX10_arriveAll_106 : decode cX10_arriveAll 106 = .ok (.iinc 2 1, 3) := by decide +kernel
theorem dX10_arriveAll_109 : decode cX10_arriveAll 109 = .ok (.goto (-102), 3) := by decide +kernel
theorem dX10_arriveAll_112 : decode cX10_arriveAll 112 = .ok (.aload_n 0, 1) := by decide +kernel
theorem dX10_arriveAll_113 : decode cX10_arriveAll 113 = .ok (.getfield 308, 3) := by decide +kernel
theorem dX10_arriveAll_116 : decode cX10_arriveAll 116 = .ok (.iload_n 1, 1) := by decide +kernel
theorem dX10_arriveAll_117 : decode cX10_arriveAll 117 = .ok (.if_icmp .ge 39, 3) := by decide +kernel
theorem dX10_arriveAll_120 : decode cX10_arriveAll 120 = .ok (.aload_n 0, 1) := by decide +kernel
theorem dX10_arriveAll_121 : decode cX10_arriveAll 121 = .ok (.getfield 174, 3) := by decide +kernel
theorem dX10_arriveAll_124 : decode cX10_arriveAll 124 = .ok (.aload_n 0, 1) := by decide +kernel
theorem dX10_arriveAll_125 : decode cX10_arriveAll 125 = .ok (.getfield 308, 3) := by decide +kernel
theorem dX10_arriveAll_128 : decode cX10_arriveAll 128 = .ok (.sipush 4096, 3) := by decide +kernel
theorem dX10_arriveAll_131 : decode cX10_arriveAll 131 = .ok (.irem, 1) := by decide +kernel
theorem dX10_arriveAll_132 : decode cX10_arriveAll 132 = .ok (.iaload, 1) := by decide +kernel
theorem dX10_arriveAll_133 : decode cX10_arriveAll 133 = .ok (.bipush 8, 2) := by decide +kernel
theorem dX10_arriveAll_135 : decode cX10_arriveAll 135 = .ok (.iadd, 1) := by decide +kernel
theorem dX10_arriveAll_136 : decode cX10_arriveAll 136 = .ok (.aload_n 0, 1) := by decide +kernel
theorem dX10_arriveAll_137 : decode cX10_arriveAll 137 = .ok (.getfield 198, 3) := by decide +kernel
theorem dX10_arriveAll_140 : decode cX10_arriveAll 140 = .ok (.if_icmp .gt 16, 3) := by decide +kernel
theorem dX10_arriveAll_143 : decode cX10_arriveAll 143 = .ok (.aload_n 0, 1) := by decide +kernel
theorem dX10_arriveAll_144 : decode cX10_arriveAll 144 = .ok (.dup, 1) := by decide +kernel
theorem dX10_arriveAll_145 : decode cX10_arriveAll 145 = .ok (.getfield 308, 3) := by decide +kernel
theorem dX10_arriveAll_148 : decode cX10_arriveAll 148 = .ok (.iconst 1, 1) := by decide +kernel
theorem dX10_arriveAll_149 : decode cX10_arriveAll 149 = .ok (.iadd, 1) := by decide +kernel
theorem dX10_arriveAll_150 : decode cX10_arriveAll 150 = .ok (.putfield 308, 3) := by decide +kernel
theorem dX10_arriveAll_153 : decode cX10_arriveAll 153 = .ok (.goto (-41), 3) := by decide +kernel
theorem dX10_arriveAll_156 : decode cX10_arriveAll 156 = .ok (.return_, 1) := by decide +kernel
theorem dX10_isDue_0 : decode cX10_isDue 0 = .ok (.aload_n 0, 1) := by decide +kernel
theorem dX10_isDue_1 : decode cX10_isDue 1 = .ok (.getfield 7, 3) := by decide +kernel
theorem dX10_isDue_4 : decode cX10_isDue 4 = .ok (.iload_n 1, 1) := by decide +kernel
theorem dX10_isDue_5 : decode cX10_isDue 5 = .ok (.iaload, 1) := by decide +kernel
theorem dX10_isDue_6 : decode cX10_isDue 6 = .ok (.iconst 1, 1) := by decide +kernel
theorem dX10_isDue_7 : decode cX10_isDue 7 = .ok (.if_icmp .lt 28, 3) := by decide +kernel
theorem dX10_isDue_10 : decode cX10_isDue 10 = .ok (.aload_n 0, 1) := by decide +kernel
theorem dX10_isDue_11 : decode cX10_isDue 11 = .ok (.getfield 7, 3) := by decide +kernel
theorem dX10_isDue_14 : decode cX10_isDue 14 = .ok (.iload_n 1, 1) := by decide +kernel
theorem dX10_isDue_15 : decode cX10_isDue 15 = .ok (.iaload, 1) := by decide +kernel
theorem dX10_isDue_16 : decode cX10_isDue 16 = .ok (.iconst 3, 1) := by decide +kernel
theorem dX10_isDue_17 : decode cX10_isDue 17 = .ok (.if_icmp .gt 18, 3) := by decide +kernel
theorem dX10_isDue_20 : decode cX10_isDue 20 = .ok (.iload_n 2, 1) := by decide +kernel
theorem dX10_isDue_21 : decode cX10_isDue 21 = .ok (.ifCond .eq 14, 3) := by decide +kernel
theorem dX10_isDue_24 : decode cX10_isDue 24 = .ok (.aload_n 0, 1) := by decide +kernel
theorem dX10_isDue_25 : decode cX10_isDue 25 = .ok (.getfield 198, 3) := by decide +kernel
theorem dX10_isDue_28 : decode cX10_isDue 28 = .ok (.iload_n 3, 1) := by decide +kernel
theorem dX10_isDue_29 : decode cX10_isDue 29 = .ok (.isub, 1) := by decide +kernel
theorem dX10_isDue_30 : decode cX10_isDue 30 = .ok (.bipush 8, 2) := by decide +kernel
theorem dX10_isDue_32 : decode cX10_isDue 32 = .ok (.if_icmp .ge 5, 3) := by decide +kernel
theorem dX10_isDue_35 : decode cX10_isDue 35 = .ok (.iconst 0, 1) := by decide +kernel
theorem dX10_isDue_36 : decode cX10_isDue 36 = .ok (.ireturn, 1) := by decide +kernel
theorem dX10_isDue_37 : decode cX10_isDue 37 = .ok (.iload_n 2, 1) := by decide +kernel
theorem dX10_isDue_38 : decode cX10_isDue 38 = .ok (.iconst 4, 1) := by decide +kernel
theorem dX10_isDue_39 : decode cX10_isDue 39 = .ok (.if_icmp .ne 8, 3) := by decide +kernel
theorem dX10_isDue_42 : decode cX10_isDue 42 = .ok (.aload_n 0, 1) := by decide +kernel
theorem dX10_isDue_43 : decode cX10_isDue 43 = .ok (.iload_n 1, 1) := by decide +kernel
theorem dX10_isDue_44 : decode cX10_isDue 44 = .ok (.invokevirtual 318, 3) := by decide +kernel
theorem dX10_isDue_47 : decode cX10_isDue 47 = .ok (.iload_n 2, 1) := by decide +kernel
theorem dX10_isDue_48 : decode cX10_isDue 48 = .ok (.iconst 4, 1) := by decide +kernel
theorem dX10_isDue_49 : decode cX10_isDue 49 = .ok (.if_icmp .ge 7, 3) := by decide +kernel
theorem dX10_isDue_52 : decode cX10_isDue 52 = .ok (.iconst 1, 1) := by decide +kernel
theorem dX10_isDue_53 : decode cX10_isDue 53 = .ok (.goto 4, 3) := by decide +kernel
theorem dX10_isDue_56 : decode cX10_isDue 56 = .ok (.iconst 0, 1) := by decide +kernel
