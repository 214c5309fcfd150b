theorem dX10_sendPiece_88 : decode cX10_sendPiece 88 = .ok (.invokevirtual 208, 3) := by decide +kernel
theorem dX10_sendPiece_91 : decode cX10_sendPiece 91 = .ok (.aload_n 0, 1) := by decide +kernel
theorem dX10_sendPiece_92 : decode cX10_sendPiece 92 = .ok (.iload_n 1, 1) := by decide +kernel
theorem dX10_sendPiece_93 : decode cX10_sendPiece 93 = .ok (.invokevirtual 211, 3) := by decide +kernel
theorem dX10_sendPiece_96 : decode cX10_sendPiece 96 = .ok (.aload_n 0, 1) := by decide +kernel
theorem dX10_sendPiece_97 : decode cX10_sendPiece 97 = .ok (.getfield 65, 3) := by decide +kernel
theorem dX10_sendPiece_100 : decode cX10_sendPiece 100 = .ok (.iload_n 3, 1) := by decide +kernel
theorem dX10_sendPiece_101 : decode cX10_sendPiece 101 = .ok (.dup2, 1) := by decide +kernel
theorem dX10_sendPiece_102 : decode cX10_sendPiece 102 = .ok (.iaload, 1) := by decide +kernel
theorem dX10_sendPiece_103 : decode cX10_sendPiece 103 = .ok (.iconst 1, 1) := by decide +kernel
theorem dX10_sendPiece_104 : decode cX10_sendPiece 104 = .ok (.iadd, 1) := by decide +kernel
theorem dX10_sendPiece_105 : decode cX10_sendPiece 105 = .ok (.iastore, 1) := by decide +kernel
theorem dX10_sendPiece_106 : decode cX10_sendPiece 106 = .ok (.aload_n 0, 1) := by decide +kernel
theorem dX10_sendPiece_107 : decode cX10_sendPiece 107 = .ok (.getfield 68, 3) := by decide +kernel
theorem dX10_sendPiece_110 : decode cX10_sendPiece 110 = .ok (.iload_n 3, 1) := by decide +kernel
theorem dX10_sendPiece_111 : decode cX10_sendPiece 111 = .ok (.aload_n 0, 1) := by decide +kernel
theorem dX10_sendPiece_112 : decode cX10_sendPiece 112 = .ok (.getfield 198, 3) := by decide +kernel
theorem dX10_sendPiece_115 : decode cX10_sendPiece 115 = .ok (.iastore, 1) := by decide +kernel
theorem dX10_sendPiece_116 : decode cX10_sendPiece 116 = .ok (.return_, 1) := by decide +kernel
theorem dX10_sendUrge_0 : decode cX10_sendUrge 0 = .ok (.aload_n 0, 1) := by decide +kernel
theorem dX10_sendUrge_1 : decode cX10_sendUrge 1 = .ok (.bipush 16, 2) := by decide +kernel
theorem dX10_sendUrge_3 : decode cX10_sendUrge 3 = .ok (.aload_n 0, 1) := by decide +kernel
theorem dX10_sendUrge_4 : decode cX10_sendUrge 4 = .ok (.getfield 16, 3) := by decide +kernel
theorem dX10_sendUrge_7 : decode cX10_sendUrge 7 = .ok (.iload_n 1, 1) := by decide +kernel
theorem dX10_sendUrge_8 : decode cX10_sendUrge 8 = .ok (.iaload, 1) := by decide +kernel
theorem dX10_sendUrge_9 : decode cX10_sendUrge 9 = .ok (.invokevirtual 201, 3) := by decide +kernel
theorem dX10_sendUrge_12 : decode cX10_sendUrge 12 = .ok (.aload_n 0, 1) := by decide +kernel
theorem dX10_sendUrge_13 : decode cX10_sendUrge 13 = .ok (.aload_n 0, 1) := by decide +kernel
theorem dX10_sendUrge_14 : decode cX10_sendUrge 14 = .ok (.getfield 89, 3) := by decide +kernel
theorem dX10_sendUrge_17 : decode cX10_sendUrge 17 = .ok (.iload_n 1, 1) := by decide +kernel
theorem dX10_sendUrge_18 : decode cX10_sendUrge 18 = .ok (.iaload, 1) := by decide +kernel
theorem dX10_sendUrge_19 : decode cX10_sendUrge 19 = .ok (.invokevirtual 187, 3) := by decide +kernel
theorem dX10_sendUrge_22 : decode cX10_sendUrge 22 = .ok (.aload_n 0, 1) := by decide +kernel
theorem dX10_sendUrge_23 : decode cX10_sendUrge 23 = .ok (.invokevirtual 205, 3) := by decide +kernel
theorem dX10_sendUrge_26 : decode cX10_sendUrge 26 = .ok (.aload_n 0, 1) := by decide +kernel
theorem dX10_sendUrge_27 : decode cX10_sendUrge 27 = .ok (.aload_n 0, 1) := by decide +kernel
theorem dX10_sendUrge_28 : decode cX10_sendUrge 28 = .ok (.getfield 86, 3) := by decide +kernel
theorem dX10_sendUrge_31 : decode cX10_sendUrge 31 = .ok (.bipush 8, 2) := by decide +kernel
theorem dX10_sendUrge_33 : decode cX10_sendUrge 33 = .ok (.iload_n 1, 1) := by decide +kernel
theorem dX10_sendUrge_34 : decode cX10_sendUrge 34 = .ok (.imul, 1) := by decide +kernel
theorem dX10_sendUrge_35 : decode cX10_sendUrge 35 = .ok (.iaload, 1) := by decide +kernel
theorem dX10_sendUrge_36 : decode cX10_sendUrge 36 = .ok (.invokevirtual 187, 3) := by decide +kernel
theorem dX10_sendUrge_39 : decode cX10_sendUrge 39 = .ok (.aload_n 0, 1) := by decide +kernel
theorem dX10_sendUrge_40 : decode cX10_sendUrge 40 = .ok (.invokevirtual 208, 3) := by decide +kernel
theorem dX10_sendUrge_43 : decode cX10_sendUrge 43 = .ok (.aload_n 0, 1) := by decide +kernel
theorem dX10_sendUrge_44 : decode cX10_sendUrge 44 = .ok (.iload_n 1, 1) := by decide +kernel
theorem dX10_sendUrge_45 : decode cX10_sendUrge 45 = .ok (.invokevirtual 211, 3) := by decide +kernel
theorem dX10_sendUrge_48 : decode cX10_sendUrge 48 = .ok (.aload_n 0, 1) := by decide +kernel
theorem dX10_sendUrge_49 : decode cX10_sendUrge 49 = .ok (.getfield 92, 3) := by decide +kernel
theorem dX10_sendUrge_52 : decode cX10_sendUrge 52 = .ok (.iload_n 1, 1) := by decide +kernel
theorem dX10_sendUrge_53 : decode cX10_sendUrge 53 = .ok (.dup2, 1) := by decide +kernel
theorem dX10_sendUrge_54 : decode cX10_sendUrge 54 = .ok (.iaload, 1) := by decide +kernel
theorem dX10_sendUrge_55 : decode cX10_sendUrge 55 = .ok (.iconst 1, 1) := by decide +kernel
theorem dX10_sendUrge_56 : decode cX10_sendUrge 56 = .ok (.iadd, 1) := by decide +kernel
theorem dX10_sendUrge_57 : decode cX10_sendUrge 57 = .ok (.iastore, 1) := by decide +kernel
theorem dX10_sendUrge_58 : decode cX10_sendUrge 58 = .ok (.aload_n 0, 1) := by decide +kernel
theorem dX10_sendUrge_59 : decode cX10_sendUrge 59 = .ok (.getfield 95, 3) := by decide +kernel
theorem dX10_sendUrge_62 : decode cX10_sendUrge 62 = .ok (.iload_n 1, 1) := by decide +kernel
theorem dX10_sendUrge_63 : decode cX10_sendUrge 63 = .ok (.aload_n 0, 1) := by decide +kernel
theorem dX10_sendUrge_64 : decode cX10_sendUrge 64 = .ok (.getfield 198, 3) := by decide +kernel
theorem dX10_sendUrge_67 : decode cX10_sendUrge 67 = .ok (.iastore, 1) := by decide +kernel
theorem dX10_sendUrge_68 : decode cX10_sendUrge 68 = .ok (.return_, 1) := by decide +kernel
theorem dX10_goOn_0 : decode cX10_goOn 0 = .ok (.aload_n 0, 1) := by decide +kernel
theorem dX10_goOn_1 : decode cX10_goOn 1 = .ok (.getfield 7, 3) := by decide +kernel
theorem dX10_goOn_4 : decode cX10_goOn 4 = .ok (.iload_n 1, 1) := by decide +kernel
theorem dX10_goOn_5 : decode cX10_goOn 5 = .ok (.iaload, 1) := by decide +kernel
theorem dX10_goOn_6 : decode cX10_goOn 6 = .ok (.iconst 2, 1) := by decide +kernel
theorem dX10_goOn_7 : decode cX10_goOn 7 = .ok (.if_icmp .ne 117, 3) := by decide +kernel
theorem dX10_goOn_10 : decode cX10_goOn 10 = .ok (.aload_n 0, 1) := by decide +kernel
theorem dX10_goOn_11 : decode cX10_goOn 11 = .ok (.getfield 53, 3) := by decide +kernel
theorem dX10_goOn_14 : decode cX10_goOn 14 = .ok (.iload_n 1, 1) := by decide +kernel
theorem dX10_goOn_15 : decode cX10_goOn 15 = .ok (.iaload, 1) := by decide +kernel
theorem dX10_goOn_16 : decode cX10_goOn 16 = .ok (.aload_n 0, 1) := by decide +kernel
theorem dX10_goOn_17 : decode cX10_goOn 17 = .ok (.getfield 50, 3) := by decide +kernel
theorem dX10_goOn_20 : decode cX10_goOn 20 = .ok (.iload_n 1, 1) := by decide +kernel
theorem dX10_goOn_21 : decode cX10_goOn 21 = .ok (.iaload, 1) := by decide +kernel
theorem dX10_goOn_22 : decode cX10_goOn 22 = .ok (.if_icmp .ge 102, 3) := by decide +kernel
theorem dX10_goOn_25 : decode cX10_goOn 25 = .ok (.aload_n 0, 1) := by decide +kernel
theorem dX10_goOn_26 : decode cX10_goOn 26 = .ok (.getfield 74, 3) := by decide +kernel
theorem dX10_goOn_29 : decode cX10_goOn 29 = .ok (.iload_n 1, 1) := by decide +kernel
theorem dX10_goOn_30 : decode cX10_goOn 30 = .ok (.iaload, 1) := by decide +kernel
theorem dX10_goOn_31 : decode cX10_goOn 31 = .ok (.aload_n 0, 1) := by decide +kernel
theorem dX10_goOn_32 : decode cX10_goOn 32 = .ok (.getfield 77, 3) := by decide +kernel
theorem dX10_goOn_35 : decode cX10_goOn 35 = .ok (.iload_n 1, 1) := by decide +kernel
theorem dX10_goOn_36 : decode cX10_goOn 36 = .ok (.iaload, 1) := by decide +kernel
theorem dX10_goOn_37 : decode cX10_goOn 37 = .ok (.isub, 1) := by decide +kernel
theorem dX10_goOn_38 : decode cX10_goOn 38 = .ok (.invokestatic 221, 3) := by decide +kernel
theorem dX10_goOn_41 : decode cX10_goOn 41 = .ok (.aload_n 0, 1) := by decide +kernel
theorem dX10_goOn_42 : decode cX10_goOn 42 = .ok (.getfield 80, 3) := by decide +kernel
theorem dX10_goOn_45 : decode cX10_goOn 45 = .ok (.iload_n 1, 1) := by decide +kernel
theorem dX10_goOn_46 : decode cX10_goOn 46 = .ok (.iaload, 1) := by decide +kernel
theorem dX10_goOn_47 : decode cX10_goOn 47 = .ok (.if_icmp .ge 77, 3) := by decide +kernel
theorem dX10_goOn_50 : decode cX10_goOn 50 = .ok (.bipush 40, 2) := by decide +kernel
theorem dX10_goOn_52 : decode cX10_goOn 52 = .ok (.iload_n 1, 1) := by decide +kernel
theorem dX10_goOn_53 : decode cX10_goOn 53 = .ok (.imul, 1) := by decide +kernel
theorem dX10_goOn_54 : decode cX10_goOn 54 = .ok (.aload_n 0, 1) := by decide +kernel
theorem dX10_goOn_55 : decode cX10_goOn 55 = .ok (.getfield 53, 3) := by decide +kernel
theorem dX10_goOn_58 : decode cX10_goOn 58 = .ok (.iload_n 1, 1) := by decide +kernel
theorem dX10_goOn_59 : decode cX10_goOn 59 = .ok (.iaload, 1) := by decide +kernel
theorem dX10_goOn_60 : decode cX10_goOn 60 = .ok (.iadd, 1) := by decide +kernel
theorem dX10_goOn_61 : decode cX10_goOn 61 = .ok (.istore_n 2, 1) := by decide +kernel
theorem dX10_goOn_62 : decode cX10_goOn 62 = .ok (.aload_n 0, 1) := by decide +kernel
theorem dX10_goOn_63 : decode cX10_goOn 63 = .ok (.getfield 62, 3) := by decide +kernel
theorem dX10_goOn_66 : decode cX10_goOn 66 = .ok (.iload_n 2, 1) := by decide +kernel
theorem dX10_goOn_67 : decode cX10_goOn 67 = .ok (.aload_n 0, 1) := by decide +kernel
theorem dX10_goOn_68 : decode cX10_goOn 68 = .ok (.getfield 74, 3) := by decide +kernel
theorem dX10_goOn_71 : decode cX10_goOn 71 = .ok (.iload_n 1, 1) := by decide +kernel
theorem dX10_goOn_72 : decode cX10_goOn 72 = .ok (.iaload, 1) := by decide +kernel
theorem dX10_goOn_73 : decode cX10_goOn 73 = .ok (.iastore, 1) := by decide +kernel
theorem dX10_goOn_74 : decode cX10_goOn 74 = .ok (.aload_n 0, 1) := by decide +kernel
theorem dX10_goOn_75 : decode cX10_goOn 75 = .ok (.getfield 65, 3) := by decide +kernel
theorem dX10_goOn_78 : decode cX10_goOn 78 = .ok (.iload_n 2, 1) := by decide +kernel
theorem dX10_goOn_79 : decode cX10_goOn 79 = .ok (.iconst 0, 1) := by decide +kernel
theorem dX10_goOn_80 : decode cX10_goOn 80 = .ok (.iastore, 1) := by decide +kernel
theorem dX10_goOn_81 : decode cX10_goOn 81 = .ok (.aload_n 0, 1) := by decide +kernel
theorem dX10_goOn_82 : decode cX10_goOn 82 = .ok (.getfield 74, 3) := by decide +kernel
theorem dX10_goOn_85 : decode cX10_goOn 85 = .ok (.iload_n 1, 1) := by decide +kernel
theorem dX10_goOn_86 : decode cX10_goOn 86 = .ok (.aload_n 0, 1) := by decide +kernel
theorem dX10_goOn_87 : decode cX10_goOn 87 = .ok (.getfield 74, 3) := by decide +kernel
theorem dX10_goOn_90 : decode cX10_goOn 90 = .ok (.iload_n 1, 1) := by decide +kernel
theorem dX10_goOn_91 : decode cX10_goOn 91 = .ok (.iaload, 1) := by decide +kernel
theorem dX10_goOn_92 : decode cX10_goOn 92 = .ok (.iconst 1, 1) := by decide +kernel
theorem dX10_goOn_93 : decode cX10_goOn 93 = .ok (.iadd, 1) := by decide +kernel
theorem dX10_goOn_94 : decode cX10_goOn 94 = .ok (.invokestatic 221, 3) := by decide +kernel
theorem dX10_goOn_97 : decode cX10_goOn 97 = .ok (.iastore, 1) := by decide +kernel
theorem dX10_goOn_98 : decode cX10_goOn 98 = .ok (.aload_n 0, 1) := by decide +kernel
theorem dX10_goOn_99 : decode cX10_goOn 99 = .ok (.getfield 53, 3) := by decide +kernel
theorem dX10_goOn_102 : decode cX10_goOn 102 = .ok (.iload_n 1, 1) := by decide +kernel
theorem dX10_goOn_103 : decode cX10_goOn 103 = .ok (.dup2, 1) := by decide +kernel
theorem dX10_goOn_104 : decode cX10_goOn 104 = .ok (.iaload, 1) := by decide +kernel
theorem dX10_goOn_105 : decode cX10_goOn 105 = .ok (.iconst 1, 1) := by decide +kernel
theorem dX10_goOn_106 : decode cX10_goOn 106 = .ok (.iadd, 1) := by decide +kernel
theorem dX10_goOn_107 : decode cX10_goOn 107 = .ok (.iastore, 1) := by decide +kernel
theorem dX10_goOn_108 : decode cX10_goOn 108 = .ok (.aload_n 0, 1) := by decide +kernel
theorem dX10_goOn_109 : decode cX10_goOn 109 = .ok (.iload_n 1, 1) := by decide +kernel
theorem dX10_goOn_110 : decode cX10_goOn 110 = .ok (.aload_n 0, 1) := by decide +kernel
theorem dX10_goOn_111 : decode cX10_goOn 111 = .ok (.getfield 53, 3) := by decide +kernel
theorem dX10_goOn_114 : decode cX10_goOn 114 = .ok (.iload_n 1, 1) := by decide +kernel
theorem dX10_goOn_115 : decode cX10_goOn 115 = .ok (.iaload, 1) := by decide +kernel
theorem dX10_goOn_116 : decode cX10_goOn 116 = .ok (.iconst 1, 1) := by decide +kernel
theorem dX10_goOn_117 : decode cX10_goOn 117 = .ok (.isub, 1) := by decide +kernel
theorem dX10_goOn_118 : decode cX10_goOn 118 = .ok (.invokevirtual 224, 3) := by decide +kernel
theorem dX10_goOn_121 : decode cX10_goOn 121 = .ok (.goto (-121), 3) := by decide +kernel
theorem dX10_goOn_124 : decode cX10_goOn 124 = .ok (.aload_n 0, 1) := by decide +kernel
theorem dX10_goOn_125 : decode cX10_goOn 125 = .ok (.getfield 7, 3) := by decide +kernel
theorem dX10_goOn_128 : decode cX10_goOn 128 = .ok (.iload_n 1, 1) := by decide +kernel
theorem dX10_goOn_129 : decode cX10_goOn 129 = .ok (.iaload, 1) := by decide +kernel
theorem dX10_goOn_130 : decode cX10_goOn 130 = .ok (.iconst 2, 1) := by decide +kernel
theorem dX10_goOn_131 : decode cX10_goOn 131 = .ok (.if_icmp .ne 26, 3) := by decide +kernel
theorem dX10_goOn_134 : decode cX10_goOn 134 = .ok (.aload_n 0, 1) := by decide +kernel
theorem dX10_goOn_135 : decode cX10_goOn 135 = .ok (.getfield 83, 3) := by decide +kernel
theorem dX10_goOn_138 : decode cX10_goOn 138 = .ok (.iload_n 1, 1) := by decide +kernel
theorem dX10_goOn_139 : decode cX10_goOn 139 = .ok (.iaload, 1) := by decide +kernel
theorem dX10_goOn_140 : decode cX10_goOn 140 = .ok (.ifCond .le 17, 3) := by decide +kernel
theorem dX10_goOn_143 : decode cX10_goOn 143 = .ok (.aload_n 0, 1) := by decide +kernel
theorem dX10_goOn_144 : decode cX10_goOn 144 = .ok (.getfield 92, 3) := by decide +kernel
theorem dX10_goOn_147 : decode cX10_goOn 147 = .ok (.iload_n 1, 1) := by decide +kernel
theorem dX10_goOn_148 : decode cX10_goOn 148 = .ok (.iaload, 1) := by decide +kernel
theorem dX10_goOn_149 : decode cX10_goOn 149 = .ok (.ifCond .ne 8, 3) := by decide +kernel
theorem dX10_goOn_152 : decode cX10_goOn 152 = .ok (.aload_n 0, 1) := by decide +kernel
theorem dX10_goOn_153 : decode cX10_goOn 153 = .ok (.iload_n 1, 1) := by decide +kernel
theorem dX10_goOn_154 : decode cX10_goOn 154 = .ok (.invokevirtual 227, 3) := by decide +kernel
theorem dX10_goOn_157 : decode cX10_goOn 157 = .ok (.return_, 1) := by decide +kernel
theorem dX10_fresh_0 : decode cX10_fresh 0 = .ok (.aload_n 0, 1) := by decide +kernel
theorem dX10_fresh_1 : decode cX10_fresh 1 = .ok (.getfield 13, 3) := by decide +kernel
theorem dX10_fresh_4 : decode cX10_fresh 4 = .ok (.iload_n 1, 1) := by decide +kernel
theorem dX10_fresh_5 : decode cX10_fresh 5 = .ok (.aload_n 0, 1) := by decide +kernel
theorem dX10_fresh_6 : decode cX10_fresh 6 = .ok (.getfield 13, 3) := by decide +kernel
theorem dX10_fresh_9 : decode cX10_fresh 9 = .ok (.iload_n 1, 1) := by decide +kernel
theorem dX10_fresh_10 : decode cX10_fresh 10 = .ok (.iaload, 1) := by decide +kernel
theorem dX10_fresh_11 : decode cX10_fresh 11 = .ok (.ldc 230, 2) := by decide +kernel
theorem dX10_fresh_13 : decode cX10_fresh 13 = .ok (.if_icmp .ne 7, 3) := by decide +kernel
theorem dX10_fresh_16 : decode cX10_fresh 16 = .ok (.iconst 1, 1) := by decide +kernel
theorem dX10_fresh_17 : decode cX10_fresh 17 = .ok (.goto 11, 3) := by decide +kernel
theorem dX10_fresh_20 : decode cX10_fresh 20 = .ok (.aload_n 0, 1) := by decide +kernel
theorem dX10_fresh_21 : decode cX10_fresh 21 = .ok (.getfield 13, 3) := by decide +kernel
theorem dX10_fresh_24 : decode cX10_fresh 24 = .ok (.iload_n 1, 1) := by decide +kernel
theorem dX10_fresh_25 : decode cX10_fresh 25 = .ok (.iaload, 1) := by decide +kernel
theorem dX10_fresh_26 : decode cX10_fresh 26 = .ok (.iconst 1, 1) := by decide +kernel
theorem dX10_fresh_27 : decode cX10_fresh 27 = .ok (.iadd, 1) := by decide +kernel
theorem dX10_fresh_28 : decode cX10_fresh 28 = .ok (.iastore, 1) := by decide +kernel
theorem dX10_fresh_29 : decode cX10_fresh 29 = .ok (.aload_n 0, 1) := by decide +kernel
theorem dX10_fresh_30 : decode cX10_fresh 30 = .ok (.getfield 23, 3) := by decide +kernel
theorem dX10_fresh_33 : decode cX10_fresh 33 = .ok (.iload_n 1, 1) := by decide +kernel
theorem dX10_fresh_34 : decode cX10_fresh 34 = .ok (.iconst (-1), 1) := by decide +kernel
theorem dX10_fresh_35 : decode cX10_fresh 35 = .ok (.iastore, 1) := by decide +kernel
theorem dX10_fresh_36 : decode cX10_fresh 36 = .ok (.aload_n 0, 1) := by decide +kernel
theorem dX10_fresh_37 : decode cX10_fresh 37 = .ok (.getfield 50, 3) := by decide +kernel
theorem dX10_fresh_40 : decode cX10_fresh 40 = .ok (.iload_n 1, 1) := by decide +kernel
theorem dX10_fresh_41 : decode cX10_fresh 41 = .ok (.iconst 0, 1) := by decide +kernel
theorem dX10_fresh_42 : decode cX10_fresh 42 = .ok (.iastore, 1) := by decide +kernel
theorem dX10_fresh_43 : decode cX10_fresh 43 = .ok (.aload_n 0, 1) := by decide +kernel
theorem dX10_fresh_44 : decode cX10_fresh 44 = .ok (.getfield 53, 3) := by decide +kernel
theorem dX10_fresh_47 : decode cX10_fresh 47 = .ok (.iload_n 1, 1) := by decide +kernel
theorem dX10_fresh_48 : decode cX10_fresh 48 = .ok (.iconst 0, 1) := by decide +kernel
theorem dX10_fresh_49 : decode cX10_fresh 49 = .ok (.iastore, 1) := by decide +kernel
theorem dX10_fresh_50 : decode cX10_fresh 50 = .ok (.aload_n 0, 1) := by decide +kernel
theorem dX10_fresh_51 : decode cX10_fresh 51 = .ok (.getfield 74, 3) := by decide +kernel
theorem dX10_fresh_54 : decode cX10_fresh 54 = .ok (.iload_n 1, 1) := by decide +kernel
theorem dX10_fresh_55 : decode cX10_fresh 55 = .ok (.iconst 0, 1) := by decide +kernel
theorem dX10_fresh_56 : decode cX10_fresh 56 = .ok (.iastore, 1) := by decide +kernel
theorem dX10_fresh_57 : decode cX10_fresh 57 = .ok (.aload_n 0, 1) := by decide +kernel
theorem dX10_fresh_58 : decode cX10_fresh 58 = .ok (.getfield 77, 3) := by decide +kernel
theorem dX10_fresh_61 : decode cX10_fresh 61 = .ok (.iload_n 1, 1) := by decide +kernel
theorem dX10_fresh_62 : decode cX10_fresh 62 = .ok (.iconst 0, 1) := by decide +kernel
theorem dX10_fresh_63 : decode cX10_fresh 63 = .ok (.iastore, 1) := by decide +kernel
theorem dX10_fresh_64 : decode cX10_fresh 64 = .ok (.aload_n 0, 1) := by decide +kernel
theorem dX10_fresh_65 : decode cX10_fresh 65 = .ok (.getfield 80, 3) := by decide +kernel
theorem dX10_fresh_68 : decode cX10_fresh 68 = .ok (.iload_n 1, 1) := by decide +kernel
theorem dX10_fresh_69 : decode cX10_fresh 69 = .ok (.iconst 0, 1) := by decide +kernel
theorem dX10_fresh_70 : decode cX10_fresh 70 = .ok (.iastore, 1) := by decide +kernel
theorem dX10_fresh_71 : decode cX10_fresh 71 = .ok (.aload_n 0, 1) := by decide +kernel
theorem dX10_fresh_72 : decode cX10_fresh 72 = .ok (.getfield 83, 3) := by decide +kernel
theorem dX10_fresh_75 : decode cX10_fresh 75 = .ok (.iload_n 1, 1) := by decide +kernel
theorem dX10_fresh_76 : decode cX10_fresh 76 = .ok (.iconst 0, 1) := by decide +kernel
theorem dX10_fresh_77 : decode cX10_fresh 77 = .ok (.iastore, 1) := by decide +kernel
theorem dX10_fresh_78 : decode cX10_fresh 78 = .ok (.aload_n 0, 1) := by decide +kernel
theorem dX10_fresh_79 : decode cX10_fresh 79 = .ok (.getfield 89, 3) := by decide +kernel
theorem dX10_fresh_82 : decode cX10_fresh 82 = .ok (.iload_n 1, 1) := by decide +kernel
theorem dX10_fresh_83 : decode cX10_fresh 83 = .ok (.iconst 0, 1) := by decide +kernel
theorem dX10_fresh_84 : decode cX10_fresh 84 = .ok (.iastore, 1) := by decide +kernel
theorem dX10_fresh_85 : decode cX10_fresh 85 = .ok (.aload_n 0, 1) := by decide +kernel
theorem dX10_fresh_86 : decode cX10_fresh 86 = .ok (.getfield 92, 3) := by decide +kernel
theorem dX10_fresh_89 : decode cX10_fresh 89 = .ok (.iload_n 1, 1) := by decide +kernel
theorem dX10_fresh_90 : decode cX10_fresh 90 = .ok (.iconst 0, 1) := by decide +kernel
theorem dX10_fresh_91 : decode cX10_fresh 91 = .ok (.iastore, 1) := by decide +kernel
theorem dX10_fresh_92 : decode cX10_fresh 92 = .ok (.aload_n 0, 1) := by decide +kernel
theorem dX10_fresh_93 : decode cX10_fresh 93 = .ok (.getfield 98, 3) := by decide +kernel
theorem dX10_fresh_96 : decode cX10_fresh 96 = .ok (.iload_n 1, 1) := by decide +kernel
theorem dX10_fresh_97 : decode cX10_fresh 97 = .ok (.iconst 0, 1) := by decide +kernel
theorem dX10_fresh_98 : decode cX10_fresh 98 = .ok (.iastore, 1) := by decide +kernel
theorem dX10_fresh_99 : decode cX10_fresh 99 = .ok (.aload_n 0, 1) := by decide +kernel
theorem dX10_fresh_100 : decode cX10_fresh 100 = .ok (.getfield 101, 3) := by decide +kernel
theorem dX10_fresh_103 : decode cX10_fresh 103 = .ok (.iload_n 1, 1) := by decide +kernel
theorem dX10_fresh_104 : decode cX10_fresh 104 = .ok (.iconst 0, 1) := by decide +kernel
theorem dX10_fresh_105 : decode cX10_fresh 105 = .ok (.iastore, 1) := by decide +kernel
theorem dX10_fresh_106 : decode cX10_fresh 106 = .ok (.iconst 0, 1) := by decide +kernel
theorem dX10_fresh_107 : decode cX10_fresh 107 = .ok (.istore_n 2, 1) := by decide +kernel
theorem dX10_fresh_108 : decode cX10_fresh 108 = .ok (.iload_n 2, 1) := by decide +kernel
theorem dX10_fresh_109 : decode cX10_fresh 109 = .ok (.sipush 128, 3) := by decide +kernel
