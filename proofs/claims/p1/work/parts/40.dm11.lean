theorem dX10_told_77 : decode cX10_told 77 = .ok (.ireturn, 1) := by decide +kernel
theorem dX10_told_78 : decode cX10_told 78 = .ok (.aload_n 0, 1) := by decide +kernel
theorem dX10_told_79 : decode cX10_told 79 = .ok (.getfield 16, 3) := by decide +kernel
theorem dX10_told_82 : decode cX10_told 82 = .ok (.iload_n 1, 1) := by decide +kernel
theorem dX10_told_83 : decode cX10_told 83 = .ok (.iaload, 1) := by decide +kernel
theorem dX10_told_84 : decode cX10_told 84 = .ok (.ireturn, 1) := by decide +kernel
theorem dX10_told_85 : decode cX10_told 85 = .ok (.aload_n 0, 1) := by decide +kernel
theorem dX10_told_86 : decode cX10_told 86 = .ok (.getfield 74, 3) := by decide +kernel
theorem dX10_told_89 : decode cX10_told 89 = .ok (.iload_n 1, 1) := by decide +kernel
theorem dX10_told_90 : decode cX10_told 90 = .ok (.iaload, 1) := by decide +kernel
theorem dX10_told_91 : decode cX10_told 91 = .ok (.ireturn, 1) := by decide +kernel
theorem dX10_told_92 : decode cX10_told 92 = .ok (.aload_n 0, 1) := by decide +kernel
theorem dX10_told_93 : decode cX10_told 93 = .ok (.getfield 98, 3) := by decide +kernel
theorem dX10_told_96 : decode cX10_told 96 = .ok (.iload_n 1, 1) := by decide +kernel
theorem dX10_told_97 : decode cX10_told 97 = .ok (.iaload, 1) := by decide +kernel
theorem dX10_told_98 : decode cX10_told 98 = .ok (.ireturn, 1) := by decide +kernel
theorem dX10_told_99 : decode cX10_told 99 = .ok (.aload_n 0, 1) := by decide +kernel
theorem dX10_told_100 : decode cX10_told 100 = .ok (.iload_n 1, 1) := by decide +kernel
theorem dX10_told_101 : decode cX10_told 101 = .ok (.invokevirtual 214, 3) := by decide +kernel
theorem dX10_told_104 : decode cX10_told 104 = .ok (.ireturn, 1) := by decide +kernel
theorem dX10_told_105 : decode cX10_told 105 = .ok (.aload_n 0, 1) := by decide +kernel
theorem dX10_told_106 : decode cX10_told 106 = .ok (.getfield 77, 3) := by decide +kernel
theorem dX10_told_109 : decode cX10_told 109 = .ok (.iload_n 1, 1) := by decide +kernel
theorem dX10_told_110 : decode cX10_told 110 = .ok (.iaload, 1) := by decide +kernel
theorem dX10_told_111 : decode cX10_told 111 = .ok (.aload_n 0, 1) := by decide +kernel
theorem dX10_told_112 : decode cX10_told 112 = .ok (.getfield 80, 3) := by decide +kernel
theorem dX10_told_115 : decode cX10_told 115 = .ok (.iload_n 1, 1) := by decide +kernel
theorem dX10_told_116 : decode cX10_told 116 = .ok (.iaload, 1) := by decide +kernel
theorem dX10_told_117 : decode cX10_told 117 = .ok (.iadd, 1) := by decide +kernel
theorem dX10_told_118 : decode cX10_told 118 = .ok (.invokestatic 221, 3) := by decide +kernel
theorem dX10_told_121 : decode cX10_told 121 = .ok (.ireturn, 1) := by decide +kernel
theorem dX10_told_122 : decode cX10_told 122 = .ok (.aload_n 0, 1) := by decide +kernel
theorem dX10_told_123 : decode cX10_told 123 = .ok (.getfield 122, 3) := by decide +kernel
theorem dX10_told_126 : decode cX10_told 126 = .ok (.iload_n 1, 1) := by decide +kernel
theorem dX10_told_127 : decode cX10_told 127 = .ok (.iaload, 1) := by decide +kernel
theorem dX10_told_128 : decode cX10_told 128 = .ok (.ireturn, 1) := by decide +kernel
theorem dX10_told_129 : decode cX10_told 129 = .ok (.aload_n 0, 1) := by decide +kernel
theorem dX10_told_130 : decode cX10_told 130 = .ok (.getfield 143, 3) := by decide +kernel
theorem dX10_told_133 : decode cX10_told 133 = .ok (.iload_n 1, 1) := by decide +kernel
theorem dX10_told_134 : decode cX10_told 134 = .ok (.iaload, 1) := by decide +kernel
theorem dX10_told_135 : decode cX10_told 135 = .ok (.ireturn, 1) := by decide +kernel
theorem dX10_told_136 : decode cX10_told 136 = .ok (.aload_n 0, 1) := by decide +kernel
theorem dX10_told_137 : decode cX10_told 137 = .ok (.getfield 23, 3) := by decide +kernel
theorem dX10_told_140 : decode cX10_told 140 = .ok (.iload_n 1, 1) := by decide +kernel
theorem dX10_told_141 : decode cX10_told 141 = .ok (.iaload, 1) := by decide +kernel
theorem dX10_told_142 : decode cX10_told 142 = .ok (.ireturn, 1) := by decide +kernel
theorem dX10_told_143 : decode cX10_told 143 = .ok (.iconst (-1), 1) := by decide +kernel
theorem dX10_told_144 : decode cX10_told 144 = .ok (.ireturn, 1) := by decide +kernel
theorem dX10_sent_0 : decode cX10_sent 0 = .ok (.aload_n 0, 1) := by decide +kernel
theorem dX10_sent_1 : decode cX10_sent 1 = .ok (.getfield 195, 3) := by decide +kernel
theorem dX10_sent_4 : decode cX10_sent 4 = .ok (.ireturn, 1) := by decide +kernel
theorem dX10_byteOf_0 : decode cX10_byteOf 0 = .ok (.iload_n 1, 1) := by decide +kernel
theorem dX10_byteOf_1 : decode cX10_byteOf 1 = .ok (.ifCond .lt 26, 3) := by decide +kernel
theorem dX10_byteOf_4 : decode cX10_byteOf 4 = .ok (.iload_n 1, 1) := by decide +kernel
theorem dX10_byteOf_5 : decode cX10_byteOf 5 = .ok (.aload_n 0, 1) := by decide +kernel
theorem dX10_byteOf_6 : decode cX10_byteOf 6 = .ok (.getfield 195, 3) := by decide +kernel
theorem dX10_byteOf_9 : decode cX10_byteOf 9 = .ok (.if_icmp .ge 18, 3) := by decide +kernel
theorem dX10_byteOf_12 : decode cX10_byteOf 12 = .ok (.iload_n 1, 1) := by decide +kernel
theorem dX10_byteOf_13 : decode cX10_byteOf 13 = .ok (.aload_n 0, 1) := by decide +kernel
theorem dX10_byteOf_14 : decode cX10_byteOf 14 = .ok (.getfield 195, 3) := by decide +kernel
theorem dX10_byteOf_17 : decode cX10_byteOf 17 = .ok (.bipush 64, 2) := by decide +kernel
theorem dX10_byteOf_19 : decode cX10_byteOf 19 = .ok (.isub, 1) := by decide +kernel
theorem dX10_byteOf_20 : decode cX10_byteOf 20 = .ok (.if_icmp .lt 7, 3) := by decide +kernel
theorem dX10_byteOf_23 : decode cX10_byteOf 23 = .ok (.iconst 1, 1) := by decide +kernel
theorem dX10_byteOf_24 : decode cX10_byteOf 24 = .ok (.goto 4, 3) := by decide +kernel
theorem dX10_byteOf_27 : decode cX10_byteOf 27 = .ok (.iconst 0, 1) := by decide +kernel
theorem dX10_byteOf_28 : decode cX10_byteOf 28 = .ok (.istore_n 3, 1) := by decide +kernel
theorem dX10_byteOf_29 : decode cX10_byteOf 29 = .ok (.iload_n 3, 1) := by decide +kernel
theorem dX10_byteOf_30 : decode cX10_byteOf 30 = .ok (.ifCond .eq 39, 3) := by decide +kernel
theorem dX10_byteOf_33 : decode cX10_byteOf 33 = .ok (.iload_n 2, 1) := by decide +kernel
theorem dX10_byteOf_34 : decode cX10_byteOf 34 = .ok (.ifCond .lt 35, 3) := by decide +kernel
theorem dX10_byteOf_37 : decode cX10_byteOf 37 = .ok (.iload_n 2, 1) := by decide +kernel
theorem dX10_byteOf_38 : decode cX10_byteOf 38 = .ok (.aload_n 0, 1) := by decide +kernel
theorem dX10_byteOf_39 : decode cX10_byteOf 39 = .ok (.getfield 168, 3) := by decide +kernel
theorem dX10_byteOf_42 : decode cX10_byteOf 42 = .ok (.iload_n 1, 1) := by decide +kernel
theorem dX10_byteOf_43 : decode cX10_byteOf 43 = .ok (.sipush 4096, 3) := by decide +kernel
theorem dX10_byteOf_46 : decode cX10_byteOf 46 = .ok (.irem, 1) := by decide +kernel
theorem dX10_byteOf_47 : decode cX10_byteOf 47 = .ok (.iaload, 1) := by decide +kernel
theorem dX10_byteOf_48 : decode cX10_byteOf 48 = .ok (.if_icmp .ge 21, 3) := by decide +kernel
theorem dX10_byteOf_51 : decode cX10_byteOf 51 = .ok (.aload_n 0, 1) := by decide +kernel
theorem dX10_byteOf_52 : decode cX10_byteOf 52 = .ok (.getfield 165, 3) := by decide +kernel
theorem dX10_byteOf_55 : decode cX10_byteOf 55 = .ok (.bipush 20, 2) := by decide +kernel
theorem dX10_byteOf_57 : decode cX10_byteOf 57 = .ok (.iload_n 1, 1) := by decide +kernel
theorem dX10_byteOf_58 : decode cX10_byteOf 58 = .ok (.sipush 4096, 3) := by decide +kernel
theorem dX10_byteOf_61 : decode cX10_byteOf 61 = .ok (.irem, 1) := by decide +kernel
theorem dX10_byteOf_62 : decode cX10_byteOf 62 = .ok (.imul, 1) := by decide +kernel
theorem dX10_byteOf_63 : decode cX10_byteOf 63 = .ok (.iload_n 2, 1) := by decide +kernel
theorem dX10_byteOf_64 : decode cX10_byteOf 64 = .ok (.iadd, 1) := by decide +kernel
theorem dX10_byteOf_65 : decode cX10_byteOf 65 = .ok (.iaload, 1) := by decide +kernel
theorem dX10_byteOf_66 : decode cX10_byteOf 66 = .ok (.goto 4, 3) := by decide +kernel
theorem dX10_byteOf_69 : decode cX10_byteOf 69 = .ok (.iconst (-1), 1) := by decide +kernel
theorem dX10_byteOf_70 : decode cX10_byteOf 70 = .ok (.ireturn, 1) := by decide +kernel
theorem dX10_clock_0 : decode cX10_clock 0 = .ok (.aload_n 0, 1) := by decide +kernel
theorem dX10_clock_1 : decode cX10_clock 1 = .ok (.getfield 198, 3) := by decide +kernel
theorem dX10_clock_4 : decode cX10_clock 4 = .ok (.ireturn, 1) := by decide +kernel
