theorem dX10_byteOf_57 : decode cX10_byteOf 57 = .ok (.iload_n 1, 1) := by decide +kernel
theorem dX10_byteOf_58 : decode cX10_byteOf 58 = .ok (.sipush 4096, 3) := by decide +kernel
theorem dX10_byteOf_61 : decode cX10_byteOf 61 = .ok (.irem, 1) := by decide +kernel
theorem dX10_byteOf_62 : decode cX10_byteOf 62 = .ok (.imul, 1) := by decide +kernel
theorem dX10_byteOf_63 : decode cX10_byteOf 63 = .ok (.iload_n 2, 1) := by decide +kernel
theorem dX10_byteOf_64 : decode cX10_byteOf 64 = .ok (.iadd, 1) := by decide +kernel
theorem dX10_byteOf_65 : decode cX10_byteOf 65 = .ok (.iaload, 1) := by decide +kernel
theorem dX10_byteOf_66 : decode cX10_byteOf 66 = .ok (.goto 4, 3) := by decide +kernel
theorem dX10_byteOf_69 : decode cX10_byteOf 69 = .ok (.iconst (-1), 1) := by decide +kernel
theorem dX10_byteOf_70 : decode cX10_byteOf 70 = .ok (.ireturn, 1) := by decide +kernel
theorem dX10_clock_0 : decode cX10_clock 0 = .ok (.aload_n 0, 1) := by decide +kernel
theorem dX10_clock_1 : decode cX10_clock 1 = .ok (.getfield 198, 3) := by decide +kernel
theorem dX10_clock_4 : decode cX10_clock 4 = .ok (.ireturn, 1) := by decide +kernel
