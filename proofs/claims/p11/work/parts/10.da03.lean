theorem dX7_readReceipt_48 : decode cX7_readReceipt 48 = .ok (.aload_n 0, 1) := by decide +kernel
theorem dX7_readReceipt_49 : decode cX7_readReceipt 49 = .ok (.getfield 9, 3) := by decide +kernel
theorem dX7_readReceipt_52 : decode cX7_readReceipt 52 = .ok (.iconst 0, 1) := by decide +kernel
theorem dX7_readReceipt_53 : decode cX7_readReceipt 53 = .ok (.aload_n 0, 1) := by decide +kernel
theorem dX7_readReceipt_54 : decode cX7_readReceipt 54 = .ok (.getfield 22, 3) := by decide +kernel
theorem dX7_readReceipt_57 : decode cX7_readReceipt 57 = .ok (.invokestatic 35, 3) := by decide +kernel
theorem dX7_readReceipt_60 : decode cX7_readReceipt 60 = .ok (.aload_n 0, 1) := by decide +kernel
theorem dX7_readReceipt_61 : decode cX7_readReceipt 61 = .ok (.iload_n 2, 1) := by decide +kernel
theorem dX7_readReceipt_62 : decode cX7_readReceipt 62 = .ok (.putfield 26, 3) := by decide +kernel
theorem dX7_readReceipt_65 : decode cX7_readReceipt 65 = .ok (.aload_n 0, 1) := by decide +kernel
theorem dX7_readReceipt_66 : decode cX7_readReceipt 66 = .ok (.getfield 18, 3) := by decide +kernel
theorem dX7_readReceipt_69 : decode cX7_readReceipt 69 = .ok (.invokevirtual 29, 3) := by decide +kernel
theorem dX7_readReceipt_72 : decode cX7_readReceipt 72 = .ok (.return_, 1) := by decide +kernel
theorem dX8_init_0 : decode cX8_init 0 = .ok (.aload_n 0, 1) := by decide +kernel
theorem dX8_init_1 : decode cX8_init 1 = .ok (.invokespecial 3, 3) := by decide +kernel
theorem dX8_init_4 : decode cX8_init 4 = .ok (.return_, 1) := by decide +kernel
theorem dX8_clear_0 : decode cX8_clear 0 = .ok (.aload_n 0, 1) := by decide +kernel
theorem dX8_clear_1 : decode cX8_clear 1 = .ok (.iconst 0, 1) := by decide +kernel
theorem dX8_clear_2 : decode cX8_clear 2 = .ok (.putfield 9, 3) := by decide +kernel
theorem dX8_clear_5 : decode cX8_clear 5 = .ok (.return_, 1) := by decide +kernel
theorem dX8_count_0 : decode cX8_count 0 = .ok (.aload_n 0, 1) := by decide +kernel
theorem dX8_count_1 : decode cX8_count 1 = .ok (.dup, 1) := by decide +kernel
theorem dX8_count_2 : decode cX8_count 2 = .ok (.getfield 9, 3) := by decide +kernel
theorem dX8_count_5 : decode cX8_count 5 = .ok (.iconst 1, 1) := by decide +kernel
theorem dX8_count_6 : decode cX8_count 6 = .ok (.iadd, 1) := by decide +kernel
theorem dX8_count_7 : decode cX8_count 7 = .ok (.putfield 9, 3) := by decide +kernel
theorem dX8_count_10 : decode cX8_count 10 = .ok (.aload_n 0, 1) := by decide +kernel
theorem dX8_count_11 : decode cX8_count 11 = .ok (.iload_n 1, 1) := by decide +kernel
theorem dX8_count_12 : decode cX8_count 12 = .ok (.putfield 15, 3) := by decide +kernel
theorem dX8_count_15 : decode cX8_count 15 = .ok (.return_, 1) := by decide +kernel
theorem dX8_isOver_0 : decode cX8_isOver 0 = .ok (.aload_n 0, 1) := by decide +kernel
theorem dX8_isOver_1 : decode cX8_isOver 1 = .ok (.getfield 9, 3) := by decide +kernel
theorem dX8_isOver_4 : decode cX8_isOver 4 = .ok (.ifCond .le 18, 3) := by decide +kernel
theorem dX8_isOver_7 : decode cX8_isOver 7 = .ok (.iload_n 1, 1) := by decide +kernel
theorem dX8_isOver_8 : decode cX8_isOver 8 = .ok (.aload_n 0, 1) := by decide +kernel
theorem dX8_isOver_9 : decode cX8_isOver 9 = .ok (.getfield 15, 3) := by decide +kernel
theorem dX8_isOver_12 : decode cX8_isOver 12 = .ok (.isub, 1) := by decide +kernel
theorem dX8_isOver_13 : decode cX8_isOver 13 = .ok (.bipush 8, 2) := by decide +kernel
theorem dX8_isOver_15 : decode cX8_isOver 15 = .ok (.if_icmp .lt 7, 3) := by decide +kernel
theorem dX8_isOver_18 : decode cX8_isOver 18 = .ok (.iconst 1, 1) := by decide +kernel
theorem dX8_isOver_19 : decode cX8_isOver 19 = .ok (.goto 4, 3) := by decide +kernel
theorem dX8_isOver_22 : decode cX8_isOver 22 = .ok (.iconst 0, 1) := by decide +kernel
theorem dX8_isOver_23 : decode cX8_isOver 23 = .ok (.ireturn, 1) := by decide +kernel
theorem dX8_isDueAgain_0 : decode cX8_isDueAgain 0 = .ok (.aload_n 0, 1) := by decide +kernel
theorem dX8_isDueAgain_1 : decode cX8_isDueAgain 1 = .ok (.getfield 9, 3) := by decide +kernel
theorem dX8_isDueAgain_4 : decode cX8_isDueAgain 4 = .ok (.iconst 4, 1) := by decide +kernel
theorem dX8_isDueAgain_5 : decode cX8_isDueAgain 5 = .ok (.if_icmp .ge 15, 3) := by decide +kernel
theorem dX8_isDueAgain_8 : decode cX8_isDueAgain 8 = .ok (.aload_n 0, 1) := by decide +kernel
theorem dX8_isDueAgain_9 : decode cX8_isDueAgain 9 = .ok (.iload_n 1, 1) := by decide +kernel
theorem dX8_isDueAgain_10 : decode cX8_isDueAgain 10 = .ok (.invokevirtual 18, 3) := by decide +kernel
theorem dX8_isDueAgain_13 : decode cX8_isDueAgain 13 = .ok (.ifCond .eq 7, 3) := by decide +kernel
theorem dX8_isDueAgain_16 : decode cX8_isDueAgain 16 = .ok (.iconst 1, 1) := by decide +kernel
theorem dX8_isDueAgain_17 : decode cX8_isDueAgain 17 = .ok (.goto 4, 3) := by decide +kernel
theorem dX8_isDueAgain_20 : decode cX8_isDueAgain 20 = .ok (.iconst 0, 1) := by decide +kernel
theorem dX8_isDueAgain_21 : decode cX8_isDueAgain 21 = .ok (.ireturn, 1) := by decide +kernel
theorem dX8_isSpent_0 : decode cX8_isSpent 0 = .ok (.aload_n 0, 1) := by decide +kernel
theorem dX8_isSpent_1 : decode cX8_isSpent 1 = .ok (.getfield 9, 3) := by decide +kernel
theorem dX8_isSpent_4 : decode cX8_isSpent 4 = .ok (.iconst 4, 1) := by decide +kernel
theorem dX8_isSpent_5 : decode cX8_isSpent 5 = .ok (.if_icmp .lt 15, 3) := by decide +kernel
theorem dX8_isSpent_8 : decode cX8_isSpent 8 = .ok (.aload_n 0, 1) := by decide +kernel
theorem dX8_isSpent_9 : decode cX8_isSpent 9 = .ok (.iload_n 1, 1) := by decide +kernel
theorem dX8_isSpent_10 : decode cX8_isSpent 10 = .ok (.invokevirtual 18, 3) := by decide +kernel
theorem dX8_isSpent_13 : decode cX8_isSpent 13 = .ok (.ifCond .eq 7, 3) := by decide +kernel
theorem dX8_isSpent_16 : decode cX8_isSpent 16 = .ok (.iconst 1, 1) := by decide +kernel
theorem dX8_isSpent_17 : decode cX8_isSpent 17 = .ok (.goto 4, 3) := by decide +kernel
theorem dX8_isSpent_20 : decode cX8_isSpent 20 = .ok (.iconst 0, 1) := by decide +kernel
theorem dX8_isSpent_21 : decode cX8_isSpent 21 = .ok (.ireturn, 1) := by decide +kernel
