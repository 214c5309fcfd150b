theorem dX10_arriveUrgent_55 : decode cX10_arriveUrgent 55 = .ok (.getfield 177, 3) := by decide +kernel
theorem dX10_arriveUrgent_58 : decode cX10_arriveUrgent 58 = .ok (.bipush 9, 2) := by decide +kernel
theorem dX10_arriveUrgent_60 : decode cX10_arriveUrgent 60 = .ok (.iaload, 1) := by decide +kernel
theorem dX10_arriveUrgent_61 : decode cX10_arriveUrgent 61 = .ok (.iastore, 1) := by decide +kernel
theorem dX10_arriveUrgent_62 : decode cX10_arriveUrgent 62 = .ok (.aload_n 0, 1) := by decide +kernel
theorem dX10_arriveUrgent_63 : decode cX10_arriveUrgent 63 = .ok (.getfield 143, 3) := by decide +kernel
theorem dX10_arriveUrgent_66 : decode cX10_arriveUrgent 66 = .ok (.iload_n 1, 1) := by decide +kernel
theorem dX10_arriveUrgent_67 : decode cX10_arriveUrgent 67 = .ok (.dup2, 1) := by decide +kernel
theorem dX10_arriveUrgent_68 : decode cX10_arriveUrgent 68 = .ok (.iaload, 1) := by decide +kernel
theorem dX10_arriveUrgent_69 : decode cX10_arriveUrgent 69 = .ok (.iconst 1, 1) := by decide +kernel
theorem dX10_arriveUrgent_70 : decode cX10_arriveUrgent 70 = .ok (.iadd, 1) := by decide +kernel
theorem dX10_arriveUrgent_71 : decode cX10_arriveUrgent 71 = .ok (.iastore, 1) := by decide +kernel
theorem dX10_arriveUrgent_72 : decode cX10_arriveUrgent 72 = .ok (.aload_n 0, 1) := by decide +kernel
theorem dX10_arriveUrgent_73 : decode cX10_arriveUrgent 73 = .ok (.getfield 101, 3) := by decide +kernel
theorem dX10_arriveUrgent_76 : decode cX10_arriveUrgent 76 = .ok (.iload_n 1, 1) := by decide +kernel
theorem dX10_arriveUrgent_77 : decode cX10_arriveUrgent 77 = .ok (.aload_n 0, 1) := by decide +kernel
theorem dX10_arriveUrgent_78 : decode cX10_arriveUrgent 78 = .ok (.getfield 101, 3) := by decide +kernel
theorem dX10_arriveUrgent_81 : decode cX10_arriveUrgent 81 = .ok (.iload_n 1, 1) := by decide +kernel
theorem dX10_arriveUrgent_82 : decode cX10_arriveUrgent 82 = .ok (.iaload, 1) := by decide +kernel
theorem dX10_arriveUrgent_83 : decode cX10_arriveUrgent 83 = .ok (.iconst 1, 1) := by decide +kernel
theorem dX10_arriveUrgent_84 : decode cX10_arriveUrgent 84 = .ok (.iadd, 1) := by decide +kernel
theorem dX10_arriveUrgent_85 : decode cX10_arriveUrgent 85 = .ok (.invokestatic 221, 3) := by decide +kernel
theorem dX10_arriveUrgent_88 : decode cX10_arriveUrgent 88 = .ok (.iastore, 1) := by decide +kernel
theorem dX10_arriveUrgent_89 : decode cX10_arriveUrgent 89 = .ok (.aload_n 0, 1) := by decide +kernel
theorem dX10_arriveUrgent_90 : decode cX10_arriveUrgent 90 = .ok (.iload_n 1, 1) := by decide +kernel
theorem dX10_arriveUrgent_91 : decode cX10_arriveUrgent 91 = .ok (.bipush 32, 2) := by decide +kernel
theorem dX10_arriveUrgent_93 : decode cX10_arriveUrgent 93 = .ok (.aload_n 0, 1) := by decide +kernel
theorem dX10_arriveUrgent_94 : decode cX10_arriveUrgent 94 = .ok (.getfield 101, 3) := by decide +kernel
theorem dX10_arriveUrgent_97 : decode cX10_arriveUrgent 97 = .ok (.iload_n 1, 1) := by decide +kernel
theorem dX10_arriveUrgent_98 : decode cX10_arriveUrgent 98 = .ok (.iaload, 1) := by decide +kernel
theorem dX10_arriveUrgent_99 : decode cX10_arriveUrgent 99 = .ok (.invokevirtual 217, 3) := by decide +kernel
theorem dX10_arriveUrgent_102 : decode cX10_arriveUrgent 102 = .ok (.return_, 1) := by decide +kernel
theorem dX10_arriveUrgentReceipt_0 : decode cX10_arriveUrgentReceipt 0 = .ok (.aload_n 0, 1) := by decide +kernel
theorem dX10_arriveUrgentReceipt_1 : decode cX10_arriveUrgentReceipt 1 = .ok (.getfield 7, 3) := by decide +kernel
theorem dX10_arriveUrgentReceipt_4 : decode cX10_arriveUrgentReceipt 4 = .ok (.iload_n 1, 1) := by decide +kernel
theorem dX10_arriveUrgentReceipt_5 : decode cX10_arriveUrgentReceipt 5 = .ok (.iaload, 1) := by decide +kernel
theorem dX10_arriveUrgentReceipt_6 : decode cX10_arriveUrgentReceipt 6 = .ok (.iconst 2, 1) := by decide +kernel
theorem dX10_arriveUrgentReceipt_7 : decode cX10_arriveUrgentReceipt 7 = .ok (.if_icmp .ne 44, 3) := by decide +kernel
theorem dX10_arriveUrgentReceipt_10 : decode cX10_arriveUrgentReceipt 10 = .ok (.aload_n 0, 1) := by decide +kernel
theorem dX10_arriveUrgentReceipt_11 : decode cX10_arriveUrgentReceipt 11 = .ok (.getfield 83, 3) := by decide +kernel
theorem dX10_arriveUrgentReceipt_14 : decode cX10_arriveUrgentReceipt 14 = .ok (.iload_n 1, 1) := by decide +kernel
theorem dX10_arriveUrgentReceipt_15 : decode cX10_arriveUrgentReceipt 15 = .ok (.iaload, 1) := by decide +kernel
theorem dX10_arriveUrgentReceipt_16 : decode cX10_arriveUrgentReceipt 16 = .ok (.ifCond .eq 35, 3) := by decide +kernel
theorem dX10_arriveUrgentReceipt_19 : decode cX10_arriveUrgentReceipt 19 = .ok (.aload_n 0, 1) := by decide +kernel
theorem dX10_arriveUrgentReceipt_20 : decode cX10_arriveUrgentReceipt 20 = .ok (.getfield 92, 3) := by decide +kernel
theorem dX10_arriveUrgentReceipt_23 : decode cX10_arriveUrgentReceipt 23 = .ok (.iload_n 1, 1) := by decide +kernel
theorem dX10_arriveUrgentReceipt_24 : decode cX10_arriveUrgentReceipt 24 = .ok (.iaload, 1) := by decide +kernel
theorem dX10_arriveUrgentReceipt_25 : decode cX10_arriveUrgentReceipt 25 = .ok (.ifCond .eq 26, 3) := by decide +kernel
theorem dX10_arriveUrgentReceipt_28 : decode cX10_arriveUrgentReceipt 28 = .ok (.aload_n 0, 1) := by decide +kernel
theorem dX10_arriveUrgentReceipt_29 : decode cX10_arriveUrgentReceipt 29 = .ok (.getfield 177, 3) := by decide +kernel
theorem dX10_arriveUrgentReceipt_32 : decode cX10_arriveUrgentReceipt 32 = .ok (.iconst 4, 1) := by decide +kernel
theorem dX10_arriveUrgentReceipt_33 : decode cX10_arriveUrgentReceipt 33 = .ok (.iaload, 1) := by decide +kernel
theorem dX10_arriveUrgentReceipt_34 : decode cX10_arriveUrgentReceipt 34 = .ok (.invokestatic 221, 3) := by decide +kernel
theorem dX10_arriveUrgentReceipt_37 : decode cX10_arriveUrgentReceipt 37 = .ok (.aload_n 0, 1) := by decide +kernel
theorem dX10_arriveUrgentReceipt_38 : decode cX10_arriveUrgentReceipt 38 = .ok (.getfield 89, 3) := by decide +kernel
theorem dX10_arriveUrgentReceipt_41 : decode cX10_arriveUrgentReceipt 41 = .ok (.iload_n 1, 1) := by decide +kernel
theorem dX10_arriveUrgentReceipt_42 : decode cX10_arriveUrgentReceipt 42 = .ok (.iaload, 1) := by decide +kernel
theorem dX10_arriveUrgentReceipt_43 : decode cX10_arriveUrgentReceipt 43 = .ok (.iconst 1, 1) := by decide +kernel
theorem dX10_arriveUrgentReceipt_44 : decode cX10_arriveUrgentReceipt 44 = .ok (.iadd, 1) := by decide +kernel
theorem dX10_arriveUrgentReceipt_45 : decode cX10_arriveUrgentReceipt 45 = .ok (.invokestatic 221, 3) := by decide +kernel
theorem dX10_arriveUrgentReceipt_48 : decode cX10_arriveUrgentReceipt 48 = .ok (.if_icmp .eq 4, 3) := by decide +kernel
theorem dX10_arriveUrgentReceipt_51 : decode cX10_arriveUrgentReceipt 51 = .ok (.return_, 1) := by decide +kernel
theorem dX10_arriveUrgentReceipt_52 : decode cX10_arriveUrgentReceipt 52 = .ok (.iconst 1, 1) := by decide +kernel
theorem dX10_arriveUrgentReceipt_53 : decode cX10_arriveUrgentReceipt 53 = .ok (.istore_n 2, 1) := by decide +kernel
theorem dX10_arriveUrgentReceipt_54 : decode cX10_arriveUrgentReceipt 54 = .ok (.iload_n 2, 1) := by decide +kernel
theorem dX10_arriveUrgentReceipt_55 : decode cX10_arriveUrgentReceipt 55 = .ok (.aload_n 0, 1) := by decide +kernel
theorem dX10_arriveUrgentReceipt_56 : decode cX10_arriveUrgentReceipt 56 = .ok (.getfield 83, 3) := by decide +kernel
theorem dX10_arriveUrgentReceipt_59 : decode cX10_arriveUrgentReceipt 59 = .ok (.iload_n 1, 1) := by decide +kernel
theorem dX10_arriveUrgentReceipt_60 : decode cX10_arriveUrgentReceipt 60 = .ok (.iaload, 1) := by decide +kernel
theorem dX10_arriveUrgentReceipt_61 : decode cX10_arriveUrgentReceipt 61 = .ok (.if_icmp .ge 33, 3) := by decide +kernel
theorem dX10_arriveUrgentReceipt_64 : decode cX10_arriveUrgentReceipt 64 = .ok (.aload_n 0, 1) := by decide +kernel
theorem dX10_arriveUrgentReceipt_65 : decode cX10_arriveUrgentReceipt 65 = .ok (.getfield 86, 3) := by decide +kernel
theorem dX10_arriveUrgentReceipt_68 : decode cX10_arriveUrgentReceipt 68 = .ok (.bipush 8, 2) := by decide +kernel
theorem dX10_arriveUrgentReceipt_70 : decode cX10_arriveUrgentReceipt 70 = .ok (.iload_n 1, 1) := by decide +kernel
theorem dX10_arriveUrgentReceipt_71 : decode cX10_arriveUrgentReceipt 71 = .ok (.imul, 1) := by decide +kernel
theorem dX10_arriveUrgentReceipt_72 : decode cX10_arriveUrgentReceipt 72 = .ok (.iload_n 2, 1) := by decide +kernel
theorem dX10_arriveUrgentReceipt_73 : decode cX10_arriveUrgentReceipt 73 = .ok (.iadd, 1) := by decide +kernel
theorem dX10_arriveUrgentReceipt_74 : decode cX10_arriveUrgentReceipt 74 = .ok (.iconst 1, 1) := by decide +kernel
theorem dX10_arriveUrgentReceipt_75 : decode cX10_arriveUrgentReceipt 75 = .ok (.isub, 1) := by decide +kernel
theorem dX10_arriveUrgentReceipt_76 : decode cX10_arriveUrgentReceipt 76 = .ok (.aload_n 0, 1) := by decide +kernel
theorem dX10_arriveUrgentReceipt_77 : decode cX10_arriveUrgentReceipt 77 = .ok (.getfield 86, 3) := by decide +kernel
theorem dX10_arriveUrgentReceipt_80 : decode cX10_arriveUrgentReceipt 80 = .ok (.bipush 8, 2) := by decide +kernel
theorem dX10_arriveUrgentReceipt_82 : decode cX10_arriveUrgentReceipt 82 = .ok (.iload_n 1, 1) := by decide +kernel
theorem dX10_arriveUrgentReceipt_83 : decode cX10_arriveUrgentReceipt 83 = .ok (.imul, 1) := by decide +kernel
theorem dX10_arriveUrgentReceipt_84 : decode cX10_arriveUrgentReceipt 84 = .ok (.iload_n 2, 1) := by decide +kernel
theorem dX10_arriveUrgentReceipt_85 : decode cX10_arriveUrgentReceipt 85 = .ok (.iadd, 1) := by decide +kernel
theorem dX10_arriveUrgentReceipt_86 : decode cX10_arriveUrgentReceipt 86 = .ok (.iaload, 1) := by decide +kernel
theorem dX10_arriveUrgentReceipt_87 : decode cX10_arriveUrgentReceipt 87 = .ok (.iastore, 1) := by decide +kernel
theorem dX10_arriveUrgentReceipt_88 : decode cX10_arriveUrgentReceipt 88 = .ok (.iinc 2 1, 3) := by decide +kernel
theorem dX10_arriveUrgentReceipt_91 : decode cX10_arriveUrgentReceipt 91 = .ok (.goto (-37), 3) := by decide +kernel
theorem dX10_arriveUrgentReceipt_94 : decode cX10_arriveUrgentReceipt 94 = .ok (.aload_n 0, 1) := by decide +kernel
theorem dX10_arriveUrgentReceipt_95 : decode cX10_arriveUrgentReceipt 95 = .ok (.getfield 83, 3) := by decide +kernel
theorem dX10_arriveUrgentReceipt_98 : decode cX10_arriveUrgentReceipt 98 = .ok (.iload_n 1, 1) := by decide +kernel
theorem dX10_arriveUrgentReceipt_99 : decode cX10_arriveUrgentReceipt 99 = .ok (.dup2, 1) := by decide +kernel
theorem dX10_arriveUrgentReceipt_100 : decode cX10_arriveUrgentReceipt 100 = .ok (.iaload, 1) := by decide +kernel
theorem dX10_arriveUrgentReceipt_101 : decode cX10_arriveUrgentReceipt 101 = .ok (.iconst 1, 1) := by decide +kernel
theorem dX10_arriveUrgentReceipt_102 : decode cX10_arriveUrgentReceipt 102 = .ok (.isub, 1) := by decide +kernel
theorem dX10_arriveUrgentReceipt_103 : decode cX10_arriveUrgentReceipt 103 = .ok (.iastore, 1) := by decide +kernel
theorem dX10_arriveUrgentReceipt_104 : decode cX10_arriveUrgentReceipt 104 = .ok (.aload_n 0, 1) := by decide +kernel
theorem dX10_arriveUrgentReceipt_105 : decode cX10_arriveUrgentReceipt 105 = .ok (.getfield 89, 3) := by decide +kernel
theorem dX10_arriveUrgentReceipt_108 : decode cX10_arriveUrgentReceipt 108 = .ok (.iload_n 1, 1) := by decide +kernel
theorem dX10_arriveUrgentReceipt_109 : decode cX10_arriveUrgentReceipt 109 = .ok (.aload_n 0, 1) := by decide +kernel
theorem dX10_arriveUrgentReceipt_110 : decode cX10_arriveUrgentReceipt 110 = .ok (.getfield 89, 3) := by decide +kernel
theorem dX10_arriveUrgentReceipt_113 : decode cX10_arriveUrgentReceipt 113 = .ok (.iload_n 1, 1) := by decide +kernel
theorem dX10_arriveUrgentReceipt_114 : decode cX10_arriveUrgentReceipt 114 = .ok (.iaload, 1) := by decide +kernel
theorem dX10_arriveUrgentReceipt_115 : decode cX10_arriveUrgentReceipt 115 = .ok (.iconst 1, 1) := by decide +kernel
theorem dX10_arriveUrgentReceipt_116 : decode cX10_arriveUrgentReceipt 116 = .ok (.iadd, 1) := by decide +kernel
theorem dX10_arriveUrgentReceipt_117 : decode cX10_arriveUrgentReceipt 117 = .ok (.invokestatic 221, 3) := by decide +kernel
theorem dX10_arriveUrgentReceipt_120 : decode cX10_arriveUrgentReceipt 120 = .ok (.iastore, 1) := by decide +kernel
theorem dX10_arriveUrgentReceipt_121 : decode cX10_arriveUrgentReceipt 121 = .ok (.aload_n 0, 1) := by decide +kernel
theorem dX10_arriveUrgentReceipt_122 : decode cX10_arriveUrgentReceipt 122 = .ok (.getfield 92, 3) := by decide +kernel
theorem dX10_arriveUrgentReceipt_125 : decode cX10_arriveUrgentReceipt 125 = .ok (.iload_n 1, 1) := by decide +kernel
theorem dX10_arriveUrgentReceipt_126 : decode cX10_arriveUrgentReceipt 126 = .ok (.iconst 0, 1) := by decide +kernel
theorem dX10_arriveUrgentReceipt_127 : decode cX10_arriveUrgentReceipt 127 = .ok (.iastore, 1) := by decide +kernel
theorem dX10_arriveUrgentReceipt_128 : decode cX10_arriveUrgentReceipt 128 = .ok (.aload_n 0, 1) := by decide +kernel
theorem dX10_arriveUrgentReceipt_129 : decode cX10_arriveUrgentReceipt 129 = .ok (.iload_n 1, 1) := by decide +kernel
theorem dX10_arriveUrgentReceipt_130 : decode cX10_arriveUrgentReceipt 130 = .ok (.invokevirtual 256, 3) := by decide +kernel
theorem dX10_arriveUrgentReceipt_133 : decode cX10_arriveUrgentReceipt 133 = .ok (.return_, 1) := by decide +kernel
theorem dX10_arriveEnd_0 : decode cX10_arriveEnd 0 = .ok (.aload_n 0, 1) := by decide +kernel
theorem dX10_arriveEnd_1 : decode cX10_arriveEnd 1 = .ok (.iload_n 1, 1) := by decide +kernel
theorem dX10_arriveEnd_2 : decode cX10_arriveEnd 2 = .ok (.sipush 192, 3) := by decide +kernel
theorem dX10_arriveEnd_5 : decode cX10_arriveEnd 5 = .ok (.aload_n 0, 1) := by decide +kernel
theorem dX10_arriveEnd_6 : decode cX10_arriveEnd 6 = .ok (.iconst 4, 1) := by decide +kernel
theorem dX10_arriveEnd_7 : decode cX10_arriveEnd 7 = .ok (.invokevirtual 268, 3) := by decide +kernel
theorem dX10_arriveEnd_10 : decode cX10_arriveEnd 10 = .ok (.aload_n 0, 1) := by decide +kernel
theorem dX10_arriveEnd_11 : decode cX10_arriveEnd 11 = .ok (.getfield 13, 3) := by decide +kernel
theorem dX10_arriveEnd_14 : decode cX10_arriveEnd 14 = .ok (.iload_n 1, 1) := by decide +kernel
theorem dX10_arriveEnd_15 : decode cX10_arriveEnd 15 = .ok (.iaload, 1) := by decide +kernel
theorem dX10_arriveEnd_16 : decode cX10_arriveEnd 16 = .ok (.iconst (-1), 1) := by decide +kernel
theorem dX10_arriveEnd_17 : decode cX10_arriveEnd 17 = .ok (.invokevirtual 238, 3) := by decide +kernel
theorem dX10_arriveEnd_20 : decode cX10_arriveEnd 20 = .ok (.aload_n 0, 1) := by decide +kernel
theorem dX10_arriveEnd_21 : decode cX10_arriveEnd 21 = .ok (.iload_n 1, 1) := by decide +kernel
theorem dX10_arriveEnd_22 : decode cX10_arriveEnd 22 = .ok (.aload_n 0, 1) := by decide +kernel
theorem dX10_arriveEnd_23 : decode cX10_arriveEnd 23 = .ok (.getfield 177, 3) := by decide +kernel
theorem dX10_arriveEnd_26 : decode cX10_arriveEnd 26 = .ok (.bipush 6, 2) := by decide +kernel
theorem dX10_arriveEnd_28 : decode cX10_arriveEnd 28 = .ok (.iaload, 1) := by decide +kernel
theorem dX10_arriveEnd_29 : decode cX10_arriveEnd 29 = .ok (.invokevirtual 245, 3) := by decide +kernel
theorem dX10_arriveEnd_32 : decode cX10_arriveEnd 32 = .ok (.aload_n 0, 1) := by decide +kernel
theorem dX10_arriveEnd_33 : decode cX10_arriveEnd 33 = .ok (.getfield 7, 3) := by decide +kernel
theorem dX10_arriveEnd_36 : decode cX10_arriveEnd 36 = .ok (.iload_n 1, 1) := by decide +kernel
theorem dX10_arriveEnd_37 : decode cX10_arriveEnd 37 = .ok (.iaload, 1) := by decide +kernel
theorem dX10_arriveEnd_38 : decode cX10_arriveEnd 38 = .ok (.iconst 1, 1) := by decide +kernel
theorem dX10_arriveEnd_39 : decode cX10_arriveEnd 39 = .ok (.if_icmp .ne 20, 3) := by decide +kernel
theorem dX10_arriveEnd_42 : decode cX10_arriveEnd 42 = .ok (.aload_n 0, 1) := by decide +kernel
theorem dX10_arriveEnd_43 : decode cX10_arriveEnd 43 = .ok (.getfield 7, 3) := by decide +kernel
theorem dX10_arriveEnd_46 : decode cX10_arriveEnd 46 = .ok (.iload_n 1, 1) := by decide +kernel
theorem dX10_arriveEnd_47 : decode cX10_arriveEnd 47 = .ok (.iconst 0, 1) := by decide +kernel
theorem dX10_arriveEnd_48 : decode cX10_arriveEnd 48 = .ok (.iastore, 1) := by decide +kernel
theorem dX10_arriveEnd_49 : decode cX10_arriveEnd 49 = .ok (.aload_n 0, 1) := by decide +kernel
theorem dX10_arriveEnd_50 : decode cX10_arriveEnd 50 = .ok (.getfield 35, 3) := by decide +kernel
theorem dX10_arriveEnd_53 : decode cX10_arriveEnd 53 = .ok (.iload_n 1, 1) := by decide +kernel
theorem dX10_arriveEnd_54 : decode cX10_arriveEnd 54 = .ok (.iconst 0, 1) := by decide +kernel
theorem dX10_arriveEnd_55 : decode cX10_arriveEnd 55 = .ok (.iastore, 1) := by decide +kernel
theorem dX10_arriveEnd_56 : decode cX10_arriveEnd 56 = .ok (.goto 8, 3) := by decide +kernel
theorem dX10_arriveEnd_59 : decode cX10_arriveEnd 59 = .ok (.aload_n 0, 1) := by decide +kernel
theorem dX10_arriveEnd_60 : decode cX10_arriveEnd 60 = .ok (.iload_n 1, 1) := by decide +kernel
theorem dX10_arriveEnd_61 : decode cX10_arriveEnd 61 = .ok (.invokevirtual 248, 3) := by decide +kernel
theorem dX10_arriveEnd_64 : decode cX10_arriveEnd 64 = .ok (.return_, 1) := by decide +kernel
theorem dX10_arrive_0 : decode cX10_arrive 0 = .ok (.aload_n 0, 1) := by decide +kernel
theorem dX10_arrive_1 : decode cX10_arrive 1 = .ok (.invokevirtual 277, 3) := by decide +kernel
theorem dX10_arrive_4 : decode cX10_arrive 4 = .ok (.ifCond .ne 4, 3) := by decide +kernel
theorem dX10_arrive_7 : decode cX10_arrive 7 = .ok (.return_, 1) := by decide +kernel
theorem dX10_arrive_8 : decode cX10_arrive 8 = .ok (.aload_n 0, 1) := by decide +kernel
theorem dX10_arrive_9 : decode cX10_arrive 9 = .ok (.getfield 177, 3) := by decide +kernel
theorem dX10_arrive_12 : decode cX10_arrive 12 = .ok (.iconst 1, 1) := by decide +kernel
theorem dX10_arrive_13 : decode cX10_arrive 13 = .ok (.iaload, 1) := by decide +kernel
theorem dX10_arrive_14 : decode cX10_arrive 14 = .ok (.invokestatic 262, 3) := by decide +kernel
theorem dX10_arrive_17 : decode cX10_arrive 17 = .ok (.istore_n 2, 1) := by decide +kernel
theorem dX10_arrive_18 : decode cX10_arrive 18 = .ok (.iload_n 2, 1) := by decide +kernel
theorem dX10_arrive_19 : decode cX10_arrive 19 = .ok (.sipush 224, 3) := by decide +kernel
theorem dX10_arrive_22 : decode cX10_arrive 22 = .ok (.if_icmp .ne 9, 3) := by decide +kernel
theorem dX10_arrive_25 : decode cX10_arrive 25 = .ok (.aload_n 0, 1) := by decide +kernel
theorem dX10_arrive_26 : decode cX10_arrive 26 = .ok (.iload_n 1, 1) := by decide +kernel
theorem dX10_arrive_27 : decode cX10_arrive 27 = .ok (.invokevirtual 281, 3) := by decide +kernel
theorem dX10_arrive_30 : decode cX10_arrive 30 = .ok (.return_, 1) := by decide +kernel
theorem dX10_arrive_31 : decode cX10_arrive 31 = .ok (.aload_n 0, 1) := by decide +kernel
theorem dX10_arrive_32 : decode cX10_arrive 32 = .ok (.iconst 2, 1) := by decide +kernel
theorem dX10_arrive_33 : decode cX10_arrive 33 = .ok (.invokevirtual 268, 3) := by decide +kernel
theorem dX10_arrive_36 : decode cX10_arrive 36 = .ok (.aload_n 0, 1) := by decide +kernel
theorem dX10_arrive_37 : decode cX10_arrive 37 = .ok (.getfield 13, 3) := by decide +kernel
theorem dX10_arrive_40 : decode cX10_arrive 40 = .ok (.iload_n 1, 1) := by decide +kernel
theorem dX10_arrive_41 : decode cX10_arrive 41 = .ok (.iaload, 1) := by decide +kernel
theorem dX10_arrive_42 : decode cX10_arrive 42 = .ok (.if_icmp .ne 27, 3) := by decide +kernel
theorem dX10_arrive_45 : decode cX10_arrive 45 = .ok (.aload_n 0, 1) := by decide +kernel
theorem dX10_arrive_46 : decode cX10_arrive 46 = .ok (.getfield 7, 3) := by decide +kernel
theorem dX10_arrive_49 : decode cX10_arrive 49 = .ok (.iload_n 1, 1) := by decide +kernel
theorem dX10_arrive_50 : decode cX10_arrive 50 = .ok (.iaload, 1) := by decide +kernel
theorem dX10_arrive_51 : decode cX10_arrive 51 = .ok (.iconst 1, 1) := by decide +kernel
theorem dX10_arrive_52 : decode cX10_arrive 52 = .ok (.if_icmp .lt 17, 3) := by decide +kernel
theorem dX10_arrive_55 : decode cX10_arrive 55 = .ok (.aload_n 0, 1) := by decide +kernel
theorem dX10_arrive_56 : decode cX10_arrive 56 = .ok (.getfield 7, 3) := by decide +kernel
theorem dX10_arrive_59 : decode cX10_arrive 59 = .ok (.iload_n 1, 1) := by decide +kernel
theorem dX10_arrive_60 : decode cX10_arrive 60 = .ok (.iaload, 1) := by decide +kernel
theorem dX10_arrive_61 : decode cX10_arrive 61 = .ok (.iconst 3, 1) := by decide +kernel
theorem dX10_arrive_62 : decode cX10_arrive 62 = .ok (.if_icmp .gt 7, 3) := by decide +kernel
theorem dX10_arrive_65 : decode cX10_arrive 65 = .ok (.iconst 1, 1) := by decide +kernel
theorem dX10_arrive_66 : decode cX10_arrive 66 = .ok (.goto 4, 3) := by decide +kernel
theorem dX10_arrive_69 : decode cX10_arrive 69 = .ok (.iconst 0, 1) := by decide +kernel
theorem dX10_arrive_70 : decode cX10_arrive 70 = .ok (.istore_n 3, 1) := by decide +kernel
theorem dX10_arrive_71 : decode cX10_arrive 71 = .ok (.iload_n 3, 1) := by decide +kernel
theorem dX10_arrive_72 : decode cX10_arrive 72 = .ok (.ifCond .ne 30, 3) := by decide +kernel
theorem dX10_arrive_75 : decode cX10_arrive 75 = .ok (.iload_n 2, 1) := by decide +kernel
theorem dX10_arrive_76 : decode cX10_arrive 76 = .ok (.sipush 128, 3) := by decide +kernel
theorem dX10_arrive_79 : decode cX10_arrive 79 = .ok (.if_icmp .ne 22, 3) := by decide +kernel
theorem dX10_arrive_82 : decode cX10_arrive 82 = .ok (.aload_n 0, 1) := by decide +kernel
theorem dX10_arrive_83 : decode cX10_arrive 83 = .ok (.iload_n 1, 1) := by decide +kernel
theorem dX10_arrive_84 : decode cX10_arrive 84 = .ok (.sipush 192, 3) := by decide +kernel
theorem dX10_arrive_87 : decode cX10_arrive 87 = .ok (.aload_n 0, 1) := by decide +kernel
theorem dX10_arrive_88 : decode cX10_arrive 88 = .ok (.iconst 4, 1) := by decide +kernel
theorem dX10_arrive_89 : decode cX10_arrive 89 = .ok (.invokevirtual 268, 3) := by decide +kernel
theorem dX10_arrive_92 : decode cX10_arrive 92 = .ok (.aload_n 0, 1) := by decide +kernel
theorem dX10_arrive_93 : decode cX10_arrive 93 = .ok (.iconst 2, 1) := by decide +kernel
theorem dX10_arrive_94 : decode cX10_arrive 94 = .ok (.invokevirtual 268, 3) := by decide +kernel
theorem dX10_arrive_97 : decode cX10_arrive 97 = .ok (.iconst (-1), 1) := by decide +kernel
theorem dX10_arrive_98 : decode cX10_arrive 98 = .ok (.invokevirtual 238, 3) := by decide +kernel
theorem dX10_arrive_101 : decode cX10_arrive 101 = .ok (.return_, 1) := by decide +kernel
theorem dX10_arrive_102 : decode cX10_arrive 102 = .ok (.aload_n 0, 1) := by decide +kernel
theorem dX10_arrive_103 : decode cX10_arrive 103 = .ok (.getfield 32, 3) := by decide +kernel
theorem dX10_arrive_106 : decode cX10_arrive 106 = .ok (.iload_n 1, 1) := by decide +kernel
theorem dX10_arrive_107 : decode cX10_arrive 107 = .ok (.aload_n 0, 1) := by decide +kernel
theorem dX10_arrive_108 : decode cX10_arrive 108 = .ok (.getfield 198, 3) := by decide +kernel
theorem dX10_arrive_111 : decode cX10_arrive 111 = .ok (.iastore, 1) := by decide +kernel
theorem dX10_arrive_112 : decode cX10_arrive 112 = .ok (.aload_n 0, 1) := by decide +kernel
theorem dX10_arrive_113 : decode cX10_arrive 113 = .ok (.getfield 7, 3) := by decide +kernel
theorem dX10_arrive_116 : decode cX10_arrive 116 = .ok (.iload_n 1, 1) := by decide +kernel
theorem dX10_arrive_117 : decode cX10_arrive 117 = .ok (.iaload, 1) := by decide +kernel
theorem dX10_arrive_118 : decode cX10_arrive 118 = .ok (.iconst 2, 1) := by decide +kernel
theorem dX10_arrive_119 : decode cX10_arrive 119 = .ok (.if_icmp .ne 19, 3) := by decide +kernel
theorem dX10_arrive_122 : decode cX10_arrive 122 = .ok (.aload_n 0, 1) := by decide +kernel
theorem dX10_arrive_123 : decode cX10_arrive 123 = .ok (.getfield 19, 3) := by decide +kernel
theorem dX10_arrive_126 : decode cX10_arrive 126 = .ok (.iload_n 1, 1) := by decide +kernel
theorem dX10_arrive_127 : decode cX10_arrive 127 = .ok (.baload, 1) := by decide +kernel
theorem dX10_arrive_128 : decode cX10_arrive 128 = .ok (.ifCond .eq 10, 3) := by decide +kernel
theorem dX10_arrive_131 : decode cX10_arrive 131 = .ok (.aload_n 0, 1) := by decide +kernel
theorem dX10_arrive_132 : decode cX10_arrive 132 = .ok (.getfield 35, 3) := by decide +kernel
theorem dX10_arrive_135 : decode cX10_arrive 135 = .ok (.iload_n 1, 1) := by decide +kernel
theorem dX10_arrive_136 : decode cX10_arrive 136 = .ok (.iconst 0, 1) := by decide +kernel
theorem dX10_arrive_137 : decode cX10_arrive 137 = .ok (.iastore, 1) := by decide +kernel
theorem dX10_arrive_138 : decode cX10_arrive 138 = .ok (.iload_n 2, 1) := by decide +kernel
