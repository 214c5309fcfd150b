theorem dX10_step_1 : decode cX10_step 1 = .ok (.iload_n 1, 1) := by decide +kernel
theorem dX10_step_2 : decode cX10_step 2 = .ok (.invokevirtual 325, 3) := by decide +kernel
theorem dX10_step_5 : decode cX10_step 5 = .ok (.aload_n 0, 1) := by decide +kernel
theorem dX10_step_6 : decode cX10_step 6 = .ok (.getfield 7, 3) := by decide +kernel
theorem dX10_step_9 : decode cX10_step 9 = .ok (.iload_n 1, 1) := by decide +kernel
theorem dX10_step_10 : decode cX10_step 10 = .ok (.iaload, 1) := by decide +kernel
theorem dX10_step_11 : decode cX10_step 11 = .ok (.iconst 2, 1) := by decide +kernel
theorem dX10_step_12 : decode cX10_step 12 = .ok (.if_icmp .ne 24, 3) := by decide +kernel
theorem dX10_step_15 : decode cX10_step 15 = .ok (.aload_n 0, 1) := by decide +kernel
theorem dX10_step_16 : decode cX10_step 16 = .ok (.getfield 198, 3) := by decide +kernel
theorem dX10_step_19 : decode cX10_step 19 = .ok (.aload_n 0, 1) := by decide +kernel
theorem dX10_step_20 : decode cX10_step 20 = .ok (.getfield 32, 3) := by decide +kernel
theorem dX10_step_23 : decode cX10_step 23 = .ok (.iload_n 1, 1) := by decide +kernel
theorem dX10_step_24 : decode cX10_step 24 = .ok (.iaload, 1) := by decide +kernel
theorem dX10_step_25 : decode cX10_step 25 = .ok (.isub, 1) := by decide +kernel
theorem dX10_step_26 : decode cX10_step 26 = .ok (.bipush 50, 2) := by decide +kernel
theorem dX10_step_28 : decode cX10_step 28 = .ok (.if_icmp .lt 8, 3) := by decide +kernel
theorem dX10_step_31 : decode cX10_step 31 = .ok (.aload_n 0, 1) := by decide +kernel
theorem dX10_step_32 : decode cX10_step 32 = .ok (.iload_n 1, 1) := by decide +kernel
theorem dX10_step_33 : decode cX10_step 33 = .ok (.invokevirtual 318, 3) := by decide +kernel
theorem dX10_step_36 : decode cX10_step 36 = .ok (.aload_n 0, 1) := by decide +kernel
theorem dX10_step_37 : decode cX10_step 37 = .ok (.getfield 7, 3) := by decide +kernel
theorem dX10_step_40 : decode cX10_step 40 = .ok (.iload_n 1, 1) := by decide +kernel
theorem dX10_step_41 : decode cX10_step 41 = .ok (.iaload, 1) := by decide +kernel
theorem dX10_step_42 : decode cX10_step 42 = .ok (.iconst 2, 1) := by decide +kernel
theorem dX10_step_43 : decode cX10_step 43 = .ok (.if_icmp .ne 24, 3) := by decide +kernel
theorem dX10_step_46 : decode cX10_step 46 = .ok (.aload_n 0, 1) := by decide +kernel
theorem dX10_step_47 : decode cX10_step 47 = .ok (.getfield 198, 3) := by decide +kernel
theorem dX10_step_50 : decode cX10_step 50 = .ok (.aload_n 0, 1) := by decide +kernel
theorem dX10_step_51 : decode cX10_step 51 = .ok (.getfield 29, 3) := by decide +kernel
theorem dX10_step_54 : decode cX10_step 54 = .ok (.iload_n 1, 1) := by decide +kernel
theorem dX10_step_55 : decode cX10_step 55 = .ok (.iaload, 1) := by decide +kernel
theorem dX10_step_56 : decode cX10_step 56 = .ok (.isub, 1) := by decide +kernel
theorem dX10_step_57 : decode cX10_step 57 = .ok (.bipush 20, 2) := by decide +kernel
theorem dX10_step_59 : decode cX10_step 59 = .ok (.if_icmp .lt 8, 3) := by decide +kernel
theorem dX10_step_62 : decode cX10_step 62 = .ok (.aload_n 0, 1) := by decide +kernel
theorem dX10_step_63 : decode cX10_step 63 = .ok (.iload_n 1, 1) := by decide +kernel
theorem dX10_step_64 : decode cX10_step 64 = .ok (.invokevirtual 271, 3) := by decide +kernel
theorem dX10_step_67 : decode cX10_step 67 = .ok (.aload_n 0, 1) := by decide +kernel
theorem dX10_step_68 : decode cX10_step 68 = .ok (.getfield 7, 3) := by decide +kernel
theorem dX10_step_71 : decode cX10_step 71 = .ok (.iload_n 1, 1) := by decide +kernel
theorem dX10_step_72 : decode cX10_step 72 = .ok (.iaload, 1) := by decide +kernel
theorem dX10_step_73 : decode cX10_step 73 = .ok (.iconst 4, 1) := by decide +kernel
theorem dX10_step_74 : decode cX10_step 74 = .ok (.if_icmp .ne 26, 3) := by decide +kernel
theorem dX10_step_77 : decode cX10_step 77 = .ok (.aload_n 0, 1) := by decide +kernel
theorem dX10_step_78 : decode cX10_step 78 = .ok (.getfield 198, 3) := by decide +kernel
theorem dX10_step_81 : decode cX10_step 81 = .ok (.aload_n 0, 1) := by decide +kernel
theorem dX10_step_82 : decode cX10_step 82 = .ok (.getfield 26, 3) := by decide +kernel
theorem dX10_step_85 : decode cX10_step 85 = .ok (.iload_n 1, 1) := by decide +kernel
theorem dX10_step_86 : decode cX10_step 86 = .ok (.iaload, 1) := by decide +kernel
theorem dX10_step_87 : decode cX10_step 87 = .ok (.isub, 1) := by decide +kernel
theorem dX10_step_88 : decode cX10_step 88 = .ok (.bipush 12, 2) := by decide +kernel
theorem dX10_step_90 : decode cX10_step 90 = .ok (.if_icmp .lt 10, 3) := by decide +kernel
theorem dX10_step_93 : decode cX10_step 93 = .ok (.aload_n 0, 1) := by decide +kernel
theorem dX10_step_94 : decode cX10_step 94 = .ok (.getfield 7, 3) := by decide +kernel
theorem dX10_step_97 : decode cX10_step 97 = .ok (.iload_n 1, 1) := by decide +kernel
theorem dX10_step_98 : decode cX10_step 98 = .ok (.iconst 0, 1) := by decide +kernel
theorem dX10_step_99 : decode cX10_step 99 = .ok (.iastore, 1) := by decide +kernel
theorem dX10_step_100 : decode cX10_step 100 = .ok (.return_, 1) := by decide +kernel
theorem dX10_tick_0 : decode cX10_tick 0 = .ok (.iload_n 1, 1) := by decide +kernel
theorem dX10_tick_1 : decode cX10_tick 1 = .ok (.iconst 1, 1) := by decide +kernel
theorem dX10_tick_2 : decode cX10_tick 2 = .ok (.if_icmp .lt 9, 3) := by decide +kernel
theorem dX10_tick_5 : decode cX10_tick 5 = .ok (.iload_n 1, 1) := by decide +kernel
theorem dX10_tick_6 : decode cX10_tick 6 = .ok (.bipush 20, 2) := by decide +kernel
theorem dX10_tick_8 : decode cX10_tick 8 = .ok (.if_icmp .le 5, 3) := by decide +kernel
theorem dX10_tick_11 : decode cX10_tick 11 = .ok (.iconst (-1), 1) := by decide +kernel
theorem dX10_tick_12 : decode cX10_tick 12 = .ok (.ireturn, 1) := by decide +kernel
theorem dX10_tick_13 : decode cX10_tick 13 = .ok (.aload_n 0, 1) := by decide +kernel
theorem dX10_tick_14 : decode cX10_tick 14 = .ok (.getfield 198, 3) := by decide +kernel
theorem dX10_tick_17 : decode cX10_tick 17 = .ok (.iload_n 1, 1) := by decide +kernel
theorem dX10_tick_18 : decode cX10_tick 18 = .ok (.iadd, 1) := by decide +kernel
theorem dX10_tick_19 : decode cX10_tick 19 = .ok (.sipush 3000, 3) := by decide +kernel
theorem dX10_tick_22 : decode cX10_tick 22 = .ok (.if_icmp .le 6, 3) := by decide +kernel
theorem dX10_tick_25 : decode cX10_tick 25 = .ok (.bipush (-3), 2) := by decide +kernel
theorem dX10_tick_27 : decode cX10_tick 27 = .ok (.ireturn, 1) := by decide +kernel
theorem dX10_tick_28 : decode cX10_tick 28 = .ok (.iconst 0, 1) := by decide +kernel
theorem dX10_tick_29 : decode cX10_tick 29 = .ok (.istore_n 2, 1) := by decide +kernel
theorem dX10_tick_30 : decode cX10_tick 30 = .ok (.iload_n 2, 1) := by decide +kernel
theorem dX10_tick_31 : decode cX10_tick 31 = .ok (.iload_n 1, 1) := by decide +kernel
theorem dX10_tick_32 : decode cX10_tick 32 = .ok (.if_icmp .ge 33, 3) := by decide +kernel
theorem dX10_tick_35 : decode cX10_tick 35 = .ok (.aload_n 0, 1) := by decide +kernel
theorem dX10_tick_36 : decode cX10_tick 36 = .ok (.dup, 1) := by decide +kernel
theorem dX10_tick_37 : decode cX10_tick 37 = .ok (.getfield 198, 3) := by decide +kernel
theorem dX10_tick_40 : decode cX10_tick 40 = .ok (.iconst 1, 1) := by decide +kernel
theorem dX10_tick_41 : decode cX10_tick 41 = .ok (.iadd, 1) := by decide +kernel
theorem dX10_tick_42 : decode cX10_tick 42 = .ok (.putfield 198, 3) := by decide +kernel
theorem dX10_tick_45 : decode cX10_tick 45 = .ok (.aload_n 0, 1) := by decide +kernel
theorem dX10_tick_46 : decode cX10_tick 46 = .ok (.invokevirtual 328, 3) := by decide +kernel
theorem dX10_tick_49 : decode cX10_tick 49 = .ok (.aload_n 0, 1) := by decide +kernel
theorem dX10_tick_50 : decode cX10_tick 50 = .ok (.iconst 0, 1) := by decide +kernel
theorem dX10_tick_51 : decode cX10_tick 51 = .ok (.invokevirtual 331, 3) := by decide +kernel
theorem dX10_tick_54 : decode cX10_tick 54 = .ok (.aload_n 0, 1) := by decide +kernel
theorem dX10_tick_55 : decode cX10_tick 55 = .ok (.iconst 1, 1) := by decide +kernel
theorem dX10_tick_56 : decode cX10_tick 56 = .ok (.invokevirtual 331, 3) := by decide +kernel
theorem dX10_tick_59 : decode cX10_tick 59 = .ok (.iinc 2 1, 3) := by decide +kernel
theorem dX10_tick_62 : decode cX10_tick 62 = .ok (.goto (-32), 3) := by decide +kernel
theorem dX10_tick_65 : decode cX10_tick 65 = .ok (.aload_n 0, 1) := by decide +kernel
theorem dX10_tick_66 : decode cX10_tick 66 = .ok (.getfield 198, 3) := by decide +kernel
theorem dX10_tick_69 : decode cX10_tick 69 = .ok (.ireturn, 1) := by decide +kernel
theorem dX10_fault_0 : decode cX10_fault 0 = .ok (.iload_n 1, 1) := by decide +kernel
theorem dX10_fault_1 : decode cX10_fault 1 = .ok (.iconst 1, 1) := by decide +kernel
theorem dX10_fault_2 : decode cX10_fault 2 = .ok (.if_icmp .lt 39, 3) := by decide +kernel
theorem dX10_fault_5 : decode cX10_fault 5 = .ok (.iload_n 1, 1) := by decide +kernel
theorem dX10_fault_6 : decode cX10_fault 6 = .ok (.iconst 4, 1) := by decide +kernel
theorem dX10_fault_7 : decode cX10_fault 7 = .ok (.if_icmp .gt 34, 3) := by decide +kernel
theorem dX10_fault_10 : decode cX10_fault 10 = .ok (.iload_n 2, 1) := by decide +kernel
theorem dX10_fault_11 : decode cX10_fault 11 = .ok (.aload_n 0, 1) := by decide +kernel
theorem dX10_fault_12 : decode cX10_fault 12 = .ok (.getfield 195, 3) := by decide +kernel
theorem dX10_fault_15 : decode cX10_fault 15 = .ok (.if_icmp .lt 26, 3) := by decide +kernel
theorem dX10_fault_18 : decode cX10_fault 18 = .ok (.iload_n 1, 1) := by decide +kernel
theorem dX10_fault_19 : decode cX10_fault 19 = .ok (.iconst 4, 1) := by decide +kernel
theorem dX10_fault_20 : decode cX10_fault 20 = .ok (.if_icmp .ne 23, 3) := by decide +kernel
theorem dX10_fault_23 : decode cX10_fault 23 = .ok (.iload_n 3, 1) := by decide +kernel
theorem dX10_fault_24 : decode cX10_fault 24 = .ok (.ifCond .lt 17, 3) := by decide +kernel
theorem dX10_fault_27 : decode cX10_fault 27 = .ok (.iload 4, 2) := by decide +kernel
theorem dX10_fault_29 : decode cX10_fault 29 = .ok (.iconst 1, 1) := by decide +kernel
theorem dX10_fault_30 : decode cX10_fault 30 = .ok (.if_icmp .lt 11, 3) := by decide +kernel
theorem dX10_fault_33 : decode cX10_fault 33 = .ok (.iload 4, 2) := by decide +kernel
theorem dX10_fault_35 : decode cX10_fault 35 = .ok (.sipush 255, 3) := by decide +kernel
theorem dX10_fault_38 : decode cX10_fault 38 = .ok (.if_icmp .le 5, 3) := by decide +kernel
theorem dX10_fault_41 : decode cX10_fault 41 = .ok (.iconst (-1), 1) := by decide +kernel
theorem dX10_fault_42 : decode cX10_fault 42 = .ok (.ireturn, 1) := by decide +kernel
theorem dX10_fault_43 : decode cX10_fault 43 = .ok (.aload_n 0, 1) := by decide +kernel
theorem dX10_fault_44 : decode cX10_fault 44 = .ok (.getfield 302, 3) := by decide +kernel
theorem dX10_fault_47 : decode cX10_fault 47 = .ok (.bipush 60, 2) := by decide +kernel
theorem dX10_fault_49 : decode cX10_fault 49 = .ok (.if_icmp .ne 6, 3) := by decide +kernel
theorem dX10_fault_52 : decode cX10_fault 52 = .ok (.bipush (-3), 2) := by decide +kernel
theorem dX10_fault_54 : decode cX10_fault 54 = .ok (.ireturn, 1) := by decide +kernel
theorem dX10_fault_55 : decode cX10_fault 55 = .ok (.aload_n 0, 1) := by decide +kernel
theorem dX10_fault_56 : decode cX10_fault 56 = .ok (.getfield 152, 3) := by decide +kernel
theorem dX10_fault_59 : decode cX10_fault 59 = .ok (.aload_n 0, 1) := by decide +kernel
theorem dX10_fault_60 : decode cX10_fault 60 = .ok (.getfield 302, 3) := by decide +kernel
theorem dX10_fault_63 : decode cX10_fault 63 = .ok (.iload_n 1, 1) := by decide +kernel
theorem dX10_fault_64 : decode cX10_fault 64 = .ok (.iastore, 1) := by decide +kernel
theorem dX10_fault_65 : decode cX10_fault 65 = .ok (.aload_n 0, 1) := by decide +kernel
theorem dX10_fault_66 : decode cX10_fault 66 = .ok (.getfield 155, 3) := by decide +kernel
theorem dX10_fault_69 : decode cX10_fault 69 = .ok (.aload_n 0, 1) := by decide +kernel
theorem dX10_fault_70 : decode cX10_fault 70 = .ok (.getfield 302, 3) := by decide +kernel
theorem dX10_fault_73 : decode cX10_fault 73 = .ok (.iload_n 2, 1) := by decide +kernel
theorem dX10_fault_74 : decode cX10_fault 74 = .ok (.iastore, 1) := by decide +kernel
theorem dX10_fault_75 : decode cX10_fault 75 = .ok (.aload_n 0, 1) := by decide +kernel
theorem dX10_fault_76 : decode cX10_fault 76 = .ok (.getfield 158, 3) := by decide +kernel
theorem dX10_fault_79 : decode cX10_fault 79 = .ok (.aload_n 0, 1) := by decide +kernel
theorem dX10_fault_80 : decode cX10_fault 80 = .ok (.getfield 302, 3) := by decide +kernel
theorem dX10_fault_83 : decode cX10_fault 83 = .ok (.iload_n 3, 1) := by decide +kernel
theorem dX10_fault_84 : decode cX10_fault 84 = .ok (.iastore, 1) := by decide +kernel
theorem dX10_fault_85 : decode cX10_fault 85 = .ok (.aload_n 0, 1) := by decide +kernel
theorem dX10_fault_86 : decode cX10_fault 86 = .ok (.getfield 161, 3) := by decide +kernel
theorem dX10_fault_89 : decode cX10_fault 89 = .ok (.aload_n 0, 1) := by decide +kernel
theorem dX10_fault_90 : decode cX10_fault 90 = .ok (.getfield 302, 3) := by decide +kernel
theorem dX10_fault_93 : decode cX10_fault 93 = .ok (.iload 4, 2) := by decide +kernel
theorem dX10_fault_95 : decode cX10_fault 95 = .ok (.iastore, 1) := by decide +kernel
theorem dX10_fault_96 : decode cX10_fault 96 = .ok (.aload_n 0, 1) := by decide +kernel
theorem dX10_fault_97 : decode cX10_fault 97 = .ok (.dup, 1) := by decide +kernel
theorem dX10_fault_98 : decode cX10_fault 98 = .ok (.getfield 302, 3) := by decide +kernel
theorem dX10_fault_101 : decode cX10_fault 101 = .ok (.iconst 1, 1) := by decide +kernel
theorem dX10_fault_102 : decode cX10_fault 102 = .ok (.iadd, 1) := by decide +kernel
theorem dX10_fault_103 : decode cX10_fault 103 = .ok (.putfield 302, 3) := by decide +kernel
theorem dX10_fault_106 : decode cX10_fault 106 = .ok (.aload_n 0, 1) := by decide +kernel
theorem dX10_fault_107 : decode cX10_fault 107 = .ok (.getfield 302, 3) := by decide +kernel
theorem dX10_fault_110 : decode cX10_fault 110 = .ok (.ireturn, 1) := by decide +kernel
theorem dX10_take_0 : decode cX10_take 0 = .ok (.iload_n 1, 1) := by decide +kernel
theorem dX10_take_1 : decode cX10_take 1 = .ok (.invokestatic 231, 3) := by decide +kernel
theorem dX10_take_4 : decode cX10_take 4 = .ok (.ifCond .ne 5, 3) := by decide +kernel
theorem dX10_take_7 : decode cX10_take 7 = .ok (.iconst (-1), 1) := by decide +kernel
theorem dX10_take_8 : decode cX10_take 8 = .ok (.ireturn, 1) := by decide +kernel
theorem dX10_take_9 : decode cX10_take 9 = .ok (.aload_n 0, 1) := by decide +kernel
theorem dX10_take_10 : decode cX10_take 10 = .ok (.getfield 122, 3) := by decide +kernel
theorem dX10_take_13 : decode cX10_take 13 = .ok (.iload_n 1, 1) := by decide +kernel
theorem dX10_take_14 : decode cX10_take 14 = .ok (.iaload, 1) := by decide +kernel
theorem dX10_take_15 : decode cX10_take 15 = .ok (.ifCond .ne 6, 3) := by decide +kernel
theorem dX10_take_18 : decode cX10_take 18 = .ok (.bipush (-2), 2) := by decide +kernel
theorem dX10_take_20 : decode cX10_take 20 = .ok (.ireturn, 1) := by decide +kernel
theorem dX10_take_21 : decode cX10_take 21 = .ok (.aload_n 0, 1) := by decide +kernel
theorem dX10_take_22 : decode cX10_take 22 = .ok (.iload_n 1, 1) := by decide +kernel
theorem dX10_take_23 : decode cX10_take 23 = .ok (.invokevirtual 214, 3) := by decide +kernel
theorem dX10_take_26 : decode cX10_take 26 = .ok (.ifCond .ne 7, 3) := by decide +kernel
theorem dX10_take_29 : decode cX10_take 29 = .ok (.iconst 1, 1) := by decide +kernel
theorem dX10_take_30 : decode cX10_take 30 = .ok (.goto 4, 3) := by decide +kernel
theorem dX10_take_33 : decode cX10_take 33 = .ok (.iconst 0, 1) := by decide +kernel
theorem dX10_take_34 : decode cX10_take 34 = .ok (.istore_n 2, 1) := by decide +kernel
theorem dX10_take_35 : decode cX10_take 35 = .ok (.aload_n 0, 1) := by decide +kernel
theorem dX10_take_36 : decode cX10_take 36 = .ok (.getfield 125, 3) := by decide +kernel
theorem dX10_take_39 : decode cX10_take 39 = .ok (.bipush 64, 2) := by decide +kernel
theorem dX10_take_41 : decode cX10_take 41 = .ok (.iload_n 1, 1) := by decide +kernel
theorem dX10_take_42 : decode cX10_take 42 = .ok (.imul, 1) := by decide +kernel
theorem dX10_take_43 : decode cX10_take 43 = .ok (.iaload, 1) := by decide +kernel
theorem dX10_take_44 : decode cX10_take 44 = .ok (.istore_n 3, 1) := by decide +kernel
theorem dX10_take_45 : decode cX10_take 45 = .ok (.iconst 0, 1) := by decide +kernel
theorem dX10_take_46 : decode cX10_take 46 = .ok (.istore 4, 2) := by decide +kernel
theorem dX10_take_48 : decode cX10_take 48 = .ok (.iload 4, 2) := by decide +kernel
theorem dX10_take_50 : decode cX10_take 50 = .ok (.aload_n 0, 1) := by decide +kernel
theorem dX10_take_51 : decode cX10_take 51 = .ok (.getfield 134, 3) := by decide +kernel
theorem dX10_take_54 : decode cX10_take 54 = .ok (.iload_n 1, 1) := by decide +kernel
theorem dX10_take_55 : decode cX10_take 55 = .ok (.iaload, 1) := by decide +kernel
theorem dX10_take_56 : decode cX10_take 56 = .ok (.if_icmp .ge 65, 3) := by decide +kernel
theorem dX10_take_59 : decode cX10_take 59 = .ok (.aload_n 0, 1) := by decide +kernel
theorem dX10_take_60 : decode cX10_take 60 = .ok (.getfield 131, 3) := by decide +kernel
theorem dX10_take_63 : decode cX10_take 63 = .ok (.sipush 8192, 3) := by decide +kernel
theorem dX10_take_66 : decode cX10_take 66 = .ok (.iload_n 1, 1) := by decide +kernel
theorem dX10_take_67 : decode cX10_take 67 = .ok (.imul, 1) := by decide +kernel
theorem dX10_take_68 : decode cX10_take 68 = .ok (.iload 4, 2) := by decide +kernel
theorem dX10_take_70 : decode cX10_take 70 = .ok (.iadd, 1) := by decide +kernel
theorem dX10_take_71 : decode cX10_take 71 = .ok (.iaload, 1) := by decide +kernel
theorem dX10_take_72 : decode cX10_take 72 = .ok (.istore 5, 2) := by decide +kernel
theorem dX10_take_74 : decode cX10_take 74 = .ok (.iload 4, 2) := by decide +kernel
theorem dX10_take_76 : decode cX10_take 76 = .ok (.iload_n 3, 1) := by decide +kernel
theorem dX10_take_77 : decode cX10_take 77 = .ok (.if_icmp .ge 21, 3) := by decide +kernel
theorem dX10_take_80 : decode cX10_take 80 = .ok (.aload_n 0, 1) := by decide +kernel
theorem dX10_take_81 : decode cX10_take 81 = .ok (.getfield 140, 3) := by decide +kernel
theorem dX10_take_84 : decode cX10_take 84 = .ok (.sipush 4096, 3) := by decide +kernel
theorem dX10_take_87 : decode cX10_take 87 = .ok (.iload_n 1, 1) := by decide +kernel
theorem dX10_take_88 : decode cX10_take 88 = .ok (.imul, 1) := by decide +kernel
theorem dX10_take_89 : decode cX10_take 89 = .ok (.iload 4, 2) := by decide +kernel
theorem dX10_take_91 : decode cX10_take 91 = .ok (.iadd, 1) := by decide +kernel
theorem dX10_take_92 : decode cX10_take 92 = .ok (.iload 5, 2) := by decide +kernel
theorem dX10_take_94 : decode cX10_take 94 = .ok (.iastore, 1) := by decide +kernel
theorem dX10_take_95 : decode cX10_take 95 = .ok (.goto 20, 3) := by decide +kernel
theorem dX10_take_98 : decode cX10_take 98 = .ok (.aload_n 0, 1) := by decide +kernel
theorem dX10_take_99 : decode cX10_take 99 = .ok (.getfield 131, 3) := by decide +kernel
theorem dX10_take_102 : decode cX10_take 102 = .ok (.sipush 8192, 3) := by decide +kernel
theorem dX10_take_105 : decode cX10_take 105 = .ok (.iload_n 1, 1) := by decide +kernel
theorem dX10_take_106 : decode cX10_take 106 = .ok (.imul, 1) := by decide +kernel
theorem dX10_take_107 : decode cX10_take 107 = .ok (.iload 4, 2) := by decide +kernel
theorem dX10_take_109 : decode cX10_take 109 = .ok (.iadd, 1) := by decide +kernel
theorem dX10_take_110 : decode cX10_take 110 = .ok (.iload_n 3, 1) := by decide +kernel
theorem dX10_take_111 : decode cX10_take 111 = .ok (.isub, 1) := by decide +kernel
theorem dX10_take_112 : decode cX10_take 112 = .ok (.iload 5, 2) := by decide +kernel
theorem dX10_take_114 : decode cX10_take 114 = .ok (.iastore, 1) := by decide +kernel
theorem dX10_take_115 : decode cX10_take 115 = .ok (.iinc 4 1, 3) := by decide +kernel
theorem dX10_take_118 : decode cX10_take 118 = .ok (.goto (-70), 3) := by decide +kernel
theorem dX10_take_121 : decode cX10_take 121 = .ok (.aload_n 0, 1) := by decide +kernel
theorem dX10_take_122 : decode cX10_take 122 = .ok (.getfield 137, 3) := by decide +kernel
theorem dX10_take_125 : decode cX10_take 125 = .ok (.iload_n 1, 1) := by decide +kernel
theorem dX10_take_126 : decode cX10_take 126 = .ok (.iload_n 3, 1) := by decide +kernel
theorem dX10_take_127 : decode cX10_take 127 = .ok (.iastore, 1) := by decide +kernel
theorem dX10_take_128 : decode cX10_take 128 = .ok (.aload_n 0, 1) := by decide +kernel
theorem dX10_take_129 : decode cX10_take 129 = .ok (.getfield 134, 3) := by decide +kernel
theorem dX10_take_132 : decode cX10_take 132 = .ok (.iload_n 1, 1) := by decide +kernel
theorem dX10_take_133 : decode cX10_take 133 = .ok (.dup2, 1) := by decide +kernel
theorem dX10_take_134 : decode cX10_take 134 = .ok (.iaload, 1) := by decide +kernel
theorem dX10_take_135 : decode cX10_take 135 = .ok (.iload_n 3, 1) := by decide +kernel
theorem dX10_take_136 : decode cX10_take 136 = .ok (.isub, 1) := by decide +kernel
theorem dX10_take_137 : decode cX10_take 137 = .ok (.iastore, 1) := by decide +kernel
theorem dX10_take_138 : decode cX10_take 138 = .ok (.aload_n 0, 1) := by decide +kernel
theorem dX10_take_139 : decode cX10_take 139 = .ok (.getfield 122, 3) := by decide +kernel
theorem dX10_take_142 : decode cX10_take 142 = .ok (.iload_n 1, 1) := by decide +kernel
theorem dX10_take_143 : decode cX10_take 143 = .ok (.dup2, 1) := by decide +kernel
theorem dX10_take_144 : decode cX10_take 144 = .ok (.iaload, 1) := by decide +kernel
theorem dX10_take_145 : decode cX10_take 145 = .ok (.iconst 1, 1) := by decide +kernel
theorem dX10_take_146 : decode cX10_take 146 = .ok (.isub, 1) := by decide +kernel
theorem dX10_take_147 : decode cX10_take 147 = .ok (.iastore, 1) := by decide +kernel
theorem dX10_take_148 : decode cX10_take 148 = .ok (.bipush 64, 2) := by decide +kernel
