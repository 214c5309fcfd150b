theorem dX1_init_0 : decode cX1_init 0 = .ok (.aload_n 0, 1) := by decide +kernel
theorem dX1_init_1 : decode cX1_init 1 = .ok (.invokespecial 3, 3) := by decide +kernel
theorem dX1_init_4 : decode cX1_init 4 = .ok (.aload_n 0, 1) := by decide +kernel
theorem dX1_init_5 : decode cX1_init 5 = .ok (.bipush 8, 2) := by decide +kernel
theorem dX1_init_7 : decode cX1_init 7 = .ok (.bipush 8, 2) := by decide +kernel
theorem dX1_init_9 : decode cX1_init 9 = .ok (.multianewarray 9 2, 4) := by decide +kernel
theorem dX1_init_13 : decode cX1_init 13 = .ok (.putfield 11, 3) := by decide +kernel
theorem dX1_init_16 : decode cX1_init 16 = .ok (.aload_n 0, 1) := by decide +kernel
theorem dX1_init_17 : decode cX1_init 17 = .ok (.bipush 8, 2) := by decide +kernel
theorem dX1_init_19 : decode cX1_init 19 = .ok (.newarray .int, 2) := by decide +kernel
theorem dX1_init_21 : decode cX1_init 21 = .ok (.putfield 16, 3) := by decide +kernel
theorem dX1_init_24 : decode cX1_init 24 = .ok (.aload_n 0, 1) := by decide +kernel
theorem dX1_init_25 : decode cX1_init 25 = .ok (.bipush 8, 2) := by decide +kernel
theorem dX1_init_27 : decode cX1_init 27 = .ok (.newarray .boolean, 2) := by decide +kernel
theorem dX1_init_29 : decode cX1_init 29 = .ok (.putfield 20, 3) := by decide +kernel
theorem dX1_init_32 : decode cX1_init 32 = .ok (.aload_n 0, 1) := by decide +kernel
theorem dX1_init_33 : decode cX1_init 33 = .ok (.bipush 8, 2) := by decide +kernel
theorem dX1_init_35 : decode cX1_init 35 = .ok (.newarray .boolean, 2) := by decide +kernel
theorem dX1_init_37 : decode cX1_init 37 = .ok (.putfield 24, 3) := by decide +kernel
theorem dX1_init_40 : decode cX1_init 40 = .ok (.aload_n 0, 1) := by decide +kernel
theorem dX1_init_41 : decode cX1_init 41 = .ok (.sipush 256, 3) := by decide +kernel
theorem dX1_init_44 : decode cX1_init 44 = .ok (.newarray .int, 2) := by decide +kernel
theorem dX1_init_46 : decode cX1_init 46 = .ok (.putfield 27, 3) := by decide +kernel
theorem dX1_init_49 : decode cX1_init 49 = .ok (.aload_n 0, 1) := by decide +kernel
theorem dX1_init_50 : decode cX1_init 50 = .ok (.bipush 32, 2) := by decide +kernel
theorem dX1_init_52 : decode cX1_init 52 = .ok (.newarray .int, 2) := by decide +kernel
theorem dX1_init_54 : decode cX1_init 54 = .ok (.putfield 30, 3) := by decide +kernel
theorem dX1_init_57 : decode cX1_init 57 = .ok (.aload_n 0, 1) := by decide +kernel
theorem dX1_init_58 : decode cX1_init 58 = .ok (.bipush 32, 2) := by decide +kernel
theorem dX1_init_60 : decode cX1_init 60 = .ok (.newarray .int, 2) := by decide +kernel
theorem dX1_init_62 : decode cX1_init 62 = .ok (.putfield 33, 3) := by decide +kernel
theorem dX1_init_65 : decode cX1_init 65 = .ok (.aload_n 0, 1) := by decide +kernel
theorem dX1_init_66 : decode cX1_init 66 = .ok (.sipush 256, 3) := by decide +kernel
theorem dX1_init_69 : decode cX1_init 69 = .ok (.newarray .int, 2) := by decide +kernel
theorem dX1_init_71 : decode cX1_init 71 = .ok (.putfield 36, 3) := by decide +kernel
theorem dX1_init_74 : decode cX1_init 74 = .ok (.return_, 1) := by decide +kernel
theorem dX1_clear_0 : decode cX1_clear 0 = .ok (.iconst 0, 1) := by decide +kernel
theorem dX1_clear_1 : decode cX1_clear 1 = .ok (.istore_n 1, 1) := by decide +kernel
theorem dX1_clear_2 : decode cX1_clear 2 = .ok (.iload_n 1, 1) := by decide +kernel
theorem dX1_clear_3 : decode cX1_clear 3 = .ok (.bipush 8, 2) := by decide +kernel
theorem dX1_clear_5 : decode cX1_clear 5 = .ok (.if_icmp .ge 16, 3) := by decide +kernel
theorem dX1_clear_8 : decode cX1_clear 8 = .ok (.aload_n 0, 1) := by decide +kernel
theorem dX1_clear_9 : decode cX1_clear 9 = .ok (.getfield 24, 3) := by decide +kernel
theorem dX1_clear_12 : decode cX1_clear 12 = .ok (.iload_n 1, 1) := by decide +kernel
theorem dX1_clear_13 : decode cX1_clear 13 = .ok (.iconst 0, 1) := by decide +kernel
theorem dX1_clear_14 : decode cX1_clear 14 = .ok (.bastore, 1) := by decide +kernel
theorem dX1_clear_15 : decode cX1_clear 15 = .ok (.iinc 1 1, 3) := by decide +kernel
theorem dX1_clear_18 : decode cX1_clear 18 = .ok (.goto (-16), 3) := by decide +kernel
theorem dX1_clear_21 : decode cX1_clear 21 = .ok (.aload_n 0, 1) := by decide +kernel
theorem dX1_clear_22 : decode cX1_clear 22 = .ok (.iconst 0, 1) := by decide +kernel
theorem dX1_clear_23 : decode cX1_clear 23 = .ok (.putfield 39, 3) := by decide +kernel
theorem dX1_clear_26 : decode cX1_clear 26 = .ok (.aload_n 0, 1) := by decide +kernel
theorem dX1_clear_27 : decode cX1_clear 27 = .ok (.iconst 0, 1) := by decide +kernel
theorem dX1_clear_28 : decode cX1_clear 28 = .ok (.putfield 43, 3) := by decide +kernel
theorem dX1_clear_31 : decode cX1_clear 31 = .ok (.aload_n 0, 1) := by decide +kernel
theorem dX1_clear_32 : decode cX1_clear 32 = .ok (.iconst 0, 1) := by decide +kernel
theorem dX1_clear_33 : decode cX1_clear 33 = .ok (.putfield 46, 3) := by decide +kernel
theorem dX1_clear_36 : decode cX1_clear 36 = .ok (.aload_n 0, 1) := by decide +kernel
theorem dX1_clear_37 : decode cX1_clear 37 = .ok (.iconst 0, 1) := by decide +kernel
theorem dX1_clear_38 : decode cX1_clear 38 = .ok (.putfield 49, 3) := by decide +kernel
theorem dX1_clear_41 : decode cX1_clear 41 = .ok (.aload_n 0, 1) := by decide +kernel
theorem dX1_clear_42 : decode cX1_clear 42 = .ok (.iconst 0, 1) := by decide +kernel
theorem dX1_clear_43 : decode cX1_clear 43 = .ok (.putfield 52, 3) := by decide +kernel
theorem dX1_clear_46 : decode cX1_clear 46 = .ok (.aload_n 0, 1) := by decide +kernel
theorem dX1_clear_47 : decode cX1_clear 47 = .ok (.iconst 0, 1) := by decide +kernel
theorem dX1_clear_48 : decode cX1_clear 48 = .ok (.putfield 55, 3) := by decide +kernel
theorem dX1_clear_51 : decode cX1_clear 51 = .ok (.return_, 1) := by decide +kernel
theorem dX1_credit_0 : decode cX1_credit 0 = .ok (.iconst 0, 1) := by decide +kernel
theorem dX1_credit_1 : decode cX1_credit 1 = .ok (.bipush 6, 2) := by decide +kernel
theorem dX1_credit_3 : decode cX1_credit 3 = .ok (.aload_n 0, 1) := by decide +kernel
theorem dX1_credit_4 : decode cX1_credit 4 = .ok (.getfield 49, 3) := by decide +kernel
theorem dX1_credit_7 : decode cX1_credit 7 = .ok (.isub, 1) := by decide +kernel
theorem dX1_credit_8 : decode cX1_credit 8 = .ok (.invokestatic 58, 3) := by decide +kernel
theorem dX1_credit_11 : decode cX1_credit 11 = .ok (.ireturn, 1) := by decide +kernel
theorem dX1_accept_0 : decode cX1_accept 0 = .ok (.aload_n 1, 1) := by decide +kernel
theorem dX1_accept_1 : decode cX1_accept 1 = .ok (.invokevirtual 64, 3) := by decide +kernel
theorem dX1_accept_4 : decode cX1_accept 4 = .ok (.istore_n 2, 1) := by decide +kernel
theorem dX1_accept_5 : decode cX1_accept 5 = .ok (.iload_n 2, 1) := by decide +kernel
theorem dX1_accept_6 : decode cX1_accept 6 = .ok (.bipush 7, 2) := by decide +kernel
theorem dX1_accept_8 : decode cX1_accept 8 = .ok (.iand, 1) := by decide +kernel
theorem dX1_accept_9 : decode cX1_accept 9 = .ok (.istore_n 3, 1) := by decide +kernel
theorem dX1_accept_10 : decode cX1_accept 10 = .ok (.iload_n 2, 1) := by decide +kernel
theorem dX1_accept_11 : decode cX1_accept 11 = .ok (.aload_n 0, 1) := by decide +kernel
theorem dX1_accept_12 : decode cX1_accept 12 = .ok (.getfield 39, 3) := by decide +kernel
theorem dX1_accept_15 : decode cX1_accept 15 = .ok (.isub, 1) := by decide +kernel
theorem dX1_accept_16 : decode cX1_accept 16 = .ok (.bipush 127, 2) := by decide +kernel
theorem dX1_accept_18 : decode cX1_accept 18 = .ok (.iand, 1) := by decide +kernel
theorem dX1_accept_19 : decode cX1_accept 19 = .ok (.aload_n 0, 1) := by decide +kernel
theorem dX1_accept_20 : decode cX1_accept 20 = .ok (.invokevirtual 70, 3) := by decide +kernel
theorem dX1_accept_23 : decode cX1_accept 23 = .ok (.if_icmp .ge 7, 3) := by decide +kernel
theorem dX1_accept_26 : decode cX1_accept 26 = .ok (.iconst 1, 1) := by decide +kernel
theorem dX1_accept_27 : decode cX1_accept 27 = .ok (.goto 4, 3) := by decide +kernel
theorem dX1_accept_30 : decode cX1_accept 30 = .ok (.iconst 0, 1) := by decide +kernel
theorem dX1_accept_31 : decode cX1_accept 31 = .ok (.istore 4, 2) := by decide +kernel
theorem dX1_accept_33 : decode cX1_accept 33 = .ok (.iload 4, 2) := by decide +kernel
theorem dX1_accept_35 : decode cX1_accept 35 = .ok (.ifCond .eq 12, 3) := by decide +kernel
theorem dX1_accept_38 : decode cX1_accept 38 = .ok (.aload_n 0, 1) := by decide +kernel
theorem dX1_accept_39 : decode cX1_accept 39 = .ok (.getfield 24, 3) := by decide +kernel
theorem dX1_accept_42 : decode cX1_accept 42 = .ok (.iload_n 3, 1) := by decide +kernel
theorem dX1_accept_43 : decode cX1_accept 43 = .ok (.baload, 1) := by decide +kernel
theorem dX1_accept_44 : decode cX1_accept 44 = .ok (.ifCond .eq 4, 3) := by decide +kernel
theorem dX1_accept_47 : decode cX1_accept 47 = .ok (.return_, 1) := by decide +kernel
theorem dX1_accept_48 : decode cX1_accept 48 = .ok (.aload_n 1, 1) := by decide +kernel
theorem dX1_accept_49 : decode cX1_accept 49 = .ok (.invokevirtual 73, 3) := by decide +kernel
theorem dX1_accept_52 : decode cX1_accept 52 = .ok (.istore 5, 2) := by decide +kernel
theorem dX1_accept_54 : decode cX1_accept 54 = .ok (.aload_n 0, 1) := by decide +kernel
theorem dX1_accept_55 : decode cX1_accept 55 = .ok (.getfield 24, 3) := by decide +kernel
theorem dX1_accept_58 : decode cX1_accept 58 = .ok (.iload_n 3, 1) := by decide +kernel
theorem dX1_accept_59 : decode cX1_accept 59 = .ok (.iconst 1, 1) := by decide +kernel
theorem dX1_accept_60 : decode cX1_accept 60 = .ok (.bastore, 1) := by decide +kernel
theorem dX1_accept_61 : decode cX1_accept 61 = .ok (.aload_n 0, 1) := by decide +kernel
theorem dX1_accept_62 : decode cX1_accept 62 = .ok (.getfield 20, 3) := by decide +kernel
theorem dX1_accept_65 : decode cX1_accept 65 = .ok (.iload_n 3, 1) := by decide +kernel
theorem dX1_accept_66 : decode cX1_accept 66 = .ok (.aload_n 1, 1) := by decide +kernel
theorem dX1_accept_67 : decode cX1_accept 67 = .ok (.invokevirtual 76, 3) := by decide +kernel
theorem dX1_accept_70 : decode cX1_accept 70 = .ok (.bastore, 1) := by decide +kernel
theorem dX1_accept_71 : decode cX1_accept 71 = .ok (.aload_n 0, 1) := by decide +kernel
theorem dX1_accept_72 : decode cX1_accept 72 = .ok (.getfield 16, 3) := by decide +kernel
theorem dX1_accept_75 : decode cX1_accept 75 = .ok (.iload_n 3, 1) := by decide +kernel
theorem dX1_accept_76 : decode cX1_accept 76 = .ok (.aload_n 1, 1) := by decide +kernel
theorem dX1_accept_77 : decode cX1_accept 77 = .ok (.getfield 80, 3) := by decide +kernel
theorem dX1_accept_80 : decode cX1_accept 80 = .ok (.iload 5, 2) := by decide +kernel
theorem dX1_accept_82 : decode cX1_accept 82 = .ok (.isub, 1) := by decide +kernel
theorem dX1_accept_83 : decode cX1_accept 83 = .ok (.iastore, 1) := by decide +kernel
theorem dX1_accept_84 : decode cX1_accept 84 = .ok (.aload_n 1, 1) := by decide +kernel
theorem dX1_accept_85 : decode cX1_accept 85 = .ok (.getfield 83, 3) := by decide +kernel
theorem dX1_accept_88 : decode cX1_accept 88 = .ok (.iload 5, 2) := by decide +kernel
theorem dX1_accept_90 : decode cX1_accept 90 = .ok (.aload_n 0, 1) := by decide +kernel
theorem dX1_accept_91 : decode cX1_accept 91 = .ok (.getfield 11, 3) := by decide +kernel
theorem dX1_accept_94 : decode cX1_accept 94 = .ok (.iload_n 3, 1) := by decide +kernel
theorem dX1_accept_95 : decode cX1_accept 95 = .ok (.aaload, 1) := by decide +kernel
theorem dX1_accept_96 : decode cX1_accept 96 = .ok (.iconst 0, 1) := by decide +kernel
theorem dX1_accept_97 : decode cX1_accept 97 = .ok (.aload_n 0, 1) := by decide +kernel
theorem dX1_accept_98 : decode cX1_accept 98 = .ok (.getfield 16, 3) := by decide +kernel
theorem dX1_accept_101 : decode cX1_accept 101 = .ok (.iload_n 3, 1) := by decide +kernel
theorem dX1_accept_102 : decode cX1_accept 102 = .ok (.iaload, 1) := by decide +kernel
theorem dX1_accept_103 : decode cX1_accept 103 = .ok (.invokestatic 84, 3) := by decide +kernel
theorem dX1_accept_106 : decode cX1_accept 106 = .ok (.iconst 0, 1) := by decide +kernel
theorem dX1_accept_107 : decode cX1_accept 107 = .ok (.istore 6, 2) := by decide +kernel
theorem dX1_accept_109 : decode cX1_accept 109 = .ok (.iload 6, 2) := by decide +kernel
theorem dX1_accept_111 : decode cX1_accept 111 = .ok (.bipush 8, 2) := by decide +kernel
theorem dX1_accept_113 : decode cX1_accept 113 = .ok (.if_icmp .ge 28, 3) := by decide +kernel
theorem dX1_accept_116 : decode cX1_accept 116 = .ok (.aload_n 0, 1) := by decide +kernel
theorem dX1_accept_117 : decode cX1_accept 117 = .ok (.getfield 24, 3) := by decide +kernel
theorem dX1_accept_120 : decode cX1_accept 120 = .ok (.aload_n 0, 1) := by decide +kernel
theorem dX1_accept_121 : decode cX1_accept 121 = .ok (.getfield 39, 3) := by decide +kernel
theorem dX1_accept_124 : decode cX1_accept 124 = .ok (.bipush 7, 2) := by decide +kernel
theorem dX1_accept_126 : decode cX1_accept 126 = .ok (.iand, 1) := by decide +kernel
theorem dX1_accept_127 : decode cX1_accept 127 = .ok (.baload, 1) := by decide +kernel
theorem dX1_accept_128 : decode cX1_accept 128 = .ok (.ifCond .eq 13, 3) := by decide +kernel
theorem dX1_accept_131 : decode cX1_accept 131 = .ok (.aload_n 0, 1) := by decide +kernel
theorem dX1_accept_132 : decode cX1_accept 132 = .ok (.invokevirtual 90, 3) := by decide +kernel
theorem dX1_accept_135 : decode cX1_accept 135 = .ok (.iinc 6 1, 3) := by decide +kernel
theorem dX1_accept_138 : decode cX1_accept 138 = .ok (.goto (-29), 3) := by decide +kernel
theorem dX1_accept_141 : decode cX1_accept 141 = .ok (.return_, 1) := by decide +kernel
theorem dX1_appendExpected_0 : decode cX1_appendExpected 0 = .ok (.aload_n 0, 1) := by decide +kernel
theorem dX1_appendExpected_1 : decode cX1_appendExpected 1 = .ok (.getfield 39, 3) := by decide +kernel
theorem dX1_appendExpected_4 : decode cX1_appendExpected 4 = .ok (.bipush 7, 2) := by decide +kernel
theorem dX1_appendExpected_6 : decode cX1_appendExpected 6 = .ok (.iand, 1) := by decide +kernel
theorem dX1_appendExpected_7 : decode cX1_appendExpected 7 = .ok (.istore_n 1, 1) := by decide +kernel
theorem dX1_appendExpected_8 : decode cX1_appendExpected 8 = .ok (.aload_n 0, 1) := by decide +kernel
theorem dX1_appendExpected_9 : decode cX1_appendExpected 9 = .ok (.getfield 16, 3) := by decide +kernel
theorem dX1_appendExpected_12 : decode cX1_appendExpected 12 = .ok (.iload_n 1, 1) := by decide +kernel
theorem dX1_appendExpected_13 : decode cX1_appendExpected 13 = .ok (.iaload, 1) := by decide +kernel
theorem dX1_appendExpected_14 : decode cX1_appendExpected 14 = .ok (.istore_n 2, 1) := by decide +kernel
theorem dX1_appendExpected_15 : decode cX1_appendExpected 15 = .ok (.aload_n 0, 1) := by decide +kernel
theorem dX1_appendExpected_16 : decode cX1_appendExpected 16 = .ok (.getfield 24, 3) := by decide +kernel
theorem dX1_appendExpected_19 : decode cX1_appendExpected 19 = .ok (.iload_n 1, 1) := by decide +kernel
theorem dX1_appendExpected_20 : decode cX1_appendExpected 20 = .ok (.iconst 0, 1) := by decide +kernel
theorem dX1_appendExpected_21 : decode cX1_appendExpected 21 = .ok (.bastore, 1) := by decide +kernel
theorem dX1_appendExpected_22 : decode cX1_appendExpected 22 = .ok (.aload_n 0, 1) := by decide +kernel
theorem dX1_appendExpected_23 : decode cX1_appendExpected 23 = .ok (.aload_n 0, 1) := by decide +kernel
theorem dX1_appendExpected_24 : decode cX1_appendExpected 24 = .ok (.getfield 39, 3) := by decide +kernel
theorem dX1_appendExpected_27 : decode cX1_appendExpected 27 = .ok (.iconst 1, 1) := by decide +kernel
theorem dX1_appendExpected_28 : decode cX1_appendExpected 28 = .ok (.iadd, 1) := by decide +kernel
theorem dX1_appendExpected_29 : decode cX1_appendExpected 29 = .ok (.bipush 127, 2) := by decide +kernel
theorem dX1_appendExpected_31 : decode cX1_appendExpected 31 = .ok (.iand, 1) := by decide +kernel
theorem dX1_appendExpected_32 : decode cX1_appendExpected 32 = .ok (.putfield 39, 3) := by decide +kernel
theorem dX1_appendExpected_35 : decode cX1_appendExpected 35 = .ok (.aload_n 0, 1) := by decide +kernel
theorem dX1_appendExpected_36 : decode cX1_appendExpected 36 = .ok (.getfield 43, 3) := by decide +kernel
theorem dX1_appendExpected_39 : decode cX1_appendExpected 39 = .ok (.iload_n 2, 1) := by decide +kernel
theorem dX1_appendExpected_40 : decode cX1_appendExpected 40 = .ok (.iadd, 1) := by decide +kernel
theorem dX1_appendExpected_41 : decode cX1_appendExpected 41 = .ok (.aload_n 0, 1) := by decide +kernel
theorem dX1_appendExpected_42 : decode cX1_appendExpected 42 = .ok (.getfield 27, 3) := by decide +kernel
theorem dX1_appendExpected_45 : decode cX1_appendExpected 45 = .ok (.arraylength, 1) := by decide +kernel
theorem dX1_appendExpected_46 : decode cX1_appendExpected 46 = .ok (.if_icmp .gt 12, 3) := by decide +kernel
theorem dX1_appendExpected_49 : decode cX1_appendExpected 49 = .ok (.aload_n 0, 1) := by decide +kernel
theorem dX1_appendExpected_50 : decode cX1_appendExpected 50 = .ok (.getfield 46, 3) := by decide +kernel
theorem dX1_appendExpected_53 : decode cX1_appendExpected 53 = .ok (.bipush 32, 2) := by decide +kernel
theorem dX1_appendExpected_55 : decode cX1_appendExpected 55 = .ok (.if_icmp .lt 4, 3) := by decide +kernel
theorem dX1_appendExpected_58 : decode cX1_appendExpected 58 = .ok (.return_, 1) := by decide +kernel
theorem dX1_appendExpected_59 : decode cX1_appendExpected 59 = .ok (.aload_n 0, 1) := by decide +kernel
theorem dX1_appendExpected_60 : decode cX1_appendExpected 60 = .ok (.getfield 11, 3) := by decide +kernel
theorem dX1_appendExpected_63 : decode cX1_appendExpected 63 = .ok (.iload_n 1, 1) := by decide +kernel
theorem dX1_appendExpected_64 : decode cX1_appendExpected 64 = .ok (.aaload, 1) := by decide +kernel
theorem dX1_appendExpected_65 : decode cX1_appendExpected 65 = .ok (.iconst 0, 1) := by decide +kernel
theorem dX1_appendExpected_66 : decode cX1_appendExpected 66 = .ok (.aload_n 0, 1) := by decide +kernel
theorem dX1_appendExpected_67 : decode cX1_appendExpected 67 = .ok (.getfield 27, 3) := by decide +kernel
theorem dX1_appendExpected_70 : decode cX1_appendExpected 70 = .ok (.aload_n 0, 1) := by decide +kernel
theorem dX1_appendExpected_71 : decode cX1_appendExpected 71 = .ok (.getfield 43, 3) := by decide +kernel
theorem dX1_appendExpected_74 : decode cX1_appendExpected 74 = .ok (.iload_n 2, 1) := by decide +kernel
theorem dX1_appendExpected_75 : decode cX1_appendExpected 75 = .ok (.invokestatic 84, 3) := by decide +kernel
theorem dX1_appendExpected_78 : decode cX1_appendExpected 78 = .ok (.aload_n 0, 1) := by decide +kernel
theorem dX1_appendExpected_79 : decode cX1_appendExpected 79 = .ok (.dup, 1) := by decide +kernel
theorem dX1_appendExpected_80 : decode cX1_appendExpected 80 = .ok (.getfield 43, 3) := by decide +kernel
theorem dX1_appendExpected_83 : decode cX1_appendExpected 83 = .ok (.iload_n 2, 1) := by decide +kernel
theorem dX1_appendExpected_84 : decode cX1_appendExpected 84 = .ok (.iadd, 1) := by decide +kernel
theorem dX1_appendExpected_85 : decode cX1_appendExpected 85 = .ok (.putfield 43, 3) := by decide +kernel
theorem dX1_appendExpected_88 : decode cX1_appendExpected 88 = .ok (.aload_n 0, 1) := by decide +kernel
theorem dX1_appendExpected_89 : decode cX1_appendExpected 89 = .ok (.dup, 1) := by decide +kernel
theorem dX1_appendExpected_90 : decode cX1_appendExpected 90 = .ok (.getfield 52, 3) := by decide +kernel
theorem dX1_appendExpected_93 : decode cX1_appendExpected 93 = .ok (.iload_n 2, 1) := by decide +kernel
theorem dX1_appendExpected_94 : decode cX1_appendExpected 94 = .ok (.iadd, 1) := by decide +kernel
theorem dX1_appendExpected_95 : decode cX1_appendExpected 95 = .ok (.putfield 52, 3) := by decide +kernel
theorem dX1_appendExpected_98 : decode cX1_appendExpected 98 = .ok (.aload_n 0, 1) := by decide +kernel
theorem dX1_appendExpected_99 : decode cX1_appendExpected 99 = .ok (.dup, 1) := by decide +kernel
theorem dX1_appendExpected_100 : decode cX1_appendExpected 100 = .ok (.getfield 55, 3) := by decide +kernel
theorem dX1_appendExpected_103 : decode cX1_appendExpected 103 = .ok (.iconst 1, 1) := by decide +kernel
theorem dX1_appendExpected_104 : decode cX1_appendExpected 104 = .ok (.iadd, 1) := by decide +kernel
theorem dX1_appendExpected_105 : decode cX1_appendExpected 105 = .ok (.putfield 55, 3) := by decide +kernel
theorem dX1_appendExpected_108 : decode cX1_appendExpected 108 = .ok (.aload_n 0, 1) := by decide +kernel
theorem dX1_appendExpected_109 : decode cX1_appendExpected 109 = .ok (.getfield 20, 3) := by decide +kernel
theorem dX1_appendExpected_112 : decode cX1_appendExpected 112 = .ok (.iload_n 1, 1) := by decide +kernel
theorem dX1_appendExpected_113 : decode cX1_appendExpected 113 = .ok (.baload, 1) := by decide +kernel
theorem dX1_appendExpected_114 : decode cX1_appendExpected 114 = .ok (.ifCond .eq 7, 3) := by decide +kernel
theorem dX1_appendExpected_117 : decode cX1_appendExpected 117 = .ok (.aload_n 0, 1) := by decide +kernel
theorem dX1_appendExpected_118 : decode cX1_appendExpected 118 = .ok (.invokevirtual 93, 3) := by decide +kernel
theorem dX1_appendExpected_121 : decode cX1_appendExpected 121 = .ok (.return_, 1) := by decide +kernel
theorem dX1_finishMessage_0 : decode cX1_finishMessage 0 = .ok (.aload_n 0, 1) := by decide +kernel
theorem dX1_finishMessage_1 : decode cX1_finishMessage 1 = .ok (.getfield 30, 3) := by decide +kernel
theorem dX1_finishMessage_4 : decode cX1_finishMessage 4 = .ok (.aload_n 0, 1) := by decide +kernel
theorem dX1_finishMessage_5 : decode cX1_finishMessage 5 = .ok (.getfield 46, 3) := by decide +kernel
theorem dX1_finishMessage_8 : decode cX1_finishMessage 8 = .ok (.aload_n 0, 1) := by decide +kernel
theorem dX1_finishMessage_9 : decode cX1_finishMessage 9 = .ok (.getfield 52, 3) := by decide +kernel
theorem dX1_finishMessage_12 : decode cX1_finishMessage 12 = .ok (.iastore, 1) := by decide +kernel
theorem dX1_finishMessage_13 : decode cX1_finishMessage 13 = .ok (.aload_n 0, 1) := by decide +kernel
theorem dX1_finishMessage_14 : decode cX1_finishMessage 14 = .ok (.getfield 33, 3) := by decide +kernel
theorem dX1_finishMessage_17 : decode cX1_finishMessage 17 = .ok (.aload_n 0, 1) := by decide +kernel
theorem dX1_finishMessage_18 : decode cX1_finishMessage 18 = .ok (.getfield 46, 3) := by decide +kernel
theorem dX1_finishMessage_21 : decode cX1_finishMessage 21 = .ok (.aload_n 0, 1) := by decide +kernel
theorem dX1_finishMessage_22 : decode cX1_finishMessage 22 = .ok (.getfield 55, 3) := by decide +kernel
theorem dX1_finishMessage_25 : decode cX1_finishMessage 25 = .ok (.iastore, 1) := by decide +kernel
theorem dX1_finishMessage_26 : decode cX1_finishMessage 26 = .ok (.aload_n 0, 1) := by decide +kernel
theorem dX1_finishMessage_27 : decode cX1_finishMessage 27 = .ok (.dup, 1) := by decide +kernel
theorem dX1_finishMessage_28 : decode cX1_finishMessage 28 = .ok (.getfield 46, 3) := by decide +kernel
theorem dX1_finishMessage_31 : decode cX1_finishMessage 31 = .ok (.iconst 1, 1) := by decide +kernel
theorem dX1_finishMessage_32 : decode cX1_finishMessage 32 = .ok (.iadd, 1) := by decide +kernel
theorem dX1_finishMessage_33 : decode cX1_finishMessage 33 = .ok (.putfield 46, 3) := by decide +kernel
theorem dX1_finishMessage_36 : decode cX1_finishMessage 36 = .ok (.aload_n 0, 1) := by decide +kernel
theorem dX1_finishMessage_37 : decode cX1_finishMessage 37 = .ok (.dup, 1) := by decide +kernel
theorem dX1_finishMessage_38 : decode cX1_finishMessage 38 = .ok (.getfield 49, 3) := by decide +kernel
theorem dX1_finishMessage_41 : decode cX1_finishMessage 41 = .ok (.aload_n 0, 1) := by decide +kernel
theorem dX1_finishMessage_42 : decode cX1_finishMessage 42 = .ok (.getfield 55, 3) := by decide +kernel
theorem dX1_finishMessage_45 : decode cX1_finishMessage 45 = .ok (.iadd, 1) := by decide +kernel
theorem dX1_finishMessage_46 : decode cX1_finishMessage 46 = .ok (.putfield 49, 3) := by decide +kernel
theorem dX1_finishMessage_49 : decode cX1_finishMessage 49 = .ok (.aload_n 0, 1) := by decide +kernel
theorem dX1_finishMessage_50 : decode cX1_finishMessage 50 = .ok (.iconst 0, 1) := by decide +kernel
theorem dX1_finishMessage_51 : decode cX1_finishMessage 51 = .ok (.putfield 52, 3) := by decide +kernel
theorem dX1_finishMessage_54 : decode cX1_finishMessage 54 = .ok (.aload_n 0, 1) := by decide +kernel
theorem dX1_finishMessage_55 : decode cX1_finishMessage 55 = .ok (.iconst 0, 1) := by decide +kernel
theorem dX1_finishMessage_56 : decode cX1_finishMessage 56 = .ok (.putfield 55, 3) := by decide +kernel
theorem dX1_finishMessage_59 : decode cX1_finishMessage 59 = .ok (.return_, 1) := by decide +kernel
theorem dX1_takeNext_0 : decode cX1_takeNext 0 = .ok (.aload_n 0, 1) := by decide +kernel
theorem dX1_takeNext_1 : decode cX1_takeNext 1 = .ok (.getfield 46, 3) := by decide +kernel
theorem dX1_takeNext_4 : decode cX1_takeNext 4 = .ok (.ifCond .ne 6, 3) := by decide +kernel
theorem dX1_takeNext_7 : decode cX1_takeNext 7 = .ok (.bipush (-2), 2) := by decide +kernel
theorem dX1_takeNext_9 : decode cX1_takeNext 9 = .ok (.ireturn, 1) := by decide +kernel
theorem dX1_takeNext_10 : decode cX1_takeNext 10 = .ok (.aload_n 0, 1) := by decide +kernel
theorem dX1_takeNext_11 : decode cX1_takeNext 11 = .ok (.aload_n 0, 1) := by decide +kernel
theorem dX1_takeNext_12 : decode cX1_takeNext 12 = .ok (.getfield 30, 3) := by decide +kernel
theorem dX1_takeNext_15 : decode cX1_takeNext 15 = .ok (.iconst 0, 1) := by decide +kernel
theorem dX1_takeNext_16 : decode cX1_takeNext 16 = .ok (.iaload, 1) := by decide +kernel
theorem dX1_takeNext_17 : decode cX1_takeNext 17 = .ok (.putfield 96, 3) := by decide +kernel
theorem dX1_takeNext_20 : decode cX1_takeNext 20 = .ok (.aload_n 0, 1) := by decide +kernel
theorem dX1_takeNext_21 : decode cX1_takeNext 21 = .ok (.getfield 27, 3) := by decide +kernel
theorem dX1_takeNext_24 : decode cX1_takeNext 24 = .ok (.iconst 0, 1) := by decide +kernel
theorem dX1_takeNext_25 : decode cX1_takeNext 25 = .ok (.aload_n 0, 1) := by decide +kernel
theorem dX1_takeNext_26 : decode cX1_takeNext 26 = .ok (.getfield 36, 3) := by decide +kernel
theorem dX1_takeNext_29 : decode cX1_takeNext 29 = .ok (.iconst 0, 1) := by decide +kernel
theorem dX1_takeNext_30 : decode cX1_takeNext 30 = .ok (.aload_n 0, 1) := by decide +kernel
theorem dX1_takeNext_31 : decode cX1_takeNext 31 = .ok (.getfield 96, 3) := by decide +kernel
theorem dX1_takeNext_34 : decode cX1_takeNext 34 = .ok (.invokestatic 84, 3) := by decide +kernel
theorem dX1_takeNext_37 : decode cX1_takeNext 37 = .ok (.aload_n 0, 1) := by decide +kernel
theorem dX1_takeNext_38 : decode cX1_takeNext 38 = .ok (.dup, 1) := by decide +kernel
theorem dX1_takeNext_39 : decode cX1_takeNext 39 = .ok (.getfield 43, 3) := by decide +kernel
theorem dX1_takeNext_42 : decode cX1_takeNext 42 = .ok (.aload_n 0, 1) := by decide +kernel
theorem dX1_takeNext_43 : decode cX1_takeNext 43 = .ok (.getfield 96, 3) := by decide +kernel
theorem dX1_takeNext_46 : decode cX1_takeNext 46 = .ok (.isub, 1) := by decide +kernel
theorem dX1_takeNext_47 : decode cX1_takeNext 47 = .ok (.putfield 43, 3) := by decide +kernel
theorem dX1_takeNext_50 : decode cX1_takeNext 50 = .ok (.aload_n 0, 1) := by decide +kernel
theorem dX1_takeNext_51 : decode cX1_takeNext 51 = .ok (.getfield 27, 3) := by decide +kernel
theorem dX1_takeNext_54 : decode cX1_takeNext 54 = .ok (.aload_n 0, 1) := by decide +kernel
theorem dX1_takeNext_55 : decode cX1_takeNext 55 = .ok (.getfield 96, 3) := by decide +kernel
theorem dX1_takeNext_58 : decode cX1_takeNext 58 = .ok (.aload_n 0, 1) := by decide +kernel
theorem dX1_takeNext_59 : decode cX1_takeNext 59 = .ok (.getfield 27, 3) := by decide +kernel
theorem dX1_takeNext_62 : decode cX1_takeNext 62 = .ok (.iconst 0, 1) := by decide +kernel
theorem dX1_takeNext_63 : decode cX1_takeNext 63 = .ok (.aload_n 0, 1) := by decide +kernel
theorem dX1_takeNext_64 : decode cX1_takeNext 64 = .ok (.getfield 43, 3) := by decide +kernel
theorem dX1_takeNext_67 : decode cX1_takeNext 67 = .ok (.invokestatic 84, 3) := by decide +kernel
theorem dX1_takeNext_70 : decode cX1_takeNext 70 = .ok (.aload_n 0, 1) := by decide +kernel
theorem dX1_takeNext_71 : decode cX1_takeNext 71 = .ok (.dup, 1) := by decide +kernel
theorem dX1_takeNext_72 : decode cX1_takeNext 72 = .ok (.getfield 49, 3) := by decide +kernel
