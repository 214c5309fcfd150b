theorem dX1_init_27 : decode cX1_init 27 = .ok (.newarray .boolean, 2) := by decide +kernel
theorem dX1_init_29 : decode cX1_init 29 = .ok (.putfield 20, 3) := by decide +kernel
theorem dX1_init_32 : decode cX1_init 32 = .ok (.aload_n 0, 1) := by decide +kernel
theorem dX1_init_33 : decode cX1_init 33 = .ok (.bipush 8, 2) := by decide +kernel
theorem dX1_init_35 : decode cX1_init 35 = .ok (.newarray .boolean, 2) := by decide +kernel
theorem dX1_init_37 : decode cX1_init 37 = .ok (.putfield 24, 3) := by decide +kernel
theorem dX1_init_40 : decode cX1_init 40 = .ok (.aload_n 0, 1) := by decide +kernel
theorem dX1_init_41 : decode cX1_init 41 = .ok (.sipush 256, 3) := by decide +kernel
theorem dX1_init_44 : decode cX1_init 44 = .ok (.newarray .int, 2) := by decide +kernel
theorem dX1_init_46 : decode cX1_init 46 = .ok (.putfield 27, 3) := by decide +kernel
theorem dX1_init_49 : decode cX1_init 49 = .ok (.aload_n 0, 1) := by decide +kernel
theorem dX1_init_50 : decode cX1_init 50 = .ok (.bipush 32, 2) := by decide +kernel
theorem dX1_init_52 : decode cX1_init 52 = .ok (.newarray .int, 2) := by decide +kernel
theorem dX1_init_54 : decode cX1_init 54 = .ok (.putfield 30, 3) := by decide +kernel
theorem dX1_init_57 : decode cX1_init 57 = .ok (.aload_n 0, 1) := by decide +kernel
theorem dX1_init_58 : decode cX1_init 58 = .ok (.bipush 32, 2) := by decide +kernel
theorem dX1_init_60 : decode cX1_init 60 = .ok (.newarray .int, 2) := by decide +kernel
theorem dX1_init_62 : decode cX1_init 62 = .ok (.putfield 33, 3) := by decide +kernel
theorem dX1_init_65 : decode cX1_init 65 = .ok (.aload_n 0, 1) := by decide +kernel
theorem dX1_init_66 : decode cX1_init 66 = .ok (.sipush 256, 3) := by decide +kernel
theorem dX1_init_69 : decode cX1_init 69 = .ok (.newarray .int, 2) := by decide +kernel
theorem dX1_init_71 : decode cX1_init 71 = .ok (.putfield 36, 3) := by decide +kernel
theorem dX1_init_74 : decode cX1_init 74 = .ok (.return_, 1) := by decide +kernel
theorem dX1_clear_0 : decode cX1_clear 0 = .ok (.iconst 0, 1) := by decide +kernel
theorem dX1_clear_1 : decode cX1_clear 1 = .ok (.istore_n 1, 1) := by decide +kernel
theorem dX1_clear_2 : decode cX1_clear 2 = .ok (.iload_n 1, 1) := by decide +kernel
theorem dX1_clear_3 : decode cX1_clear 3 = .ok (.bipush 8, 2) := by decide +kernel
theorem dX1_clear_5 : decode cX1_clear 5 = .ok (.if_icmp .ge 16, 3) := by decide +kernel
theorem dX1_clear_8 : decode cX1_clear 8 = .ok (.aload_n 0, 1) := by decide +kernel
theorem dX1_clear_9 : decode cX1_clear 9 = .ok (.getfield 24, 3) := by decide +kernel
theorem dX1_clear_12 : decode cX1_clear 12 = .ok (.iload_n 1, 1) := by decide +kernel
theorem dX1_clear_13 : decode cX1_clear 13 = .ok (.iconst 0, 1) := by decide +kernel
theorem dX1_clear_14 : decode cX1_clear 14 = .ok (.bastore, 1) := by decide +kernel
theorem dX1_clear_15 : decode cX1_clear 15 = .ok (.iinc 1 1, 3) := by decide +kernel
theorem dX1_clear_18 : decode cX1_clear 18 = .ok (.goto (-16), 3) := by decide +kernel
theorem dX1_clear_21 : decode cX1_clear 21 = .ok (.aload_n 0, 1) := by decide +kernel
theorem dX1_clear_22 : decode cX1_clear 22 = .ok (.iconst 0, 1) := by decide +kernel
theorem dX1_clear_23 : decode cX1_clear 23 = .ok (.putfield 39, 3) := by decide +kernel
theorem dX1_clear_26 : decode cX1_clear 26 = .ok (.aload_n 0, 1) := by decide +kernel
theorem dX1_clear_27 : decode cX1_clear 27 = .ok (.iconst 0, 1) := by decide +kernel
theorem dX1_clear_28 : decode cX1_clear 28 = .ok (.putfield 43, 3) := by decide +kernel
theorem dX1_clear_31 : decode cX1_clear 31 = .ok (.aload_n 0, 1) := by decide +kernel
theorem dX1_clear_32 : decode cX1_clear 32 = .ok (.iconst 0, 1) := by decide +kernel
theorem dX1_clear_33 : decode cX1_clear 33 = .ok (.putfield 46, 3) := by decide +kernel
theorem dX1_clear_36 : decode cX1_clear 36 = .ok (.aload_n 0, 1) := by decide +kernel
theorem dX1_clear_37 : decode cX1_clear 37 = .ok (.iconst 0, 1) := by decide +kernel
theorem dX1_clear_38 : decode cX1_clear 38 = .ok (.putfield 49, 3) := by decide +kernel
theorem dX1_clear_41 : decode cX1_clear 41 = .ok (.aload_n 0, 1) := by decide +kernel
theorem dX1_clear_42 : decode cX1_clear 42 = .ok (.iconst 0, 1) := by decide +kernel
theorem dX1_clear_43 : decode cX1_clear 43 = .ok (.putfield 52, 3) := by decide +kernel
theorem dX1_clear_46 : decode cX1_clear 46 = .ok (.aload_n 0, 1) := by decide +kernel
theorem dX1_clear_47 : decode cX1_clear 47 = .ok (.iconst 0, 1) := by decide +kernel
theorem dX1_clear_48 : decode cX1_clear 48 = .ok (.putfield 55, 3) := by decide +kernel
theorem dX1_clear_51 : decode cX1_clear 51 = .ok (.return_, 1) := by decide +kernel
theorem dX1_credit_0 : decode cX1_credit 0 = .ok (.iconst 0, 1) := by decide +kernel
theorem dX1_credit_1 : decode cX1_credit 1 = .ok (.bipush 6, 2) := by decide +kernel
theorem dX1_credit_3 : decode cX1_credit 3 = .ok (.aload_n 0, 1) := by decide +kernel
theorem dX1_credit_4 : decode cX1_credit 4 = .ok (.getfield 49, 3) := by decide +kernel
theorem dX1_credit_7 : decode cX1_credit 7 = .ok (.isub, 1) := by decide +kernel
theorem dX1_credit_8 : decode cX1_credit 8 = .ok (.invokestatic 58, 3) := by decide +kernel
theorem dX1_credit_11 : decode cX1_credit 11 = .ok (.ireturn, 1) := by decide +kernel
theorem dX1_takeNext_0 : decode cX1_takeNext 0 = .ok (.aload_n 0, 1) := by decide +kernel
theorem dX1_takeNext_1 : decode cX1_takeNext 1 = .ok (.getfield 46, 3) := by decide +kernel
theorem dX1_takeNext_4 : decode cX1_takeNext 4 = .ok (.ifCond .ne 6, 3) := by decide +kernel
theorem dX1_takeNext_7 : decode cX1_takeNext 7 = .ok (.bipush (-2), 2) := by decide +kernel
theorem dX1_takeNext_9 : decode cX1_takeNext 9 = .ok (.ireturn, 1) := by decide +kernel
theorem dX1_takeNext_10 : decode cX1_takeNext 10 = .ok (.aload_n 0, 1) := by decide +kernel
theorem dX1_takeNext_11 : decode cX1_takeNext 11 = .ok (.aload_n 0, 1) := by decide +kernel
theorem dX1_takeNext_12 : decode cX1_takeNext 12 = .ok (.getfield 30, 3) := by decide +kernel
theorem dX1_takeNext_15 : decode cX1_takeNext 15 = .ok (.iconst 0, 1) := by decide +kernel
theorem dX1_takeNext_16 : decode cX1_takeNext 16 = .ok (.iaload, 1) := by decide +kernel
theorem dX1_takeNext_17 : decode cX1_takeNext 17 = .ok (.putfield 96, 3) := by decide +kernel
theorem dX1_takeNext_20 : decode cX1_takeNext 20 = .ok (.aload_n 0, 1) := by decide +kernel
theorem dX1_takeNext_21 : decode cX1_takeNext 21 = .ok (.getfield 27, 3) := by decide +kernel
theorem dX1_takeNext_24 : decode cX1_takeNext 24 = .ok (.iconst 0, 1) := by decide +kernel
theorem dX1_takeNext_25 : decode cX1_takeNext 25 = .ok (.aload_n 0, 1) := by decide +kernel
theorem dX1_takeNext_26 : decode cX1_takeNext 26 = .ok (.getfield 36, 3) := by decide +kernel
theorem dX1_takeNext_29 : decode cX1_takeNext 29 = .ok (.iconst 0, 1) := by decide +kernel
theorem dX1_takeNext_30 : decode cX1_takeNext 30 = .ok (.aload_n 0, 1) := by decide +kernel
theorem dX1_takeNext_31 : decode cX1_takeNext 31 = .ok (.getfield 96, 3) := by decide +kernel
theorem dX1_takeNext_34 : decode cX1_takeNext 34 = .ok (.invokestatic 84, 3) := by decide +kernel
theorem dX1_takeNext_37 : decode cX1_takeNext 37 = .ok (.aload_n 0, 1) := by decide +kernel
theorem dX1_takeNext_38 : decode cX1_takeNext 38 = .ok (.dup, 1) := by decide +kernel
theorem dX1_takeNext_39 : decode cX1_takeNext 39 = .ok (.getfield 43, 3) := by decide +kernel
theorem dX1_takeNext_42 : decode cX1_takeNext 42 = .ok (.aload_n 0, 1) := by decide +kernel
theorem dX1_takeNext_43 : decode cX1_takeNext 43 = .ok (.getfield 96, 3) := by decide +kernel
theorem dX1_takeNext_46 : decode cX1_takeNext 46 = .ok (.isub, 1) := by decide +kernel
theorem dX1_takeNext_47 : decode cX1_takeNext 47 = .ok (.putfield 43, 3) := by decide +kernel
theorem dX1_takeNext_50 : decode cX1_takeNext 50 = .ok (.aload_n 0, 1) := by decide +kernel
theorem dX1_takeNext_51 : decode cX1_takeNext 51 = .ok (.getfield 27, 3) := by decide +kernel
theorem dX1_takeNext_54 : decode cX1_takeNext 54 = .ok (.aload_n 0, 1) := by decide +kernel
theorem dX1_takeNext_55 : decode cX1_takeNext 55 = .ok (.getfield 96, 3) := by decide +kernel
theorem dX1_takeNext_58 : decode cX1_takeNext 58 = .ok (.aload_n 0, 1) := by decide +kernel
theorem dX1_takeNext_59 : decode cX1_takeNext 59 = .ok (.getfield 27, 3) := by decide +kernel
theorem dX1_takeNext_62 : decode cX1_takeNext 62 = .ok (.iconst 0, 1) := by decide +kernel
theorem dX1_takeNext_63 : decode cX1_takeNext 63 = .ok (.aload_n 0, 1) := by decide +kernel
theorem dX1_takeNext_64 : decode cX1_takeNext 64 = .ok (.getfield 43, 3) := by decide +kernel
theorem dX1_takeNext_67 : decode cX1_takeNext 67 = .ok (.invokestatic 84, 3) := by decide +kernel
theorem dX1_takeNext_70 : decode cX1_takeNext 70 = .ok (.aload_n 0, 1) := by decide +kernel
theorem dX1_takeNext_71 : decode cX1_takeNext 71 = .ok (.dup, 1) := by decide +kernel
theorem dX1_takeNext_72 : decode cX1_takeNext 72 = .ok (.getfield 49, 3) := by decide +kernel
theorem dX1_takeNext_75 : decode cX1_takeNext 75 = .ok (.aload_n 0, 1) := by decide +kernel
theorem dX1_takeNext_76 : decode cX1_takeNext 76 = .ok (.getfield 33, 3) := by decide +kernel
theorem dX1_takeNext_79 : decode cX1_takeNext 79 = .ok (.iconst 0, 1) := by decide +kernel
theorem dX1_takeNext_80 : decode cX1_takeNext 80 = .ok (.iaload, 1) := by decide +kernel
theorem dX1_takeNext_81 : decode cX1_takeNext 81 = .ok (.isub, 1) := by decide +kernel
theorem dX1_takeNext_82 : decode cX1_takeNext 82 = .ok (.putfield 49, 3) := by decide +kernel
theorem dX1_takeNext_85 : decode cX1_takeNext 85 = .ok (.aload_n 0, 1) := by decide +kernel
theorem dX1_takeNext_86 : decode cX1_takeNext 86 = .ok (.dup, 1) := by decide +kernel
theorem dX1_takeNext_87 : decode cX1_takeNext 87 = .ok (.getfield 46, 3) := by decide +kernel
theorem dX1_takeNext_90 : decode cX1_takeNext 90 = .ok (.iconst 1, 1) := by decide +kernel
theorem dX1_takeNext_91 : decode cX1_takeNext 91 = .ok (.isub, 1) := by decide +kernel
theorem dX1_takeNext_92 : decode cX1_takeNext 92 = .ok (.putfield 46, 3) := by decide +kernel
theorem dX1_takeNext_95 : decode cX1_takeNext 95 = .ok (.aload_n 0, 1) := by decide +kernel
theorem dX1_takeNext_96 : decode cX1_takeNext 96 = .ok (.getfield 30, 3) := by decide +kernel
theorem dX1_takeNext_99 : decode cX1_takeNext 99 = .ok (.iconst 1, 1) := by decide +kernel
theorem dX1_takeNext_100 : decode cX1_takeNext 100 = .ok (.aload_n 0, 1) := by decide +kernel
theorem dX1_takeNext_101 : decode cX1_takeNext 101 = .ok (.getfield 30, 3) := by decide +kernel
theorem dX1_takeNext_104 : decode cX1_takeNext 104 = .ok (.iconst 0, 1) := by decide +kernel
theorem dX1_takeNext_105 : decode cX1_takeNext 105 = .ok (.aload_n 0, 1) := by decide +kernel
theorem dX1_takeNext_106 : decode cX1_takeNext 106 = .ok (.getfield 46, 3) := by decide +kernel
theorem dX1_takeNext_109 : decode cX1_takeNext 109 = .ok (.invokestatic 84, 3) := by decide +kernel
theorem dX1_takeNext_112 : decode cX1_takeNext 112 = .ok (.aload_n 0, 1) := by decide +kernel
theorem dX1_takeNext_113 : decode cX1_takeNext 113 = .ok (.getfield 33, 3) := by decide +kernel
theorem dX1_takeNext_116 : decode cX1_takeNext 116 = .ok (.iconst 1, 1) := by decide +kernel
theorem dX1_takeNext_117 : decode cX1_takeNext 117 = .ok (.aload_n 0, 1) := by decide +kernel
theorem dX1_takeNext_118 : decode cX1_takeNext 118 = .ok (.getfield 33, 3) := by decide +kernel
theorem dX1_takeNext_121 : decode cX1_takeNext 121 = .ok (.iconst 0, 1) := by decide +kernel
theorem dX1_takeNext_122 : decode cX1_takeNext 122 = .ok (.aload_n 0, 1) := by decide +kernel
theorem dX1_takeNext_123 : decode cX1_takeNext 123 = .ok (.getfield 46, 3) := by decide +kernel
theorem dX1_takeNext_126 : decode cX1_takeNext 126 = .ok (.invokestatic 84, 3) := by decide +kernel
theorem dX1_takeNext_129 : decode cX1_takeNext 129 = .ok (.aload_n 0, 1) := by decide +kernel
theorem dX1_takeNext_130 : decode cX1_takeNext 130 = .ok (.getfield 96, 3) := by decide +kernel
theorem dX1_takeNext_133 : decode cX1_takeNext 133 = .ok (.ireturn, 1) := by decide +kernel
theorem dX1_takenByte_0 : decode cX1_takenByte 0 = .ok (.iload_n 1, 1) := by decide +kernel
theorem dX1_takenByte_1 : decode cX1_takenByte 1 = .ok (.ifCond .lt 11, 3) := by decide +kernel
theorem dX1_takenByte_4 : decode cX1_takenByte 4 = .ok (.iload_n 1, 1) := by decide +kernel
theorem dX1_takenByte_5 : decode cX1_takenByte 5 = .ok (.aload_n 0, 1) := by decide +kernel
theorem dX1_takenByte_6 : decode cX1_takenByte 6 = .ok (.getfield 96, 3) := by decide +kernel
theorem dX1_takenByte_9 : decode cX1_takenByte 9 = .ok (.if_icmp .lt 7, 3) := by decide +kernel
theorem dX1_takenByte_12 : decode cX1_takenByte 12 = .ok (.iconst (-1), 1) := by decide +kernel
theorem dX1_takenByte_13 : decode cX1_takenByte 13 = .ok (.goto 9, 3) := by decide +kernel
theorem dX1_takenByte_16 : decode cX1_takenByte 16 = .ok (.aload_n 0, 1) := by decide +kernel
theorem dX1_takenByte_17 : decode cX1_takenByte 17 = .ok (.getfield 36, 3) := by decide +kernel
theorem dX1_takenByte_20 : decode cX1_takenByte 20 = .ok (.iload_n 1, 1) := by decide +kernel
theorem dX1_takenByte_21 : decode cX1_takenByte 21 = .ok (.iaload, 1) := by decide +kernel
theorem dX1_takenByte_22 : decode cX1_takenByte 22 = .ok (.ireturn, 1) := by decide +kernel
