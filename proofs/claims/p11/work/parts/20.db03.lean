theorem dX2_applyFaults_34 : decode cX2_applyFaults 34 = .ok (.getfield 22, 3) := by decide +kernel
theorem dX2_applyFaults_37 : decode cX2_applyFaults 37 = .ok (.iload 4, 2) := by decide +kernel
theorem dX2_applyFaults_39 : decode cX2_applyFaults 39 = .ok (.iaload, 1) := by decide +kernel
theorem dX2_applyFaults_40 : decode cX2_applyFaults 40 = .ok (.tableswitch 53 1 3 #[28, 33, 38], 28) := by decide +kernel
theorem dX2_applyFaults_68 : decode cX2_applyFaults 68 = .ok (.iconst 1, 1) := by decide +kernel
theorem dX2_applyFaults_69 : decode cX2_applyFaults 69 = .ok (.istore_n 2, 1) := by decide +kernel
theorem dX2_applyFaults_70 : decode cX2_applyFaults 70 = .ok (.goto 45, 3) := by decide +kernel
theorem dX2_applyFaults_73 : decode cX2_applyFaults 73 = .ok (.iconst 1, 1) := by decide +kernel
theorem dX2_applyFaults_74 : decode cX2_applyFaults 74 = .ok (.istore_n 3, 1) := by decide +kernel
theorem dX2_applyFaults_75 : decode cX2_applyFaults 75 = .ok (.goto 40, 3) := by decide +kernel
theorem dX2_applyFaults_78 : decode cX2_applyFaults 78 = .ok (.aload_n 1, 1) := by decide +kernel
theorem dX2_applyFaults_79 : decode cX2_applyFaults 79 = .ok (.aload_n 0, 1) := by decide +kernel
theorem dX2_applyFaults_80 : decode cX2_applyFaults 80 = .ok (.getfield 63, 3) := by decide +kernel
theorem dX2_applyFaults_83 : decode cX2_applyFaults 83 = .ok (.iconst 2, 1) := by decide +kernel
theorem dX2_applyFaults_84 : decode cX2_applyFaults 84 = .ok (.iadd, 1) := by decide +kernel
theorem dX2_applyFaults_85 : decode cX2_applyFaults 85 = .ok (.iconst 5, 1) := by decide +kernel
theorem dX2_applyFaults_86 : decode cX2_applyFaults 86 = .ok (.iadd, 1) := by decide +kernel
theorem dX2_applyFaults_87 : decode cX2_applyFaults 87 = .ok (.putfield 66, 3) := by decide +kernel
theorem dX2_applyFaults_90 : decode cX2_applyFaults 90 = .ok (.goto 25, 3) := by decide +kernel
theorem dX2_applyFaults_93 : decode cX2_applyFaults 93 = .ok (.aload_n 1, 1) := by decide +kernel
theorem dX2_applyFaults_94 : decode cX2_applyFaults 94 = .ok (.aload_n 0, 1) := by decide +kernel
theorem dX2_applyFaults_95 : decode cX2_applyFaults 95 = .ok (.getfield 29, 3) := by decide +kernel
theorem dX2_applyFaults_98 : decode cX2_applyFaults 98 = .ok (.iload 4, 2) := by decide +kernel
theorem dX2_applyFaults_100 : decode cX2_applyFaults 100 = .ok (.iaload, 1) := by decide +kernel
theorem dX2_applyFaults_101 : decode cX2_applyFaults 101 = .ok (.putfield 82, 3) := by decide +kernel
theorem dX2_applyFaults_104 : decode cX2_applyFaults 104 = .ok (.aload_n 1, 1) := by decide +kernel
theorem dX2_applyFaults_105 : decode cX2_applyFaults 105 = .ok (.aload_n 0, 1) := by decide +kernel
theorem dX2_applyFaults_106 : decode cX2_applyFaults 106 = .ok (.getfield 32, 3) := by decide +kernel
theorem dX2_applyFaults_109 : decode cX2_applyFaults 109 = .ok (.iload 4, 2) := by decide +kernel
theorem dX2_applyFaults_111 : decode cX2_applyFaults 111 = .ok (.iaload, 1) := by decide +kernel
theorem dX2_applyFaults_112 : decode cX2_applyFaults 112 = .ok (.putfield 72, 3) := by decide +kernel
theorem dX2_applyFaults_115 : decode cX2_applyFaults 115 = .ok (.iinc 4 1, 3) := by decide +kernel
theorem dX2_applyFaults_118 : decode cX2_applyFaults 118 = .ok (.goto (-111), 3) := by decide +kernel
theorem dX2_applyFaults_121 : decode cX2_applyFaults 121 = .ok (.iload_n 2, 1) := by decide +kernel
theorem dX2_applyFaults_122 : decode cX2_applyFaults 122 = .ok (.ifCond .eq 11, 3) := by decide +kernel
theorem dX2_applyFaults_125 : decode cX2_applyFaults 125 = .ok (.aload_n 1, 1) := by decide +kernel
theorem dX2_applyFaults_126 : decode cX2_applyFaults 126 = .ok (.iconst (-1), 1) := by decide +kernel
theorem dX2_applyFaults_127 : decode cX2_applyFaults 127 = .ok (.putfield 66, 3) := by decide +kernel
theorem dX2_applyFaults_130 : decode cX2_applyFaults 130 = .ok (.goto 17, 3) := by decide +kernel
theorem dX2_applyFaults_133 : decode cX2_applyFaults 133 = .ok (.iload_n 3, 1) := by decide +kernel
theorem dX2_applyFaults_134 : decode cX2_applyFaults 134 = .ok (.ifCond .eq 13, 3) := by decide +kernel
theorem dX2_applyFaults_137 : decode cX2_applyFaults 137 = .ok (.aload_n 1, 1) := by decide +kernel
theorem dX2_applyFaults_138 : decode cX2_applyFaults 138 = .ok (.aload_n 1, 1) := by decide +kernel
theorem dX2_applyFaults_139 : decode cX2_applyFaults 139 = .ok (.getfield 66, 3) := by decide +kernel
theorem dX2_applyFaults_142 : decode cX2_applyFaults 142 = .ok (.iconst 1, 1) := by decide +kernel
theorem dX2_applyFaults_143 : decode cX2_applyFaults 143 = .ok (.iadd, 1) := by decide +kernel
theorem dX2_applyFaults_144 : decode cX2_applyFaults 144 = .ok (.putfield 69, 3) := by decide +kernel
theorem dX2_applyFaults_147 : decode cX2_applyFaults 147 = .ok (.return_, 1) := by decide +kernel
theorem dX2_arrivesNow_0 : decode cX2_arrivesNow 0 = .ok (.aload_n 0, 1) := by decide +kernel
theorem dX2_arrivesNow_1 : decode cX2_arrivesNow 1 = .ok (.iload_n 1, 1) := by decide +kernel
theorem dX2_arrivesNow_2 : decode cX2_arrivesNow 2 = .ok (.invokevirtual 45, 3) := by decide +kernel
theorem dX2_arrivesNow_5 : decode cX2_arrivesNow 5 = .ok (.astore_n 3, 1) := by decide +kernel
theorem dX2_arrivesNow_6 : decode cX2_arrivesNow 6 = .ok (.iload_n 2, 1) := by decide +kernel
theorem dX2_arrivesNow_7 : decode cX2_arrivesNow 7 = .ok (.ifCond .eq 10, 3) := by decide +kernel
theorem dX2_arrivesNow_10 : decode cX2_arrivesNow 10 = .ok (.aload_n 3, 1) := by decide +kernel
theorem dX2_arrivesNow_11 : decode cX2_arrivesNow 11 = .ok (.getfield 69, 3) := by decide +kernel
theorem dX2_arrivesNow_14 : decode cX2_arrivesNow 14 = .ok (.goto 7, 3) := by decide +kernel
theorem dX2_arrivesNow_17 : decode cX2_arrivesNow 17 = .ok (.aload_n 3, 1) := by decide +kernel
theorem dX2_arrivesNow_18 : decode cX2_arrivesNow 18 = .ok (.getfield 66, 3) := by decide +kernel
theorem dX2_arrivesNow_21 : decode cX2_arrivesNow 21 = .ok (.aload_n 0, 1) := by decide +kernel
theorem dX2_arrivesNow_22 : decode cX2_arrivesNow 22 = .ok (.getfield 63, 3) := by decide +kernel
theorem dX2_arrivesNow_25 : decode cX2_arrivesNow 25 = .ok (.if_icmp .ne 7, 3) := by decide +kernel
theorem dX2_arrivesNow_28 : decode cX2_arrivesNow 28 = .ok (.iconst 1, 1) := by decide +kernel
theorem dX2_arrivesNow_29 : decode cX2_arrivesNow 29 = .ok (.goto 4, 3) := by decide +kernel
theorem dX2_arrivesNow_32 : decode cX2_arrivesNow 32 = .ok (.iconst 0, 1) := by decide +kernel
theorem dX2_arrivesNow_33 : decode cX2_arrivesNow 33 = .ok (.ireturn, 1) := by decide +kernel
theorem dX2_unitAsItArrives_0 : decode cX2_unitAsItArrives 0 = .ok (.aload_n 0, 1) := by decide +kernel
theorem dX2_unitAsItArrives_1 : decode cX2_unitAsItArrives 1 = .ok (.iload_n 1, 1) := by decide +kernel
theorem dX2_unitAsItArrives_2 : decode cX2_unitAsItArrives 2 = .ok (.invokevirtual 45, 3) := by decide +kernel
theorem dX2_unitAsItArrives_5 : decode cX2_unitAsItArrives 5 = .ok (.astore_n 2, 1) := by decide +kernel
theorem dX2_unitAsItArrives_6 : decode cX2_unitAsItArrives 6 = .ok (.aload_n 2, 1) := by decide +kernel
theorem dX2_unitAsItArrives_7 : decode cX2_unitAsItArrives 7 = .ok (.getfield 85, 3) := by decide +kernel
theorem dX2_unitAsItArrives_10 : decode cX2_unitAsItArrives 10 = .ok (.iconst 0, 1) := by decide +kernel
theorem dX2_unitAsItArrives_11 : decode cX2_unitAsItArrives 11 = .ok (.aload_n 0, 1) := by decide +kernel
theorem dX2_unitAsItArrives_12 : decode cX2_unitAsItArrives 12 = .ok (.getfield 18, 3) := by decide +kernel
theorem dX2_unitAsItArrives_15 : decode cX2_unitAsItArrives 15 = .ok (.getfield 85, 3) := by decide +kernel
theorem dX2_unitAsItArrives_18 : decode cX2_unitAsItArrives 18 = .ok (.iconst 0, 1) := by decide +kernel
theorem dX2_unitAsItArrives_19 : decode cX2_unitAsItArrives 19 = .ok (.bipush 17, 2) := by decide +kernel
theorem dX2_unitAsItArrives_21 : decode cX2_unitAsItArrives 21 = .ok (.invokestatic 88, 3) := by decide +kernel
theorem dX2_unitAsItArrives_24 : decode cX2_unitAsItArrives 24 = .ok (.aload_n 0, 1) := by decide +kernel
theorem dX2_unitAsItArrives_25 : decode cX2_unitAsItArrives 25 = .ok (.getfield 18, 3) := by decide +kernel
theorem dX2_unitAsItArrives_28 : decode cX2_unitAsItArrives 28 = .ok (.aload_n 2, 1) := by decide +kernel
theorem dX2_unitAsItArrives_29 : decode cX2_unitAsItArrives 29 = .ok (.getfield 94, 3) := by decide +kernel
theorem dX2_unitAsItArrives_32 : decode cX2_unitAsItArrives 32 = .ok (.putfield 94, 3) := by decide +kernel
theorem dX2_unitAsItArrives_35 : decode cX2_unitAsItArrives 35 = .ok (.aload_n 0, 1) := by decide +kernel
theorem dX2_unitAsItArrives_36 : decode cX2_unitAsItArrives 36 = .ok (.getfield 18, 3) := by decide +kernel
theorem dX2_unitAsItArrives_39 : decode cX2_unitAsItArrives 39 = .ok (.aload_n 2, 1) := by decide +kernel
theorem dX2_unitAsItArrives_40 : decode cX2_unitAsItArrives 40 = .ok (.getfield 60, 3) := by decide +kernel
theorem dX2_unitAsItArrives_43 : decode cX2_unitAsItArrives 43 = .ok (.putfield 60, 3) := by decide +kernel
theorem dX2_unitAsItArrives_46 : decode cX2_unitAsItArrives 46 = .ok (.aload_n 2, 1) := by decide +kernel
theorem dX2_unitAsItArrives_47 : decode cX2_unitAsItArrives 47 = .ok (.getfield 72, 3) := by decide +kernel
theorem dX2_unitAsItArrives_50 : decode cX2_unitAsItArrives 50 = .ok (.ifCond .eq 34, 3) := by decide +kernel
theorem dX2_unitAsItArrives_53 : decode cX2_unitAsItArrives 53 = .ok (.aload_n 2, 1) := by decide +kernel
theorem dX2_unitAsItArrives_54 : decode cX2_unitAsItArrives 54 = .ok (.getfield 94, 3) := by decide +kernel
theorem dX2_unitAsItArrives_57 : decode cX2_unitAsItArrives 57 = .ok (.ifCond .le 27, 3) := by decide +kernel
theorem dX2_unitAsItArrives_60 : decode cX2_unitAsItArrives 60 = .ok (.aload_n 0, 1) := by decide +kernel
theorem dX2_unitAsItArrives_61 : decode cX2_unitAsItArrives 61 = .ok (.getfield 18, 3) := by decide +kernel
theorem dX2_unitAsItArrives_64 : decode cX2_unitAsItArrives 64 = .ok (.getfield 85, 3) := by decide +kernel
theorem dX2_unitAsItArrives_67 : decode cX2_unitAsItArrives 67 = .ok (.aload_n 2, 1) := by decide +kernel
theorem dX2_unitAsItArrives_68 : decode cX2_unitAsItArrives 68 = .ok (.getfield 82, 3) := by decide +kernel
theorem dX2_unitAsItArrives_71 : decode cX2_unitAsItArrives 71 = .ok (.aload_n 2, 1) := by decide +kernel
theorem dX2_unitAsItArrives_72 : decode cX2_unitAsItArrives 72 = .ok (.getfield 94, 3) := by decide +kernel
theorem dX2_unitAsItArrives_75 : decode cX2_unitAsItArrives 75 = .ok (.irem, 1) := by decide +kernel
theorem dX2_unitAsItArrives_76 : decode cX2_unitAsItArrives 76 = .ok (.dup2, 1) := by decide +kernel
theorem dX2_unitAsItArrives_77 : decode cX2_unitAsItArrives 77 = .ok (.iaload, 1) := by decide +kernel
theorem dX2_unitAsItArrives_78 : decode cX2_unitAsItArrives 78 = .ok (.aload_n 2, 1) := by decide +kernel
theorem dX2_unitAsItArrives_79 : decode cX2_unitAsItArrives 79 = .ok (.getfield 72, 3) := by decide +kernel
theorem dX2_unitAsItArrives_82 : decode cX2_unitAsItArrives 82 = .ok (.ixor, 1) := by decide +kernel
theorem dX2_unitAsItArrives_83 : decode cX2_unitAsItArrives 83 = .ok (.iastore, 1) := by decide +kernel
theorem dX2_unitAsItArrives_84 : decode cX2_unitAsItArrives 84 = .ok (.aload_n 0, 1) := by decide +kernel
theorem dX2_unitAsItArrives_85 : decode cX2_unitAsItArrives 85 = .ok (.getfield 18, 3) := by decide +kernel
theorem dX2_unitAsItArrives_88 : decode cX2_unitAsItArrives 88 = .ok (.areturn, 1) := by decide +kernel
theorem dX2_forgetArrived_0 : decode cX2_forgetArrived 0 = .ok (.aload_n 0, 1) := by decide +kernel
theorem dX2_forgetArrived_1 : decode cX2_forgetArrived 1 = .ok (.getfield 79, 3) := by decide +kernel
theorem dX2_forgetArrived_4 : decode cX2_forgetArrived 4 = .ok (.aload_n 0, 1) := by decide +kernel
theorem dX2_forgetArrived_5 : decode cX2_forgetArrived 5 = .ok (.getfield 42, 3) := by decide +kernel
theorem dX2_forgetArrived_8 : decode cX2_forgetArrived 8 = .ok (.if_icmp .ge 52, 3) := by decide +kernel
theorem dX2_forgetArrived_11 : decode cX2_forgetArrived 11 = .ok (.aload_n 0, 1) := by decide +kernel
theorem dX2_forgetArrived_12 : decode cX2_forgetArrived 12 = .ok (.aload_n 0, 1) := by decide +kernel
theorem dX2_forgetArrived_13 : decode cX2_forgetArrived 13 = .ok (.getfield 79, 3) := by decide +kernel
theorem dX2_forgetArrived_16 : decode cX2_forgetArrived 16 = .ok (.invokevirtual 45, 3) := by decide +kernel
theorem dX2_forgetArrived_19 : decode cX2_forgetArrived 19 = .ok (.getfield 66, 3) := by decide +kernel
theorem dX2_forgetArrived_22 : decode cX2_forgetArrived 22 = .ok (.aload_n 0, 1) := by decide +kernel
theorem dX2_forgetArrived_23 : decode cX2_forgetArrived 23 = .ok (.getfield 63, 3) := by decide +kernel
theorem dX2_forgetArrived_26 : decode cX2_forgetArrived 26 = .ok (.if_icmp .gt 34, 3) := by decide +kernel
theorem dX2_forgetArrived_29 : decode cX2_forgetArrived 29 = .ok (.aload_n 0, 1) := by decide +kernel
theorem dX2_forgetArrived_30 : decode cX2_forgetArrived 30 = .ok (.aload_n 0, 1) := by decide +kernel
theorem dX2_forgetArrived_31 : decode cX2_forgetArrived 31 = .ok (.getfield 79, 3) := by decide +kernel
theorem dX2_forgetArrived_34 : decode cX2_forgetArrived 34 = .ok (.invokevirtual 45, 3) := by decide +kernel
theorem dX2_forgetArrived_37 : decode cX2_forgetArrived 37 = .ok (.getfield 69, 3) := by decide +kernel
theorem dX2_forgetArrived_40 : decode cX2_forgetArrived 40 = .ok (.aload_n 0, 1) := by decide +kernel
theorem dX2_forgetArrived_41 : decode cX2_forgetArrived 41 = .ok (.getfield 63, 3) := by decide +kernel
theorem dX2_forgetArrived_44 : decode cX2_forgetArrived 44 = .ok (.if_icmp .gt 16, 3) := by decide +kernel
theorem dX2_forgetArrived_47 : decode cX2_forgetArrived 47 = .ok (.aload_n 0, 1) := by decide +kernel
theorem dX2_forgetArrived_48 : decode cX2_forgetArrived 48 = .ok (.dup, 1) := by decide +kernel
theorem dX2_forgetArrived_49 : decode cX2_forgetArrived 49 = .ok (.getfield 79, 3) := by decide +kernel
theorem dX2_forgetArrived_52 : decode cX2_forgetArrived 52 = .ok (.iconst 1, 1) := by decide +kernel
theorem dX2_forgetArrived_53 : decode cX2_forgetArrived 53 = .ok (.iadd, 1) := by decide +kernel
theorem dX2_forgetArrived_54 : decode cX2_forgetArrived 54 = .ok (.putfield 79, 3) := by decide +kernel
theorem dX2_forgetArrived_57 : decode cX2_forgetArrived 57 = .ok (.goto (-57), 3) := by decide +kernel
theorem dX2_forgetArrived_60 : decode cX2_forgetArrived 60 = .ok (.return_, 1) := by decide +kernel
theorem dX2_recordedByte_0 : decode cX2_recordedByte 0 = .ok (.iload_n 1, 1) := by decide +kernel
theorem dX2_recordedByte_1 : decode cX2_recordedByte 1 = .ok (.ifCond .lt 22, 3) := by decide +kernel
theorem dX2_recordedByte_4 : decode cX2_recordedByte 4 = .ok (.iload_n 1, 1) := by decide +kernel
theorem dX2_recordedByte_5 : decode cX2_recordedByte 5 = .ok (.aload_n 0, 1) := by decide +kernel
theorem dX2_recordedByte_6 : decode cX2_recordedByte 6 = .ok (.getfield 42, 3) := by decide +kernel
theorem dX2_recordedByte_9 : decode cX2_recordedByte 9 = .ok (.if_icmp .ge 14, 3) := by decide +kernel
theorem dX2_recordedByte_12 : decode cX2_recordedByte 12 = .ok (.iload_n 1, 1) := by decide +kernel
theorem dX2_recordedByte_13 : decode cX2_recordedByte 13 = .ok (.aload_n 0, 1) := by decide +kernel
theorem dX2_recordedByte_14 : decode cX2_recordedByte 14 = .ok (.getfield 42, 3) := by decide +kernel
theorem dX2_recordedByte_17 : decode cX2_recordedByte 17 = .ok (.bipush 64, 2) := by decide +kernel
theorem dX2_recordedByte_19 : decode cX2_recordedByte 19 = .ok (.isub, 1) := by decide +kernel
theorem dX2_recordedByte_20 : decode cX2_recordedByte 20 = .ok (.if_icmp .ge 5, 3) := by decide +kernel
theorem dX2_recordedByte_23 : decode cX2_recordedByte 23 = .ok (.iconst (-1), 1) := by decide +kernel
theorem dX2_recordedByte_24 : decode cX2_recordedByte 24 = .ok (.ireturn, 1) := by decide +kernel
theorem dX2_recordedByte_25 : decode cX2_recordedByte 25 = .ok (.aload_n 0, 1) := by decide +kernel
theorem dX2_recordedByte_26 : decode cX2_recordedByte 26 = .ok (.iload_n 1, 1) := by decide +kernel
theorem dX2_recordedByte_27 : decode cX2_recordedByte 27 = .ok (.invokevirtual 45, 3) := by decide +kernel
theorem dX2_recordedByte_30 : decode cX2_recordedByte 30 = .ok (.astore_n 3, 1) := by decide +kernel
theorem dX2_recordedByte_31 : decode cX2_recordedByte 31 = .ok (.iload_n 2, 1) := by decide +kernel
theorem dX2_recordedByte_32 : decode cX2_recordedByte 32 = .ok (.ifCond .lt 11, 3) := by decide +kernel
theorem dX2_recordedByte_35 : decode cX2_recordedByte 35 = .ok (.iload_n 2, 1) := by decide +kernel
theorem dX2_recordedByte_36 : decode cX2_recordedByte 36 = .ok (.aload_n 3, 1) := by decide +kernel
theorem dX2_recordedByte_37 : decode cX2_recordedByte 37 = .ok (.getfield 94, 3) := by decide +kernel
theorem dX2_recordedByte_40 : decode cX2_recordedByte 40 = .ok (.if_icmp .lt 5, 3) := by decide +kernel
theorem dX2_recordedByte_43 : decode cX2_recordedByte 43 = .ok (.iconst (-1), 1) := by decide +kernel
theorem dX2_recordedByte_44 : decode cX2_recordedByte 44 = .ok (.ireturn, 1) := by decide +kernel
theorem dX2_recordedByte_45 : decode cX2_recordedByte 45 = .ok (.aload_n 3, 1) := by decide +kernel
theorem dX2_recordedByte_46 : decode cX2_recordedByte 46 = .ok (.getfield 85, 3) := by decide +kernel
theorem dX2_recordedByte_49 : decode cX2_recordedByte 49 = .ok (.iload_n 2, 1) := by decide +kernel
theorem dX2_recordedByte_50 : decode cX2_recordedByte 50 = .ok (.iaload, 1) := by decide +kernel
theorem dX2_recordedByte_51 : decode cX2_recordedByte 51 = .ok (.ireturn, 1) := by decide +kernel
