theorem dX2_init_0 : decode cX2_init 0 = .ok (.aload_n 0, 1) := by decide +kernel
theorem dX2_init_1 : decode cX2_init 1 = .ok (.invokespecial 3, 3) := by decide +kernel
theorem dX2_init_4 : decode cX2_init 4 = .ok (.aload_n 0, 1) := by decide +kernel
theorem dX2_init_5 : decode cX2_init 5 = .ok (.sipush 256, 3) := by decide +kernel
theorem dX2_init_8 : decode cX2_init 8 = .ok (.anewarray 9, 3) := by decide +kernel
theorem dX2_init_11 : decode cX2_init 11 = .ok (.putfield 11, 3) := by decide +kernel
theorem dX2_init_14 : decode cX2_init 14 = .ok (.aload_n 0, 1) := by decide +kernel
theorem dX2_init_15 : decode cX2_init 15 = .ok (.new 9, 3) := by decide +kernel
theorem dX2_init_18 : decode cX2_init 18 = .ok (.dup, 1) := by decide +kernel
theorem dX2_init_19 : decode cX2_init 19 = .ok (.invokespecial 17, 3) := by decide +kernel
theorem dX2_init_22 : decode cX2_init 22 = .ok (.putfield 18, 3) := by decide +kernel
theorem dX2_init_25 : decode cX2_init 25 = .ok (.aload_n 0, 1) := by decide +kernel
theorem dX2_init_26 : decode cX2_init 26 = .ok (.bipush 60, 2) := by decide +kernel
theorem dX2_init_28 : decode cX2_init 28 = .ok (.newarray .int, 2) := by decide +kernel
theorem dX2_init_30 : decode cX2_init 30 = .ok (.putfield 22, 3) := by decide +kernel
theorem dX2_init_33 : decode cX2_init 33 = .ok (.aload_n 0, 1) := by decide +kernel
theorem dX2_init_34 : decode cX2_init 34 = .ok (.bipush 60, 2) := by decide +kernel
theorem dX2_init_36 : decode cX2_init 36 = .ok (.newarray .int, 2) := by decide +kernel
theorem dX2_init_38 : decode cX2_init 38 = .ok (.putfield 26, 3) := by decide +kernel
theorem dX2_init_41 : decode cX2_init 41 = .ok (.aload_n 0, 1) := by decide +kernel
theorem dX2_init_42 : decode cX2_init 42 = .ok (.bipush 60, 2) := by decide +kernel
theorem dX2_init_44 : decode cX2_init 44 = .ok (.newarray .int, 2) := by decide +kernel
theorem dX2_init_46 : decode cX2_init 46 = .ok (.putfield 29, 3) := by decide +kernel
theorem dX2_init_49 : decode cX2_init 49 = .ok (.aload_n 0, 1) := by decide +kernel
theorem dX2_init_50 : decode cX2_init 50 = .ok (.bipush 60, 2) := by decide +kernel
theorem dX2_init_52 : decode cX2_init 52 = .ok (.newarray .int, 2) := by decide +kernel
theorem dX2_init_54 : decode cX2_init 54 = .ok (.putfield 32, 3) := by decide +kernel
theorem dX2_init_57 : decode cX2_init 57 = .ok (.aload_n 0, 1) := by decide +kernel
theorem dX2_init_58 : decode cX2_init 58 = .ok (.iconst 2, 1) := by decide +kernel
theorem dX2_init_59 : decode cX2_init 59 = .ok (.newarray .int, 2) := by decide +kernel
theorem dX2_init_61 : decode cX2_init 61 = .ok (.putfield 35, 3) := by decide +kernel
theorem dX2_init_64 : decode cX2_init 64 = .ok (.iconst 0, 1) := by decide +kernel
theorem dX2_init_65 : decode cX2_init 65 = .ok (.istore_n 1, 1) := by decide +kernel
theorem dX2_init_66 : decode cX2_init 66 = .ok (.iload_n 1, 1) := by decide +kernel
theorem dX2_init_67 : decode cX2_init 67 = .ok (.sipush 256, 3) := by decide +kernel
theorem dX2_init_70 : decode cX2_init 70 = .ok (.if_icmp .ge 22, 3) := by decide +kernel
theorem dX2_init_73 : decode cX2_init 73 = .ok (.aload_n 0, 1) := by decide +kernel
theorem dX2_init_74 : decode cX2_init 74 = .ok (.getfield 11, 3) := by decide +kernel
theorem dX2_init_77 : decode cX2_init 77 = .ok (.iload_n 1, 1) := by decide +kernel
theorem dX2_init_78 : decode cX2_init 78 = .ok (.new 9, 3) := by decide +kernel
theorem dX2_init_81 : decode cX2_init 81 = .ok (.dup, 1) := by decide +kernel
theorem dX2_init_82 : decode cX2_init 82 = .ok (.invokespecial 17, 3) := by decide +kernel
theorem dX2_init_85 : decode cX2_init 85 = .ok (.aastore, 1) := by decide +kernel
theorem dX2_init_86 : decode cX2_init 86 = .ok (.iinc 1 1, 3) := by decide +kernel
theorem dX2_init_89 : decode cX2_init 89 = .ok (.goto (-23), 3) := by decide +kernel
theorem dX2_init_92 : decode cX2_init 92 = .ok (.return_, 1) := by decide +kernel
theorem dX2_addFault_0 : decode cX2_addFault 0 = .ok (.aload_n 0, 1) := by decide +kernel
theorem dX2_addFault_1 : decode cX2_addFault 1 = .ok (.getfield 38, 3) := by decide +kernel
theorem dX2_addFault_4 : decode cX2_addFault 4 = .ok (.bipush 60, 2) := by decide +kernel
theorem dX2_addFault_6 : decode cX2_addFault 6 = .ok (.if_icmp .lt 6, 3) := by decide +kernel
theorem dX2_addFault_9 : decode cX2_addFault 9 = .ok (.bipush (-3), 2) := by decide +kernel
theorem dX2_addFault_11 : decode cX2_addFault 11 = .ok (.ireturn, 1) := by decide +kernel
theorem dX2_addFault_12 : decode cX2_addFault 12 = .ok (.aload_n 0, 1) := by decide +kernel
theorem dX2_addFault_13 : decode cX2_addFault 13 = .ok (.getfield 22, 3) := by decide +kernel
theorem dX2_addFault_16 : decode cX2_addFault 16 = .ok (.aload_n 0, 1) := by decide +kernel
theorem dX2_addFault_17 : decode cX2_addFault 17 = .ok (.getfield 38, 3) := by decide +kernel
theorem dX2_addFault_20 : decode cX2_addFault 20 = .ok (.iload_n 1, 1) := by decide +kernel
theorem dX2_addFault_21 : decode cX2_addFault 21 = .ok (.iastore, 1) := by decide +kernel
theorem dX2_addFault_22 : decode cX2_addFault 22 = .ok (.aload_n 0, 1) := by decide +kernel
theorem dX2_addFault_23 : decode cX2_addFault 23 = .ok (.getfield 26, 3) := by decide +kernel
theorem dX2_addFault_26 : decode cX2_addFault 26 = .ok (.aload_n 0, 1) := by decide +kernel
theorem dX2_addFault_27 : decode cX2_addFault 27 = .ok (.getfield 38, 3) := by decide +kernel
theorem dX2_addFault_30 : decode cX2_addFault 30 = .ok (.iload_n 2, 1) := by decide +kernel
theorem dX2_addFault_31 : decode cX2_addFault 31 = .ok (.iastore, 1) := by decide +kernel
theorem dX2_addFault_32 : decode cX2_addFault 32 = .ok (.aload_n 0, 1) := by decide +kernel
theorem dX2_addFault_33 : decode cX2_addFault 33 = .ok (.getfield 29, 3) := by decide +kernel
theorem dX2_addFault_36 : decode cX2_addFault 36 = .ok (.aload_n 0, 1) := by decide +kernel
theorem dX2_addFault_37 : decode cX2_addFault 37 = .ok (.getfield 38, 3) := by decide +kernel
theorem dX2_addFault_40 : decode cX2_addFault 40 = .ok (.iload_n 3, 1) := by decide +kernel
theorem dX2_addFault_41 : decode cX2_addFault 41 = .ok (.iastore, 1) := by decide +kernel
theorem dX2_addFault_42 : decode cX2_addFault 42 = .ok (.aload_n 0, 1) := by decide +kernel
theorem dX2_addFault_43 : decode cX2_addFault 43 = .ok (.getfield 32, 3) := by decide +kernel
theorem dX2_addFault_46 : decode cX2_addFault 46 = .ok (.aload_n 0, 1) := by decide +kernel
theorem dX2_addFault_47 : decode cX2_addFault 47 = .ok (.getfield 38, 3) := by decide +kernel
theorem dX2_addFault_50 : decode cX2_addFault 50 = .ok (.iload 4, 2) := by decide +kernel
theorem dX2_addFault_52 : decode cX2_addFault 52 = .ok (.iastore, 1) := by decide +kernel
theorem dX2_addFault_53 : decode cX2_addFault 53 = .ok (.aload_n 0, 1) := by decide +kernel
theorem dX2_addFault_54 : decode cX2_addFault 54 = .ok (.dup, 1) := by decide +kernel
theorem dX2_addFault_55 : decode cX2_addFault 55 = .ok (.getfield 38, 3) := by decide +kernel
theorem dX2_addFault_58 : decode cX2_addFault 58 = .ok (.iconst 1, 1) := by decide +kernel
theorem dX2_addFault_59 : decode cX2_addFault 59 = .ok (.iadd, 1) := by decide +kernel
theorem dX2_addFault_60 : decode cX2_addFault 60 = .ok (.putfield 38, 3) := by decide +kernel
theorem dX2_addFault_63 : decode cX2_addFault 63 = .ok (.aload_n 0, 1) := by decide +kernel
theorem dX2_addFault_64 : decode cX2_addFault 64 = .ok (.getfield 38, 3) := by decide +kernel
theorem dX2_addFault_67 : decode cX2_addFault 67 = .ok (.ireturn, 1) := by decide +kernel
theorem dX2_unitOf_0 : decode cX2_unitOf 0 = .ok (.aload_n 0, 1) := by decide +kernel
theorem dX2_unitOf_1 : decode cX2_unitOf 1 = .ok (.getfield 11, 3) := by decide +kernel
theorem dX2_unitOf_4 : decode cX2_unitOf 4 = .ok (.iload_n 1, 1) := by decide +kernel
theorem dX2_unitOf_5 : decode cX2_unitOf 5 = .ok (.sipush 255, 3) := by decide +kernel
theorem dX2_unitOf_8 : decode cX2_unitOf 8 = .ok (.iand, 1) := by decide +kernel
theorem dX2_unitOf_9 : decode cX2_unitOf 9 = .ok (.aaload, 1) := by decide +kernel
theorem dX2_unitOf_10 : decode cX2_unitOf 10 = .ok (.areturn, 1) := by decide +kernel
theorem dX2_nextUnit_0 : decode cX2_nextUnit 0 = .ok (.aload_n 0, 1) := by decide +kernel
theorem dX2_nextUnit_1 : decode cX2_nextUnit 1 = .ok (.aload_n 0, 1) := by decide +kernel
theorem dX2_nextUnit_2 : decode cX2_nextUnit 2 = .ok (.getfield 42, 3) := by decide +kernel
theorem dX2_nextUnit_5 : decode cX2_nextUnit 5 = .ok (.invokevirtual 45, 3) := by decide +kernel
theorem dX2_nextUnit_8 : decode cX2_nextUnit 8 = .ok (.areturn, 1) := by decide +kernel
theorem dX2_dispatch_0 : decode cX2_dispatch 0 = .ok (.aload_n 0, 1) := by decide +kernel
theorem dX2_dispatch_1 : decode cX2_dispatch 1 = .ok (.aload_n 0, 1) := by decide +kernel
theorem dX2_dispatch_2 : decode cX2_dispatch 2 = .ok (.getfield 42, 3) := by decide +kernel
theorem dX2_dispatch_5 : decode cX2_dispatch 5 = .ok (.invokevirtual 45, 3) := by decide +kernel
theorem dX2_dispatch_8 : decode cX2_dispatch 8 = .ok (.astore_n 2, 1) := by decide +kernel
theorem dX2_dispatch_9 : decode cX2_dispatch 9 = .ok (.aload_n 2, 1) := by decide +kernel
theorem dX2_dispatch_10 : decode cX2_dispatch 10 = .ok (.aload_n 2, 1) := by decide +kernel
theorem dX2_dispatch_11 : decode cX2_dispatch 11 = .ok (.invokevirtual 49, 3) := by decide +kernel
theorem dX2_dispatch_14 : decode cX2_dispatch 14 = .ok (.aload_n 2, 1) := by decide +kernel
theorem dX2_dispatch_15 : decode cX2_dispatch 15 = .ok (.invokevirtual 53, 3) := by decide +kernel
theorem dX2_dispatch_18 : decode cX2_dispatch 18 = .ok (.invokevirtual 56, 3) := by decide +kernel
theorem dX2_dispatch_21 : decode cX2_dispatch 21 = .ok (.aload_n 2, 1) := by decide +kernel
theorem dX2_dispatch_22 : decode cX2_dispatch 22 = .ok (.iload_n 1, 1) := by decide +kernel
theorem dX2_dispatch_23 : decode cX2_dispatch 23 = .ok (.putfield 60, 3) := by decide +kernel
theorem dX2_dispatch_26 : decode cX2_dispatch 26 = .ok (.aload_n 2, 1) := by decide +kernel
theorem dX2_dispatch_27 : decode cX2_dispatch 27 = .ok (.aload_n 0, 1) := by decide +kernel
theorem dX2_dispatch_28 : decode cX2_dispatch 28 = .ok (.getfield 63, 3) := by decide +kernel
theorem dX2_dispatch_31 : decode cX2_dispatch 31 = .ok (.iconst 2, 1) := by decide +kernel
theorem dX2_dispatch_32 : decode cX2_dispatch 32 = .ok (.iadd, 1) := by decide +kernel
theorem dX2_dispatch_33 : decode cX2_dispatch 33 = .ok (.putfield 66, 3) := by decide +kernel
theorem dX2_dispatch_36 : decode cX2_dispatch 36 = .ok (.aload_n 2, 1) := by decide +kernel
theorem dX2_dispatch_37 : decode cX2_dispatch 37 = .ok (.iconst (-1), 1) := by decide +kernel
theorem dX2_dispatch_38 : decode cX2_dispatch 38 = .ok (.putfield 69, 3) := by decide +kernel
theorem dX2_dispatch_41 : decode cX2_dispatch 41 = .ok (.aload_n 2, 1) := by decide +kernel
theorem dX2_dispatch_42 : decode cX2_dispatch 42 = .ok (.iconst 0, 1) := by decide +kernel
theorem dX2_dispatch_43 : decode cX2_dispatch 43 = .ok (.putfield 72, 3) := by decide +kernel
theorem dX2_dispatch_46 : decode cX2_dispatch 46 = .ok (.aload_n 0, 1) := by decide +kernel
theorem dX2_dispatch_47 : decode cX2_dispatch 47 = .ok (.aload_n 2, 1) := by decide +kernel
theorem dX2_dispatch_48 : decode cX2_dispatch 48 = .ok (.invokevirtual 75, 3) := by decide +kernel
theorem dX2_dispatch_51 : decode cX2_dispatch 51 = .ok (.aload_n 0, 1) := by decide +kernel
theorem dX2_dispatch_52 : decode cX2_dispatch 52 = .ok (.getfield 35, 3) := by decide +kernel
theorem dX2_dispatch_55 : decode cX2_dispatch 55 = .ok (.iload_n 1, 1) := by decide +kernel
theorem dX2_dispatch_56 : decode cX2_dispatch 56 = .ok (.aload_n 0, 1) := by decide +kernel
theorem dX2_dispatch_57 : decode cX2_dispatch 57 = .ok (.getfield 63, 3) := by decide +kernel
theorem dX2_dispatch_60 : decode cX2_dispatch 60 = .ok (.iastore, 1) := by decide +kernel
theorem dX2_dispatch_61 : decode cX2_dispatch 61 = .ok (.aload_n 0, 1) := by decide +kernel
theorem dX2_dispatch_62 : decode cX2_dispatch 62 = .ok (.dup, 1) := by decide +kernel
theorem dX2_dispatch_63 : decode cX2_dispatch 63 = .ok (.getfield 42, 3) := by decide +kernel
theorem dX2_dispatch_66 : decode cX2_dispatch 66 = .ok (.iconst 1, 1) := by decide +kernel
theorem dX2_dispatch_67 : decode cX2_dispatch 67 = .ok (.iadd, 1) := by decide +kernel
theorem dX2_dispatch_68 : decode cX2_dispatch 68 = .ok (.putfield 42, 3) := by decide +kernel
theorem dX2_dispatch_71 : decode cX2_dispatch 71 = .ok (.aload_n 0, 1) := by decide +kernel
theorem dX2_dispatch_72 : decode cX2_dispatch 72 = .ok (.getfield 42, 3) := by decide +kernel
theorem dX2_dispatch_75 : decode cX2_dispatch 75 = .ok (.aload_n 0, 1) := by decide +kernel
theorem dX2_dispatch_76 : decode cX2_dispatch 76 = .ok (.getfield 79, 3) := by decide +kernel
theorem dX2_dispatch_79 : decode cX2_dispatch 79 = .ok (.isub, 1) := by decide +kernel
theorem dX2_dispatch_80 : decode cX2_dispatch 80 = .ok (.sipush 256, 3) := by decide +kernel
theorem dX2_dispatch_83 : decode cX2_dispatch 83 = .ok (.if_icmp .le 15, 3) := by decide +kernel
theorem dX2_dispatch_86 : decode cX2_dispatch 86 = .ok (.aload_n 0, 1) := by decide +kernel
theorem dX2_dispatch_87 : decode cX2_dispatch 87 = .ok (.aload_n 0, 1) := by decide +kernel
theorem dX2_dispatch_88 : decode cX2_dispatch 88 = .ok (.getfield 42, 3) := by decide +kernel
theorem dX2_dispatch_91 : decode cX2_dispatch 91 = .ok (.sipush 256, 3) := by decide +kernel
theorem dX2_dispatch_94 : decode cX2_dispatch 94 = .ok (.isub, 1) := by decide +kernel
theorem dX2_dispatch_95 : decode cX2_dispatch 95 = .ok (.putfield 79, 3) := by decide +kernel
theorem dX2_dispatch_98 : decode cX2_dispatch 98 = .ok (.return_, 1) := by decide +kernel
theorem dX2_applyFaults_0 : decode cX2_applyFaults 0 = .ok (.iconst 0, 1) := by decide +kernel
theorem dX2_applyFaults_1 : decode cX2_applyFaults 1 = .ok (.istore_n 2, 1) := by decide +kernel
theorem dX2_applyFaults_2 : decode cX2_applyFaults 2 = .ok (.iconst 0, 1) := by decide +kernel
theorem dX2_applyFaults_3 : decode cX2_applyFaults 3 = .ok (.istore_n 3, 1) := by decide +kernel
theorem dX2_applyFaults_4 : decode cX2_applyFaults 4 = .ok (.iconst 0, 1) := by decide +kernel
theorem dX2_applyFaults_5 : decode cX2_applyFaults 5 = .ok (.istore 4, 2) := by decide +kernel
theorem dX2_applyFaults_7 : decode cX2_applyFaults 7 = .ok (.iload 4, 2) := by decide +kernel
theorem dX2_applyFaults_9 : decode cX2_applyFaults 9 = .ok (.aload_n 0, 1) := by decide +kernel
theorem dX2_applyFaults_10 : decode cX2_applyFaults 10 = .ok (.getfield 38, 3) := by decide +kernel
theorem dX2_applyFaults_13 : decode cX2_applyFaults 13 = .ok (.if_icmp .ge 108, 3) := by decide +kernel
theorem dX2_applyFaults_16 : decode cX2_applyFaults 16 = .ok (.aload_n 0, 1) := by decide +kernel
theorem dX2_applyFaults_17 : decode cX2_applyFaults 17 = .ok (.getfield 26, 3) := by decide +kernel
theorem dX2_applyFaults_20 : decode cX2_applyFaults 20 = .ok (.iload 4, 2) := by decide +kernel
theorem dX2_applyFaults_22 : decode cX2_applyFaults 22 = .ok (.iaload, 1) := by decide +kernel
theorem dX2_applyFaults_23 : decode cX2_applyFaults 23 = .ok (.aload_n 0, 1) := by decide +kernel
theorem dX2_applyFaults_24 : decode cX2_applyFaults 24 = .ok (.getfield 42, 3) := by decide +kernel
theorem dX2_applyFaults_27 : decode cX2_applyFaults 27 = .ok (.if_icmp .eq 6, 3) := by decide +kernel
theorem dX2_applyFaults_30 : decode cX2_applyFaults 30 = .ok (.goto 85, 3) := by decide +kernel
theorem dX2_applyFaults_33 : decode cX2_applyFaults 33 = .ok (.aload_n 0, 1) := by decide +kernel
theorem dX2_applyFaults_34 : decode cX2_applyFaults 34 = .ok (.getfield 22, 3) := by decide +kernel
theorem dX2_applyFaults_37 : decode cX2_applyFaults 37 = .ok (.iload 4, 2) := by decide +kernel
theorem dX2_applyFaults_39 : decode cX2_applyFaults 39 = .ok (.iaload, 1) := by decide +kernel
theorem dX2_applyFaults_40 : decode cX2_applyFaults 40 = .ok (.tableswitch 53 1 3 #[28, 33, 38], 28) := by decide +kernel
theorem dX2_applyFaults_68 : decode cX2_applyFaults 68 = .ok (.iconst 1, 1) := by decide +kernel
theorem dX2_applyFaults_69 : decode cX2_applyFaults 69 = .ok (.istore_n 2, 1) := by decide +kernel
theorem dX2_applyFaults_70 : decode cX2_applyFaults 70 = .ok (.goto 45, 3) := by decide +kernel
theorem dX2_applyFaults_73 : decode cX2_applyFaults 73 = .ok (.iconst 1, 1) := by decide +kernel
theorem dX2_applyFaults_74 : decode cX2_applyFaults 74 = .ok (.istore_n 3, 1) := by decide +kernel
theorem dX2_applyFaults_75 : decode cX2_applyFaults 75 = .ok (.goto 40, 3) := by decide +kernel
theorem dX2_applyFaults_78 : decode cX2_applyFaults 78 = .ok (.aload_n 1, 1) := by decide +kernel
theorem dX2_applyFaults_79 : decode cX2_applyFaults 79 = .ok (.aload_n 0, 1) := by decide +kernel
theorem dX2_applyFaults_80 : decode cX2_applyFaults 80 = .ok (.getfield 63, 3) := by decide +kernel
theorem dX2_applyFaults_83 : decode cX2_applyFaults 83 = .ok (.iconst 2, 1) := by decide +kernel
theorem dX2_applyFaults_84 : decode cX2_applyFaults 84 = .ok (.iadd, 1) := by decide +kernel
theorem dX2_applyFaults_85 : decode cX2_applyFaults 85 = .ok (.iconst 5, 1) := by decide +kernel
theorem dX2_applyFaults_86 : decode cX2_applyFaults 86 = .ok (.iadd, 1) := by decide +kernel
theorem dX2_applyFaults_87 : decode cX2_applyFaults 87 = .ok (.putfield 66, 3) := by decide +kernel
theorem dX2_applyFaults_90 : decode cX2_applyFaults 90 = .ok (.goto 25, 3) := by decide +kernel
theorem dX2_applyFaults_93 : decode cX2_applyFaults 93 = .ok (.aload_n 1, 1) := by decide +kernel
theorem dX2_applyFaults_94 : decode cX2_applyFaults 94 = .ok (.aload_n 0, 1) := by decide +kernel
theorem dX2_applyFaults_95 : decode cX2_applyFaults 95 = .ok (.getfield 29, 3) := by decide +kernel
theorem dX2_applyFaults_98 : decode cX2_applyFaults 98 = .ok (.iload 4, 2) := by decide +kernel
theorem dX2_applyFaults_100 : decode cX2_applyFaults 100 = .ok (.iaload, 1) := by decide +kernel
theorem dX2_applyFaults_101 : decode cX2_applyFaults 101 = .ok (.putfield 82, 3) := by decide +kernel
theorem dX2_applyFaults_104 : decode cX2_applyFaults 104 = .ok (.aload_n 1, 1) := by decide +kernel
theorem dX2_applyFaults_105 : decode cX2_applyFaults 105 = .ok (.aload_n 0, 1) := by decide +kernel
theorem dX2_applyFaults_106 : decode cX2_applyFaults 106 = .ok (.getfield 32, 3) := by decide +kernel
theorem dX2_applyFaults_109 : decode cX2_applyFaults 109 = .ok (.iload 4, 2) := by decide +kernel
theorem dX2_applyFaults_111 : decode cX2_applyFaults 111 = .ok (.iaload, 1) := by decide +kernel
theorem dX2_applyFaults_112 : decode cX2_applyFaults 112 = .ok (.putfield 72, 3) := by decide +kernel
theorem dX2_applyFaults_115 : decode cX2_applyFaults 115 = .ok (.iinc 4 1, 3) := by decide +kernel
theorem dX2_applyFaults_118 : decode cX2_applyFaults 118 = .ok (.goto (-111), 3) := by decide +kernel
theorem dX2_applyFaults_121 : decode cX2_applyFaults 121 = .ok (.iload_n 2, 1) := by decide +kernel
theorem dX2_applyFaults_122 : decode cX2_applyFaults 122 = .ok (.ifCond .eq 11, 3) := by decide +kernel
theorem dX2_applyFaults_125 : decode cX2_applyFaults 125 = .ok (.aload_n 1, 1) := by decide +kernel
theorem dX2_applyFaults_126 : decode cX2_applyFaults 126 = .ok (.iconst (-1), 1) := by decide +kernel
theorem dX2_applyFaults_127 : decode cX2_applyFaults 127 = .ok (.putfield 66, 3) := by decide +kernel
theorem dX2_applyFaults_130 : decode cX2_applyFaults 130 = .ok (.goto 17, 3) := by decide +kernel
theorem dX2_applyFaults_133 : decode cX2_applyFaults 133 = .ok (.iload_n 3, 1) := by decide +kernel
theorem dX2_applyFaults_134 : decode cX2_applyFaults 134 = .ok (.ifCond .eq 13, 3) := by decide +kernel
theorem dX2_applyFaults_137 : decode cX2_applyFaults 137 = .ok (.aload_n 1, 1) := by decide +kernel
theorem dX2_applyFaults_138 : decode cX2_applyFaults 138 = .ok (.aload_n 1, 1) := by decide +kernel
theorem dX2_applyFaults_139 : decode cX2_applyFaults 139 = .ok (.getfield 66, 3) := by decide +kernel
theorem dX2_applyFaults_142 : decode cX2_applyFaults 142 = .ok (.iconst 1, 1) := by decide +kernel
theorem dX2_applyFaults_143 : decode cX2_applyFaults 143 = .ok (.iadd, 1) := by decide +kernel
theorem dX2_applyFaults_144 : decode cX2_applyFaults 144 = .ok (.putfield 69, 3) := by decide +kernel
theorem dX2_applyFaults_147 : decode cX2_applyFaults 147 = .ok (.return_, 1) := by decide +kernel
theorem dX2_forgetArrived_0 : decode cX2_forgetArrived 0 = .ok (.aload_n 0, 1) := by decide +kernel
theorem dX2_forgetArrived_1 : decode cX2_forgetArrived 1 = .ok (.getfield 79, 3) := by decide +kernel
theorem dX2_forgetArrived_4 : decode cX2_forgetArrived 4 = .ok (.aload_n 0, 1) := by decide +kernel
theorem dX2_forgetArrived_5 : decode cX2_forgetArrived 5 = .ok (.getfield 42, 3) := by decide +kernel
theorem dX2_forgetArrived_8 : decode cX2_forgetArrived 8 = .ok (.if_icmp .ge 52, 3) := by decide +kernel
theorem dX2_forgetArrived_11 : decode cX2_forgetArrived 11 = .ok (.aload_n 0, 1) := by decide +kernel
theorem dX2_forgetArrived_12 : decode cX2_forgetArrived 12 = .ok (.aload_n 0, 1) := by decide +kernel
theorem dX2_forgetArrived_13 : decode cX2_forgetArrived 13 = .ok (.getfield 79, 3) := by decide +kernel
theorem dX2_forgetArrived_16 : decode cX2_forgetArrived 16 = .ok (.invokevirtual 45, 3) := by decide +kernel
theorem dX2_forgetArrived_19 : decode cX2_forgetArrived 19 = .ok (.getfield 66, 3) := by decide +kernel
theorem dX2_forgetArrived_22 : decode cX2_forgetArrived 22 = .ok (.aload_n 0, 1) := by decide +kernel
theorem dX2_forgetArrived_23 : decode cX2_forgetArrived 23 = .ok (.getfield 63, 3) := by decide +kernel
theorem dX2_forgetArrived_26 : decode cX2_forgetArrived 26 = .ok (.if_icmp .gt 34, 3) := by decide +kernel
theorem dX2_forgetArrived_29 : decode cX2_forgetArrived 29 = .ok (.aload_n 0, 1) := by decide +kernel
theorem dX2_forgetArrived_30 : decode cX2_forgetArrived 30 = .ok (.aload_n 0, 1) := by decide +kernel
theorem dX2_forgetArrived_31 : decode cX2_forgetArrived 31 = .ok (.getfield 79, 3) := by decide +kernel
theorem dX2_forgetArrived_34 : decode cX2_forgetArrived 34 = .ok (.invokevirtual 45, 3) := by decide +kernel
theorem dX2_forgetArrived_37 : decode cX2_forgetArrived 37 = .ok (.getfield 69, 3) := by decide +kernel
