theorem dX0_init_0 : decode cX0_init 0 = .ok (.aload_n 0, 1) := by decide +kernel
theorem dX0_init_1 : decode cX0_init 1 = .ok (.invokespecial 3, 3) := by decide +kernel
theorem dX0_init_4 : decode cX0_init 4 = .ok (.aload_n 0, 1) := by decide +kernel
theorem dX0_init_5 : decode cX0_init 5 = .ok (.new 9, 3) := by decide +kernel
theorem dX0_init_8 : decode cX0_init 8 = .ok (.dup, 1) := by decide +kernel
theorem dX0_init_9 : decode cX0_init 9 = .ok (.invokespecial 11, 3) := by decide +kernel
theorem dX0_init_12 : decode cX0_init 12 = .ok (.putfield 12, 3) := by decide +kernel
theorem dX0_init_15 : decode cX0_init 15 = .ok (.aload_n 0, 1) := by decide +kernel
theorem dX0_init_16 : decode cX0_init 16 = .ok (.new 18, 3) := by decide +kernel
theorem dX0_init_19 : decode cX0_init 19 = .ok (.dup, 1) := by decide +kernel
theorem dX0_init_20 : decode cX0_init 20 = .ok (.invokespecial 20, 3) := by decide +kernel
theorem dX0_init_23 : decode cX0_init 23 = .ok (.putfield 21, 3) := by decide +kernel
theorem dX0_init_26 : decode cX0_init 26 = .ok (.aload_n 0, 1) := by decide +kernel
theorem dX0_init_27 : decode cX0_init 27 = .ok (.new 25, 3) := by decide +kernel
theorem dX0_init_30 : decode cX0_init 30 = .ok (.dup, 1) := by decide +kernel
theorem dX0_init_31 : decode cX0_init 31 = .ok (.invokespecial 27, 3) := by decide +kernel
theorem dX0_init_34 : decode cX0_init 34 = .ok (.putfield 28, 3) := by decide +kernel
theorem dX0_init_37 : decode cX0_init 37 = .ok (.aload_n 0, 1) := by decide +kernel
theorem dX0_init_38 : decode cX0_init 38 = .ok (.new 32, 3) := by decide +kernel
theorem dX0_init_41 : decode cX0_init 41 = .ok (.dup, 1) := by decide +kernel
theorem dX0_init_42 : decode cX0_init 42 = .ok (.invokespecial 34, 3) := by decide +kernel
theorem dX0_init_45 : decode cX0_init 45 = .ok (.putfield 35, 3) := by decide +kernel
theorem dX0_init_48 : decode cX0_init 48 = .ok (.aload_n 0, 1) := by decide +kernel
theorem dX0_init_49 : decode cX0_init 49 = .ok (.new 39, 3) := by decide +kernel
theorem dX0_init_52 : decode cX0_init 52 = .ok (.dup, 1) := by decide +kernel
theorem dX0_init_53 : decode cX0_init 53 = .ok (.invokespecial 41, 3) := by decide +kernel
theorem dX0_init_56 : decode cX0_init 56 = .ok (.putfield 42, 3) := by decide +kernel
theorem dX0_init_59 : decode cX0_init 59 = .ok (.aload_n 0, 1) := by decide +kernel
theorem dX0_init_60 : decode cX0_init 60 = .ok (.iconst (-1), 1) := by decide +kernel
theorem dX0_init_61 : decode cX0_init 61 = .ok (.putfield 46, 3) := by decide +kernel
theorem dX0_init_64 : decode cX0_init 64 = .ok (.aload_n 0, 1) := by decide +kernel
theorem dX0_init_65 : decode cX0_init 65 = .ok (.iload_n 1, 1) := by decide +kernel
theorem dX0_init_66 : decode cX0_init 66 = .ok (.putfield 50, 3) := by decide +kernel
theorem dX0_init_69 : decode cX0_init 69 = .ok (.aload_n 0, 1) := by decide +kernel
theorem dX0_init_70 : decode cX0_init 70 = .ok (.aload_n 2, 1) := by decide +kernel
theorem dX0_init_71 : decode cX0_init 71 = .ok (.putfield 53, 3) := by decide +kernel
theorem dX0_init_74 : decode cX0_init 74 = .ok (.return_, 1) := by decide +kernel
theorem dX0_callPeer_0 : decode cX0_callPeer 0 = .ok (.aload_n 0, 1) := by decide +kernel
theorem dX0_callPeer_1 : decode cX0_callPeer 1 = .ok (.getfield 57, 3) := by decide +kernel
theorem dX0_callPeer_4 : decode cX0_callPeer 4 = .ok (.ifCond .eq 6, 3) := by decide +kernel
theorem dX0_callPeer_7 : decode cX0_callPeer 7 = .ok (.bipush (-2), 2) := by decide +kernel
theorem dX0_callPeer_9 : decode cX0_callPeer 9 = .ok (.ireturn, 1) := by decide +kernel
theorem dX0_callPeer_10 : decode cX0_callPeer 10 = .ok (.aload_n 0, 1) := by decide +kernel
theorem dX0_callPeer_11 : decode cX0_callPeer 11 = .ok (.iconst 1, 1) := by decide +kernel
theorem dX0_callPeer_12 : decode cX0_callPeer 12 = .ok (.iconst 0, 1) := by decide +kernel
theorem dX0_callPeer_13 : decode cX0_callPeer 13 = .ok (.invokevirtual 60, 3) := by decide +kernel
theorem dX0_callPeer_16 : decode cX0_callPeer 16 = .ok (.aload_n 0, 1) := by decide +kernel
theorem dX0_callPeer_17 : decode cX0_callPeer 17 = .ok (.sipush 230, 3) := by decide +kernel
theorem dX0_callPeer_20 : decode cX0_callPeer 20 = .ok (.invokevirtual 64, 3) := by decide +kernel
theorem dX0_callPeer_23 : decode cX0_callPeer 23 = .ok (.aload_n 0, 1) := by decide +kernel
theorem dX0_callPeer_24 : decode cX0_callPeer 24 = .ok (.invokevirtual 68, 3) := by decide +kernel
theorem dX0_callPeer_27 : decode cX0_callPeer 27 = .ok (.aload_n 0, 1) := by decide +kernel
theorem dX0_callPeer_28 : decode cX0_callPeer 28 = .ok (.getfield 71, 3) := by decide +kernel
theorem dX0_callPeer_31 : decode cX0_callPeer 31 = .ok (.ireturn, 1) := by decide +kernel
theorem dX0_beginConnection_0 : decode cX0_beginConnection 0 = .ok (.aload_n 0, 1) := by decide +kernel
theorem dX0_beginConnection_1 : decode cX0_beginConnection 1 = .ok (.getfield 12, 3) := by decide +kernel
theorem dX0_beginConnection_4 : decode cX0_beginConnection 4 = .ok (.invokevirtual 74, 3) := by decide +kernel
theorem dX0_beginConnection_7 : decode cX0_beginConnection 7 = .ok (.aload_n 0, 1) := by decide +kernel
theorem dX0_beginConnection_8 : decode cX0_beginConnection 8 = .ok (.getfield 21, 3) := by decide +kernel
theorem dX0_beginConnection_11 : decode cX0_beginConnection 11 = .ok (.invokevirtual 77, 3) := by decide +kernel
theorem dX0_beginConnection_14 : decode cX0_beginConnection 14 = .ok (.aload_n 0, 1) := by decide +kernel
theorem dX0_beginConnection_15 : decode cX0_beginConnection 15 = .ok (.getfield 28, 3) := by decide +kernel
theorem dX0_beginConnection_18 : decode cX0_beginConnection 18 = .ok (.invokevirtual 78, 3) := by decide +kernel
theorem dX0_beginConnection_21 : decode cX0_beginConnection 21 = .ok (.aload_n 0, 1) := by decide +kernel
theorem dX0_beginConnection_22 : decode cX0_beginConnection 22 = .ok (.getfield 35, 3) := by decide +kernel
theorem dX0_beginConnection_25 : decode cX0_beginConnection 25 = .ok (.invokevirtual 79, 3) := by decide +kernel
theorem dX0_beginConnection_28 : decode cX0_beginConnection 28 = .ok (.aload_n 0, 1) := by decide +kernel
theorem dX0_beginConnection_29 : decode cX0_beginConnection 29 = .ok (.aload_n 0, 1) := by decide +kernel
theorem dX0_beginConnection_30 : decode cX0_beginConnection 30 = .ok (.getfield 71, 3) := by decide +kernel
theorem dX0_beginConnection_33 : decode cX0_beginConnection 33 = .ok (.ldc 80, 2) := by decide +kernel
theorem dX0_beginConnection_35 : decode cX0_beginConnection 35 = .ok (.if_icmp .ne 7, 3) := by decide +kernel
theorem dX0_beginConnection_38 : decode cX0_beginConnection 38 = .ok (.iconst 1, 1) := by decide +kernel
theorem dX0_beginConnection_39 : decode cX0_beginConnection 39 = .ok (.goto 9, 3) := by decide +kernel
theorem dX0_beginConnection_42 : decode cX0_beginConnection 42 = .ok (.aload_n 0, 1) := by decide +kernel
theorem dX0_beginConnection_43 : decode cX0_beginConnection 43 = .ok (.getfield 71, 3) := by decide +kernel
theorem dX0_beginConnection_46 : decode cX0_beginConnection 46 = .ok (.iconst 1, 1) := by decide +kernel
theorem dX0_beginConnection_47 : decode cX0_beginConnection 47 = .ok (.iadd, 1) := by decide +kernel
theorem dX0_beginConnection_48 : decode cX0_beginConnection 48 = .ok (.putfield 71, 3) := by decide +kernel
theorem dX0_beginConnection_51 : decode cX0_beginConnection 51 = .ok (.aload_n 0, 1) := by decide +kernel
theorem dX0_beginConnection_52 : decode cX0_beginConnection 52 = .ok (.iload_n 2, 1) := by decide +kernel
theorem dX0_beginConnection_53 : decode cX0_beginConnection 53 = .ok (.putfield 81, 3) := by decide +kernel
theorem dX0_beginConnection_56 : decode cX0_beginConnection 56 = .ok (.aload_n 0, 1) := by decide +kernel
theorem dX0_beginConnection_57 : decode cX0_beginConnection 57 = .ok (.iconst (-1), 1) := by decide +kernel
theorem dX0_beginConnection_58 : decode cX0_beginConnection 58 = .ok (.putfield 46, 3) := by decide +kernel
theorem dX0_beginConnection_61 : decode cX0_beginConnection 61 = .ok (.aload_n 0, 1) := by decide +kernel
theorem dX0_beginConnection_62 : decode cX0_beginConnection 62 = .ok (.iload_n 1, 1) := by decide +kernel
theorem dX0_beginConnection_63 : decode cX0_beginConnection 63 = .ok (.iconst 2, 1) := by decide +kernel
theorem dX0_beginConnection_64 : decode cX0_beginConnection 64 = .ok (.if_icmp .ne 7, 3) := by decide +kernel
theorem dX0_beginConnection_67 : decode cX0_beginConnection 67 = .ok (.iconst 1, 1) := by decide +kernel
theorem dX0_beginConnection_68 : decode cX0_beginConnection 68 = .ok (.goto 4, 3) := by decide +kernel
theorem dX0_beginConnection_71 : decode cX0_beginConnection 71 = .ok (.iconst 0, 1) := by decide +kernel
theorem dX0_beginConnection_72 : decode cX0_beginConnection 72 = .ok (.putfield 84, 3) := by decide +kernel
theorem dX0_beginConnection_75 : decode cX0_beginConnection 75 = .ok (.aload_n 0, 1) := by decide +kernel
theorem dX0_beginConnection_76 : decode cX0_beginConnection 76 = .ok (.aload_n 0, 1) := by decide +kernel
theorem dX0_beginConnection_77 : decode cX0_beginConnection 77 = .ok (.getfield 53, 3) := by decide +kernel
theorem dX0_beginConnection_80 : decode cX0_beginConnection 80 = .ok (.getfield 88, 3) := by decide +kernel
theorem dX0_beginConnection_83 : decode cX0_beginConnection 83 = .ok (.putfield 93, 3) := by decide +kernel
theorem dX0_beginConnection_86 : decode cX0_beginConnection 86 = .ok (.aload_n 0, 1) := by decide +kernel
theorem dX0_beginConnection_87 : decode cX0_beginConnection 87 = .ok (.iload_n 1, 1) := by decide +kernel
theorem dX0_beginConnection_88 : decode cX0_beginConnection 88 = .ok (.putfield 57, 3) := by decide +kernel
theorem dX0_beginConnection_91 : decode cX0_beginConnection 91 = .ok (.return_, 1) := by decide +kernel
theorem dX0_sendMessage_0 : decode cX0_sendMessage 0 = .ok (.aload_n 0, 1) := by decide +kernel
theorem dX0_sendMessage_1 : decode cX0_sendMessage 1 = .ok (.getfield 57, 3) := by decide +kernel
theorem dX0_sendMessage_4 : decode cX0_sendMessage 4 = .ok (.iconst 2, 1) := by decide +kernel
theorem dX0_sendMessage_5 : decode cX0_sendMessage 5 = .ok (.if_icmp .eq 6, 3) := by decide +kernel
theorem dX0_sendMessage_8 : decode cX0_sendMessage 8 = .ok (.bipush (-2), 2) := by decide +kernel
theorem dX0_sendMessage_10 : decode cX0_sendMessage 10 = .ok (.ireturn, 1) := by decide +kernel
theorem dX0_sendMessage_11 : decode cX0_sendMessage 11 = .ok (.aload_n 0, 1) := by decide +kernel
theorem dX0_sendMessage_12 : decode cX0_sendMessage 12 = .ok (.getfield 12, 3) := by decide +kernel
theorem dX0_sendMessage_15 : decode cX0_sendMessage 15 = .ok (.iload_n 2, 1) := by decide +kernel
theorem dX0_sendMessage_16 : decode cX0_sendMessage 16 = .ok (.invokevirtual 96, 3) := by decide +kernel
theorem dX0_sendMessage_19 : decode cX0_sendMessage 19 = .ok (.ifCond .ne 6, 3) := by decide +kernel
theorem dX0_sendMessage_22 : decode cX0_sendMessage 22 = .ok (.bipush (-3), 2) := by decide +kernel
theorem dX0_sendMessage_24 : decode cX0_sendMessage 24 = .ok (.ireturn, 1) := by decide +kernel
theorem dX0_sendMessage_25 : decode cX0_sendMessage 25 = .ok (.aload_n 0, 1) := by decide +kernel
theorem dX0_sendMessage_26 : decode cX0_sendMessage 26 = .ok (.getfield 12, 3) := by decide +kernel
theorem dX0_sendMessage_29 : decode cX0_sendMessage 29 = .ok (.aload_n 1, 1) := by decide +kernel
theorem dX0_sendMessage_30 : decode cX0_sendMessage 30 = .ok (.iload_n 2, 1) := by decide +kernel
theorem dX0_sendMessage_31 : decode cX0_sendMessage 31 = .ok (.invokevirtual 100, 3) := by decide +kernel
theorem dX0_sendMessage_34 : decode cX0_sendMessage 34 = .ok (.aload_n 0, 1) := by decide +kernel
theorem dX0_sendMessage_35 : decode cX0_sendMessage 35 = .ok (.invokevirtual 104, 3) := by decide +kernel
theorem dX0_sendMessage_38 : decode cX0_sendMessage 38 = .ok (.aload_n 0, 1) := by decide +kernel
theorem dX0_sendMessage_39 : decode cX0_sendMessage 39 = .ok (.getfield 12, 3) := by decide +kernel
theorem dX0_sendMessage_42 : decode cX0_sendMessage 42 = .ok (.getfield 107, 3) := by decide +kernel
theorem dX0_sendMessage_45 : decode cX0_sendMessage 45 = .ok (.ireturn, 1) := by decide +kernel
theorem dX0_sendUrgentByte_0 : decode cX0_sendUrgentByte 0 = .ok (.aload_n 0, 1) := by decide +kernel
theorem dX0_sendUrgentByte_1 : decode cX0_sendUrgentByte 1 = .ok (.getfield 57, 3) := by decide +kernel
theorem dX0_sendUrgentByte_4 : decode cX0_sendUrgentByte 4 = .ok (.iconst 2, 1) := by decide +kernel
theorem dX0_sendUrgentByte_5 : decode cX0_sendUrgentByte 5 = .ok (.if_icmp .eq 6, 3) := by decide +kernel
theorem dX0_sendUrgentByte_8 : decode cX0_sendUrgentByte 8 = .ok (.bipush (-2), 2) := by decide +kernel
theorem dX0_sendUrgentByte_10 : decode cX0_sendUrgentByte 10 = .ok (.ireturn, 1) := by decide +kernel
theorem dX0_sendUrgentByte_11 : decode cX0_sendUrgentByte 11 = .ok (.aload_n 0, 1) := by decide +kernel
theorem dX0_sendUrgentByte_12 : decode cX0_sendUrgentByte 12 = .ok (.getfield 28, 3) := by decide +kernel
theorem dX0_sendUrgentByte_15 : decode cX0_sendUrgentByte 15 = .ok (.iload_n 1, 1) := by decide +kernel
theorem dX0_sendUrgentByte_16 : decode cX0_sendUrgentByte 16 = .ok (.invokevirtual 110, 3) := by decide +kernel
theorem dX0_sendUrgentByte_19 : decode cX0_sendUrgentByte 19 = .ok (.istore_n 2, 1) := by decide +kernel
theorem dX0_sendUrgentByte_20 : decode cX0_sendUrgentByte 20 = .ok (.aload_n 0, 1) := by decide +kernel
theorem dX0_sendUrgentByte_21 : decode cX0_sendUrgentByte 21 = .ok (.invokevirtual 114, 3) := by decide +kernel
theorem dX0_sendUrgentByte_24 : decode cX0_sendUrgentByte 24 = .ok (.iload_n 2, 1) := by decide +kernel
theorem dX0_sendUrgentByte_25 : decode cX0_sendUrgentByte 25 = .ok (.ireturn, 1) := by decide +kernel
theorem dX0_endConnection_0 : decode cX0_endConnection 0 = .ok (.aload_n 0, 1) := by decide +kernel
theorem dX0_endConnection_1 : decode cX0_endConnection 1 = .ok (.getfield 57, 3) := by decide +kernel
theorem dX0_endConnection_4 : decode cX0_endConnection 4 = .ok (.iconst 2, 1) := by decide +kernel
theorem dX0_endConnection_5 : decode cX0_endConnection 5 = .ok (.if_icmp .eq 14, 3) := by decide +kernel
theorem dX0_endConnection_8 : decode cX0_endConnection 8 = .ok (.aload_n 0, 1) := by decide +kernel
theorem dX0_endConnection_9 : decode cX0_endConnection 9 = .ok (.getfield 57, 3) := by decide +kernel
theorem dX0_endConnection_12 : decode cX0_endConnection 12 = .ok (.iconst 1, 1) := by decide +kernel
theorem dX0_endConnection_13 : decode cX0_endConnection 13 = .ok (.if_icmp .eq 6, 3) := by decide +kernel
theorem dX0_endConnection_16 : decode cX0_endConnection 16 = .ok (.bipush (-2), 2) := by decide +kernel
theorem dX0_endConnection_18 : decode cX0_endConnection 18 = .ok (.ireturn, 1) := by decide +kernel
theorem dX0_endConnection_19 : decode cX0_endConnection 19 = .ok (.aload_n 0, 1) := by decide +kernel
theorem dX0_endConnection_20 : decode cX0_endConnection 20 = .ok (.getfield 12, 3) := by decide +kernel
theorem dX0_endConnection_23 : decode cX0_endConnection 23 = .ok (.invokevirtual 117, 3) := by decide +kernel
theorem dX0_endConnection_26 : decode cX0_endConnection 26 = .ok (.aload_n 0, 1) := by decide +kernel
theorem dX0_endConnection_27 : decode cX0_endConnection 27 = .ok (.getfield 28, 3) := by decide +kernel
theorem dX0_endConnection_30 : decode cX0_endConnection 30 = .ok (.invokevirtual 120, 3) := by decide +kernel
theorem dX0_endConnection_33 : decode cX0_endConnection 33 = .ok (.aload_n 0, 1) := by decide +kernel
theorem dX0_endConnection_34 : decode cX0_endConnection 34 = .ok (.iconst 3, 1) := by decide +kernel
theorem dX0_endConnection_35 : decode cX0_endConnection 35 = .ok (.putfield 57, 3) := by decide +kernel
theorem dX0_endConnection_38 : decode cX0_endConnection 38 = .ok (.aload_n 0, 1) := by decide +kernel
theorem dX0_endConnection_39 : decode cX0_endConnection 39 = .ok (.iconst 0, 1) := by decide +kernel
theorem dX0_endConnection_40 : decode cX0_endConnection 40 = .ok (.invokevirtual 121, 3) := by decide +kernel
theorem dX0_endConnection_43 : decode cX0_endConnection 43 = .ok (.aload_n 0, 1) := by decide +kernel
theorem dX0_endConnection_44 : decode cX0_endConnection 44 = .ok (.sipush 128, 3) := by decide +kernel
theorem dX0_endConnection_47 : decode cX0_endConnection 47 = .ok (.invokevirtual 64, 3) := by decide +kernel
theorem dX0_endConnection_50 : decode cX0_endConnection 50 = .ok (.aload_n 0, 1) := by decide +kernel
theorem dX0_endConnection_51 : decode cX0_endConnection 51 = .ok (.invokevirtual 68, 3) := by decide +kernel
theorem dX0_endConnection_54 : decode cX0_endConnection 54 = .ok (.iconst 1, 1) := by decide +kernel
theorem dX0_endConnection_55 : decode cX0_endConnection 55 = .ok (.ireturn, 1) := by decide +kernel
theorem dX0_takeMessage_0 : decode cX0_takeMessage 0 = .ok (.aload_n 0, 1) := by decide +kernel
theorem dX0_takeMessage_1 : decode cX0_takeMessage 1 = .ok (.getfield 21, 3) := by decide +kernel
theorem dX0_takeMessage_4 : decode cX0_takeMessage 4 = .ok (.invokevirtual 124, 3) := by decide +kernel
theorem dX0_takeMessage_7 : decode cX0_takeMessage 7 = .ok (.ifCond .ne 7, 3) := by decide +kernel
theorem dX0_takeMessage_10 : decode cX0_takeMessage 10 = .ok (.iconst 1, 1) := by decide +kernel
theorem dX0_takeMessage_11 : decode cX0_takeMessage 11 = .ok (.goto 4, 3) := by decide +kernel
theorem dX0_takeMessage_14 : decode cX0_takeMessage 14 = .ok (.iconst 0, 1) := by decide +kernel
theorem dX0_takeMessage_15 : decode cX0_takeMessage 15 = .ok (.istore_n 1, 1) := by decide +kernel
theorem dX0_takeMessage_16 : decode cX0_takeMessage 16 = .ok (.aload_n 0, 1) := by decide +kernel
theorem dX0_takeMessage_17 : decode cX0_takeMessage 17 = .ok (.getfield 21, 3) := by decide +kernel
theorem dX0_takeMessage_20 : decode cX0_takeMessage 20 = .ok (.invokevirtual 128, 3) := by decide +kernel
theorem dX0_takeMessage_23 : decode cX0_takeMessage 23 = .ok (.istore_n 2, 1) := by decide +kernel
theorem dX0_takeMessage_24 : decode cX0_takeMessage 24 = .ok (.iload_n 2, 1) := by decide +kernel
theorem dX0_takeMessage_25 : decode cX0_takeMessage 25 = .ok (.ifCond .lt 19, 3) := by decide +kernel
theorem dX0_takeMessage_28 : decode cX0_takeMessage 28 = .ok (.iload_n 1, 1) := by decide +kernel
theorem dX0_takeMessage_29 : decode cX0_takeMessage 29 = .ok (.ifCond .eq 15, 3) := by decide +kernel
theorem dX0_takeMessage_32 : decode cX0_takeMessage 32 = .ok (.aload_n 0, 1) := by decide +kernel
theorem dX0_takeMessage_33 : decode cX0_takeMessage 33 = .ok (.getfield 57, 3) := by decide +kernel
theorem dX0_takeMessage_36 : decode cX0_takeMessage 36 = .ok (.iconst 2, 1) := by decide +kernel
theorem dX0_takeMessage_37 : decode cX0_takeMessage 37 = .ok (.if_icmp .ne 7, 3) := by decide +kernel
theorem dX0_takeMessage_40 : decode cX0_takeMessage 40 = .ok (.aload_n 0, 1) := by decide +kernel
theorem dX0_takeMessage_41 : decode cX0_takeMessage 41 = .ok (.invokevirtual 131, 3) := by decide +kernel
theorem dX0_takeMessage_44 : decode cX0_takeMessage 44 = .ok (.iload_n 2, 1) := by decide +kernel
theorem dX0_takeMessage_45 : decode cX0_takeMessage 45 = .ok (.ireturn, 1) := by decide +kernel
theorem dX0_tell_0 : decode cX0_tell 0 = .ok (.iload_n 1, 1) := by decide +kernel
theorem dX0_tell_1 : decode cX0_tell 1 = .ok (.tableswitch 137 0 9 #[55, 60, 65, 70, 85, 93, 101, 116, 124, 132], 55) := by decide +kernel
theorem dX0_tell_56 : decode cX0_tell 56 = .ok (.aload_n 0, 1) := by decide +kernel
theorem dX0_tell_57 : decode cX0_tell 57 = .ok (.getfield 57, 3) := by decide +kernel
theorem dX0_tell_60 : decode cX0_tell 60 = .ok (.ireturn, 1) := by decide +kernel
theorem dX0_tell_61 : decode cX0_tell 61 = .ok (.aload_n 0, 1) := by decide +kernel
theorem dX0_tell_62 : decode cX0_tell 62 = .ok (.getfield 71, 3) := by decide +kernel
theorem dX0_tell_65 : decode cX0_tell 65 = .ok (.ireturn, 1) := by decide +kernel
theorem dX0_tell_66 : decode cX0_tell 66 = .ok (.aload_n 0, 1) := by decide +kernel
theorem dX0_tell_67 : decode cX0_tell 67 = .ok (.getfield 81, 3) := by decide +kernel
theorem dX0_tell_70 : decode cX0_tell 70 = .ok (.ireturn, 1) := by decide +kernel
theorem dX0_tell_71 : decode cX0_tell 71 = .ok (.aload_n 0, 1) := by decide +kernel
theorem dX0_tell_72 : decode cX0_tell 72 = .ok (.getfield 12, 3) := by decide +kernel
theorem dX0_tell_75 : decode cX0_tell 75 = .ok (.aload_n 0, 1) := by decide +kernel
theorem dX0_tell_76 : decode cX0_tell 76 = .ok (.getfield 12, 3) := by decide +kernel
theorem dX0_tell_79 : decode cX0_tell 79 = .ok (.getfield 134, 3) := by decide +kernel
theorem dX0_tell_82 : decode cX0_tell 82 = .ok (.invokevirtual 137, 3) := by decide +kernel
theorem dX0_tell_85 : decode cX0_tell 85 = .ok (.ireturn, 1) := by decide +kernel
theorem dX0_tell_86 : decode cX0_tell 86 = .ok (.aload_n 0, 1) := by decide +kernel
theorem dX0_tell_87 : decode cX0_tell 87 = .ok (.getfield 21, 3) := by decide +kernel
theorem dX0_tell_90 : decode cX0_tell 90 = .ok (.getfield 140, 3) := by decide +kernel
theorem dX0_tell_93 : decode cX0_tell 93 = .ok (.ireturn, 1) := by decide +kernel
theorem dX0_tell_94 : decode cX0_tell 94 = .ok (.aload_n 0, 1) := by decide +kernel
theorem dX0_tell_95 : decode cX0_tell 95 = .ok (.getfield 21, 3) := by decide +kernel
theorem dX0_tell_98 : decode cX0_tell 98 = .ok (.invokevirtual 124, 3) := by decide +kernel
theorem dX0_tell_101 : decode cX0_tell 101 = .ok (.ireturn, 1) := by decide +kernel
theorem dX0_tell_102 : decode cX0_tell 102 = .ok (.aload_n 0, 1) := by decide +kernel
theorem dX0_tell_103 : decode cX0_tell 103 = .ok (.getfield 12, 3) := by decide +kernel
theorem dX0_tell_106 : decode cX0_tell 106 = .ok (.aload_n 0, 1) := by decide +kernel
theorem dX0_tell_107 : decode cX0_tell 107 = .ok (.getfield 12, 3) := by decide +kernel
theorem dX0_tell_110 : decode cX0_tell 110 = .ok (.getfield 143, 3) := by decide +kernel
theorem dX0_tell_113 : decode cX0_tell 113 = .ok (.invokevirtual 137, 3) := by decide +kernel
theorem dX0_tell_116 : decode cX0_tell 116 = .ok (.ireturn, 1) := by decide +kernel
theorem dX0_tell_117 : decode cX0_tell 117 = .ok (.aload_n 0, 1) := by decide +kernel
theorem dX0_tell_118 : decode cX0_tell 118 = .ok (.getfield 21, 3) := by decide +kernel
theorem dX0_tell_121 : decode cX0_tell 121 = .ok (.getfield 146, 3) := by decide +kernel
theorem dX0_tell_124 : decode cX0_tell 124 = .ok (.ireturn, 1) := by decide +kernel
theorem dX0_tell_125 : decode cX0_tell 125 = .ok (.aload_n 0, 1) := by decide +kernel
theorem dX0_tell_126 : decode cX0_tell 126 = .ok (.getfield 35, 3) := by decide +kernel
theorem dX0_tell_129 : decode cX0_tell 129 = .ok (.getfield 149, 3) := by decide +kernel
theorem dX0_tell_132 : decode cX0_tell 132 = .ok (.ireturn, 1) := by decide +kernel
theorem dX0_tell_133 : decode cX0_tell 133 = .ok (.aload_n 0, 1) := by decide +kernel
theorem dX0_tell_134 : decode cX0_tell 134 = .ok (.getfield 46, 3) := by decide +kernel
theorem dX0_tell_137 : decode cX0_tell 137 = .ok (.ireturn, 1) := by decide +kernel
theorem dX0_tell_138 : decode cX0_tell 138 = .ok (.iconst (-1), 1) := by decide +kernel
theorem dX0_tell_139 : decode cX0_tell 139 = .ok (.ireturn, 1) := by decide +kernel
theorem dX0_hasConnection_0 : decode cX0_hasConnection 0 = .ok (.aload_n 0, 1) := by decide +kernel
theorem dX0_hasConnection_1 : decode cX0_hasConnection 1 = .ok (.getfield 57, 3) := by decide +kernel
theorem dX0_hasConnection_4 : decode cX0_hasConnection 4 = .ok (.iconst 1, 1) := by decide +kernel
theorem dX0_hasConnection_5 : decode cX0_hasConnection 5 = .ok (.if_icmp .eq 19, 3) := by decide +kernel
theorem dX0_hasConnection_8 : decode cX0_hasConnection 8 = .ok (.aload_n 0, 1) := by decide +kernel
theorem dX0_hasConnection_9 : decode cX0_hasConnection 9 = .ok (.getfield 57, 3) := by decide +kernel
theorem dX0_hasConnection_12 : decode cX0_hasConnection 12 = .ok (.iconst 2, 1) := by decide +kernel
theorem dX0_hasConnection_13 : decode cX0_hasConnection 13 = .ok (.if_icmp .eq 11, 3) := by decide +kernel
theorem dX0_hasConnection_16 : decode cX0_hasConnection 16 = .ok (.aload_n 0, 1) := by decide +kernel
theorem dX0_hasConnection_17 : decode cX0_hasConnection 17 = .ok (.getfield 57, 3) := by decide +kernel
theorem dX0_hasConnection_20 : decode cX0_hasConnection 20 = .ok (.iconst 3, 1) := by decide +kernel
theorem dX0_hasConnection_21 : decode cX0_hasConnection 21 = .ok (.if_icmp .ne 7, 3) := by decide +kernel
theorem dX0_hasConnection_24 : decode cX0_hasConnection 24 = .ok (.iconst 1, 1) := by decide +kernel
theorem dX0_hasConnection_25 : decode cX0_hasConnection 25 = .ok (.goto 4, 3) := by decide +kernel
theorem dX0_hasConnection_28 : decode cX0_hasConnection 28 = .ok (.iconst 0, 1) := by decide +kernel
theorem dX0_hasConnection_29 : decode cX0_hasConnection 29 = .ok (.ireturn, 1) := by decide +kernel
theorem dX0_noteReason_0 : decode cX0_noteReason 0 = .ok (.aload_n 0, 1) := by decide +kernel
theorem dX0_noteReason_1 : decode cX0_noteReason 1 = .ok (.getfield 46, 3) := by decide +kernel
theorem dX0_noteReason_4 : decode cX0_noteReason 4 = .ok (.iconst (-1), 1) := by decide +kernel
theorem dX0_noteReason_5 : decode cX0_noteReason 5 = .ok (.if_icmp .ne 8, 3) := by decide +kernel
theorem dX0_noteReason_8 : decode cX0_noteReason 8 = .ok (.aload_n 0, 1) := by decide +kernel
theorem dX0_noteReason_9 : decode cX0_noteReason 9 = .ok (.iload_n 1, 1) := by decide +kernel
theorem dX0_noteReason_10 : decode cX0_noteReason 10 = .ok (.putfield 46, 3) := by decide +kernel
theorem dX0_noteReason_13 : decode cX0_noteReason 13 = .ok (.return_, 1) := by decide +kernel
theorem dX0_freeze_0 : decode cX0_freeze 0 = .ok (.aload_n 0, 1) := by decide +kernel
theorem dX0_freeze_1 : decode cX0_freeze 1 = .ok (.iconst 4, 1) := by decide +kernel
theorem dX0_freeze_2 : decode cX0_freeze 2 = .ok (.putfield 57, 3) := by decide +kernel
theorem dX0_freeze_5 : decode cX0_freeze 5 = .ok (.aload_n 0, 1) := by decide +kernel
theorem dX0_freeze_6 : decode cX0_freeze 6 = .ok (.aload_n 0, 1) := by decide +kernel
theorem dX0_freeze_7 : decode cX0_freeze 7 = .ok (.getfield 53, 3) := by decide +kernel
theorem dX0_freeze_10 : decode cX0_freeze 10 = .ok (.getfield 88, 3) := by decide +kernel
theorem dX0_freeze_13 : decode cX0_freeze 13 = .ok (.putfield 152, 3) := by decide +kernel
theorem dX0_freeze_16 : decode cX0_freeze 16 = .ok (.return_, 1) := by decide +kernel
theorem dX0_hear_0 : decode cX0_hear 0 = .ok (.aload_n 1, 1) := by decide +kernel
theorem dX0_hear_1 : decode cX0_hear 1 = .ok (.invokevirtual 155, 3) := by decide +kernel
theorem dX0_hear_4 : decode cX0_hear 4 = .ok (.istore_n 2, 1) := by decide +kernel
theorem dX0_hear_5 : decode cX0_hear 5 = .ok (.iload_n 2, 1) := by decide +kernel
theorem dX0_hear_6 : decode cX0_hear 6 = .ok (.sipush 224, 3) := by decide +kernel
theorem dX0_hear_9 : decode cX0_hear 9 = .ok (.if_icmp .ne 11, 3) := by decide +kernel
theorem dX0_hear_12 : decode cX0_hear 12 = .ok (.aload_n 0, 1) := by decide +kernel
theorem dX0_hear_13 : decode cX0_hear 13 = .ok (.aload_n 1, 1) := by decide +kernel
theorem dX0_hear_14 : decode cX0_hear 14 = .ok (.invokevirtual 160, 3) := by decide +kernel
theorem dX0_hear_17 : decode cX0_hear 17 = .ok (.goto 71, 3) := by decide +kernel
theorem dX0_hear_20 : decode cX0_hear 20 = .ok (.aload_n 0, 1) := by decide +kernel
theorem dX0_hear_21 : decode cX0_hear 21 = .ok (.invokevirtual 164, 3) := by decide +kernel
theorem dX0_hear_24 : decode cX0_hear 24 = .ok (.ifCond .eq 41, 3) := by decide +kernel
theorem dX0_hear_27 : decode cX0_hear 27 = .ok (.aload_n 1, 1) := by decide +kernel
theorem dX0_hear_28 : decode cX0_hear 28 = .ok (.invokevirtual 168, 3) := by decide +kernel
theorem dX0_hear_31 : decode cX0_hear 31 = .ok (.aload_n 0, 1) := by decide +kernel
theorem dX0_hear_32 : decode cX0_hear 32 = .ok (.getfield 71, 3) := by decide +kernel
theorem dX0_hear_35 : decode cX0_hear 35 = .ok (.if_icmp .ne 30, 3) := by decide +kernel
theorem dX0_hear_38 : decode cX0_hear 38 = .ok (.aload_n 0, 1) := by decide +kernel
theorem dX0_hear_39 : decode cX0_hear 39 = .ok (.aload_n 0, 1) := by decide +kernel
theorem dX0_hear_40 : decode cX0_hear 40 = .ok (.getfield 53, 3) := by decide +kernel
theorem dX0_hear_43 : decode cX0_hear 43 = .ok (.getfield 88, 3) := by decide +kernel
theorem dX0_hear_46 : decode cX0_hear 46 = .ok (.putfield 93, 3) := by decide +kernel
theorem dX0_hear_49 : decode cX0_hear 49 = .ok (.aload_n 0, 1) := by decide +kernel
theorem dX0_hear_50 : decode cX0_hear 50 = .ok (.sipush 214, 3) := by decide +kernel
theorem dX0_hear_53 : decode cX0_hear 53 = .ok (.invokevirtual 171, 3) := by decide +kernel
theorem dX0_hear_56 : decode cX0_hear 56 = .ok (.aload_n 0, 1) := by decide +kernel
theorem dX0_hear_57 : decode cX0_hear 57 = .ok (.aload_n 1, 1) := by decide +kernel
theorem dX0_hear_58 : decode cX0_hear 58 = .ok (.iload_n 2, 1) := by decide +kernel
theorem dX0_hear_59 : decode cX0_hear 59 = .ok (.invokevirtual 174, 3) := by decide +kernel
theorem dX0_hear_62 : decode cX0_hear 62 = .ok (.goto 26, 3) := by decide +kernel
theorem dX0_hear_65 : decode cX0_hear 65 = .ok (.iload_n 2, 1) := by decide +kernel
theorem dX0_hear_66 : decode cX0_hear 66 = .ok (.sipush 128, 3) := by decide +kernel
theorem dX0_hear_69 : decode cX0_hear 69 = .ok (.if_icmp .ne 19, 3) := by decide +kernel
theorem dX0_hear_72 : decode cX0_hear 72 = .ok (.aload_n 0, 1) := by decide +kernel
theorem dX0_hear_73 : decode cX0_hear 73 = .ok (.sipush 192, 3) := by decide +kernel
theorem dX0_hear_76 : decode cX0_hear 76 = .ok (.aload_n 1, 1) := by decide +kernel
theorem dX0_hear_77 : decode cX0_hear 77 = .ok (.invokevirtual 178, 3) := by decide +kernel
theorem dX0_hear_80 : decode cX0_hear 80 = .ok (.aload_n 1, 1) := by decide +kernel
theorem dX0_hear_81 : decode cX0_hear 81 = .ok (.invokevirtual 168, 3) := by decide +kernel
theorem dX0_hear_84 : decode cX0_hear 84 = .ok (.iconst 0, 1) := by decide +kernel
theorem dX0_hear_85 : decode cX0_hear 85 = .ok (.invokevirtual 181, 3) := by decide +kernel
theorem dX0_hear_88 : decode cX0_hear 88 = .ok (.return_, 1) := by decide +kernel
theorem dX0_hearCall_0 : decode cX0_hearCall 0 = .ok (.aload_n 0, 1) := by decide +kernel
theorem dX0_hearCall_1 : decode cX0_hearCall 1 = .ok (.getfield 57, 3) := by decide +kernel
theorem dX0_hearCall_4 : decode cX0_hearCall 4 = .ok (.ifCond .ne 35, 3) := by decide +kernel
theorem dX0_hearCall_7 : decode cX0_hearCall 7 = .ok (.aload_n 0, 1) := by decide +kernel
theorem dX0_hearCall_8 : decode cX0_hearCall 8 = .ok (.iconst 2, 1) := by decide +kernel
theorem dX0_hearCall_9 : decode cX0_hearCall 9 = .ok (.aload_n 1, 1) := by decide +kernel
theorem dX0_hearCall_10 : decode cX0_hearCall 10 = .ok (.invokevirtual 178, 3) := by decide +kernel
theorem dX0_hearCall_13 : decode cX0_hearCall 13 = .ok (.invokevirtual 60, 3) := by decide +kernel
theorem dX0_hearCall_16 : decode cX0_hearCall 16 = .ok (.aload_n 0, 1) := by decide +kernel
theorem dX0_hearCall_17 : decode cX0_hearCall 17 = .ok (.getfield 12, 3) := by decide +kernel
theorem dX0_hearCall_20 : decode cX0_hearCall 20 = .ok (.aload_n 1, 1) := by decide +kernel
theorem dX0_hearCall_21 : decode cX0_hearCall 21 = .ok (.invokevirtual 185, 3) := by decide +kernel
theorem dX0_hearCall_24 : decode cX0_hearCall 24 = .ok (.putfield 143, 3) := by decide +kernel
theorem dX0_hearCall_27 : decode cX0_hearCall 27 = .ok (.aload_n 0, 1) := by decide +kernel
theorem dX0_hearCall_28 : decode cX0_hearCall 28 = .ok (.sipush 214, 3) := by decide +kernel
theorem dX0_hearCall_31 : decode cX0_hearCall 31 = .ok (.invokevirtual 64, 3) := by decide +kernel
theorem dX0_hearCall_34 : decode cX0_hearCall 34 = .ok (.aload_n 0, 1) := by decide +kernel
theorem dX0_hearCall_35 : decode cX0_hearCall 35 = .ok (.invokevirtual 68, 3) := by decide +kernel
theorem dX0_hearCall_38 : decode cX0_hearCall 38 = .ok (.return_, 1) := by decide +kernel
theorem dX0_hearCall_39 : decode cX0_hearCall 39 = .ok (.aload_n 0, 1) := by decide +kernel
theorem dX0_hearCall_40 : decode cX0_hearCall 40 = .ok (.getfield 57, 3) := by decide +kernel
theorem dX0_hearCall_43 : decode cX0_hearCall 43 = .ok (.iconst 2, 1) := by decide +kernel
theorem dX0_hearCall_44 : decode cX0_hearCall 44 = .ok (.if_icmp .ne 25, 3) := by decide +kernel
theorem dX0_hearCall_47 : decode cX0_hearCall 47 = .ok (.aload_n 0, 1) := by decide +kernel
theorem dX0_hearCall_48 : decode cX0_hearCall 48 = .ok (.getfield 84, 3) := by decide +kernel
theorem dX0_hearCall_51 : decode cX0_hearCall 51 = .ok (.ifCond .eq 18, 3) := by decide +kernel
theorem dX0_hearCall_54 : decode cX0_hearCall 54 = .ok (.aload_n 0, 1) := by decide +kernel
theorem dX0_hearCall_55 : decode cX0_hearCall 55 = .ok (.getfield 81, 3) := by decide +kernel
theorem dX0_hearCall_58 : decode cX0_hearCall 58 = .ok (.aload_n 1, 1) := by decide +kernel
theorem dX0_hearCall_59 : decode cX0_hearCall 59 = .ok (.invokevirtual 178, 3) := by decide +kernel
theorem dX0_hearCall_62 : decode cX0_hearCall 62 = .ok (.if_icmp .ne 7, 3) := by decide +kernel
theorem dX0_hearCall_65 : decode cX0_hearCall 65 = .ok (.iconst 1, 1) := by decide +kernel
theorem dX0_hearCall_66 : decode cX0_hearCall 66 = .ok (.goto 4, 3) := by decide +kernel
theorem dX0_hearCall_69 : decode cX0_hearCall 69 = .ok (.iconst 0, 1) := by decide +kernel
theorem dX0_hearCall_70 : decode cX0_hearCall 70 = .ok (.istore_n 2, 1) := by decide +kernel
theorem dX0_hearCall_71 : decode cX0_hearCall 71 = .ok (.iload_n 2, 1) := by decide +kernel
theorem dX0_hearCall_72 : decode cX0_hearCall 72 = .ok (.ifCond .ne 16, 3) := by decide +kernel
theorem dX0_hearCall_75 : decode cX0_hearCall 75 = .ok (.aload_n 0, 1) := by decide +kernel
theorem dX0_hearCall_76 : decode cX0_hearCall 76 = .ok (.sipush 128, 3) := by decide +kernel
