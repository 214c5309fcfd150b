theorem dX0_mustGiveUp_68 : decode cX0_mustGiveUp 68 = .ok (.bipush 50, 2) := by decide +kernel
theorem dX0_mustGiveUp_70 : decode cX0_mustGiveUp 70 = .ok (.if_icmp .lt 7, 3) := by decide +kernel
theorem dX0_mustGiveUp_73 : decode cX0_mustGiveUp 73 = .ok (.iconst 1, 1) := by decide +kernel
theorem dX0_mustGiveUp_74 : decode cX0_mustGiveUp 74 = .ok (.goto 4, 3) := by decide +kernel
theorem dX0_mustGiveUp_77 : decode cX0_mustGiveUp 77 = .ok (.iconst 0, 1) := by decide +kernel
theorem dX0_mustGiveUp_78 : decode cX0_mustGiveUp 78 = .ok (.ireturn, 1) := by decide +kernel
theorem dX0_giveUp_0 : decode cX0_giveUp 0 = .ok (.aload_n 0, 1) := by decide +kernel
theorem dX0_giveUp_1 : decode cX0_giveUp 1 = .ok (.iconst 1, 1) := by decide +kernel
theorem dX0_giveUp_2 : decode cX0_giveUp 2 = .ok (.invokevirtual 121, 3) := by decide +kernel
theorem dX0_giveUp_5 : decode cX0_giveUp 5 = .ok (.aload_n 0, 1) := by decide +kernel
theorem dX0_giveUp_6 : decode cX0_giveUp 6 = .ok (.sipush 128, 3) := by decide +kernel
theorem dX0_giveUp_9 : decode cX0_giveUp 9 = .ok (.aload_n 0, 1) := by decide +kernel
theorem dX0_giveUp_10 : decode cX0_giveUp 10 = .ok (.getfield 81, 3) := by decide +kernel
theorem dX0_giveUp_13 : decode cX0_giveUp 13 = .ok (.aload_n 0, 1) := by decide +kernel
theorem dX0_giveUp_14 : decode cX0_giveUp 14 = .ok (.getfield 71, 3) := by decide +kernel
theorem dX0_giveUp_17 : decode cX0_giveUp 17 = .ok (.iconst 1, 1) := by decide +kernel
theorem dX0_giveUp_18 : decode cX0_giveUp 18 = .ok (.invokevirtual 181, 3) := by decide +kernel
theorem dX0_giveUp_21 : decode cX0_giveUp 21 = .ok (.aload_n 0, 1) := by decide +kernel
theorem dX0_giveUp_22 : decode cX0_giveUp 22 = .ok (.invokevirtual 217, 3) := by decide +kernel
theorem dX0_giveUp_25 : decode cX0_giveUp 25 = .ok (.return_, 1) := by decide +kernel
theorem dX0_awaitLink_0 : decode cX0_awaitLink 0 = .ok (.aload_n 0, 1) := by decide +kernel
theorem dX0_awaitLink_1 : decode cX0_awaitLink 1 = .ok (.iload_n 1, 1) := by decide +kernel
theorem dX0_awaitLink_2 : decode cX0_awaitLink 2 = .ok (.putfield 257, 3) := by decide +kernel
theorem dX0_awaitLink_5 : decode cX0_awaitLink 5 = .ok (.aload_n 0, 1) := by decide +kernel
theorem dX0_awaitLink_6 : decode cX0_awaitLink 6 = .ok (.getfield 42, 3) := by decide +kernel
theorem dX0_awaitLink_9 : decode cX0_awaitLink 9 = .ok (.invokevirtual 260, 3) := by decide +kernel
theorem dX0_awaitLink_12 : decode cX0_awaitLink 12 = .ok (.return_, 1) := by decide +kernel
theorem dX0_endWaitOf_0 : decode cX0_endWaitOf 0 = .ok (.aload_n 0, 1) := by decide +kernel
theorem dX0_endWaitOf_1 : decode cX0_endWaitOf 1 = .ok (.getfield 257, 3) := by decide +kernel
theorem dX0_endWaitOf_4 : decode cX0_endWaitOf 4 = .ok (.iload_n 1, 1) := by decide +kernel
theorem dX0_endWaitOf_5 : decode cX0_endWaitOf 5 = .ok (.if_icmp .ne 8, 3) := by decide +kernel
theorem dX0_endWaitOf_8 : decode cX0_endWaitOf 8 = .ok (.aload_n 0, 1) := by decide +kernel
theorem dX0_endWaitOf_9 : decode cX0_endWaitOf 9 = .ok (.iconst 0, 1) := by decide +kernel
theorem dX0_endWaitOf_10 : decode cX0_endWaitOf 10 = .ok (.invokevirtual 64, 3) := by decide +kernel
theorem dX0_endWaitOf_13 : decode cX0_endWaitOf 13 = .ok (.return_, 1) := by decide +kernel
theorem dX0_sendAwaitedLink_0 : decode cX0_sendAwaitedLink 0 = .ok (.aload_n 0, 1) := by decide +kernel
theorem dX0_sendAwaitedLink_1 : decode cX0_sendAwaitedLink 1 = .ok (.getfield 42, 3) := by decide +kernel
theorem dX0_sendAwaitedLink_4 : decode cX0_sendAwaitedLink 4 = .ok (.aload_n 0, 1) := by decide +kernel
theorem dX0_sendAwaitedLink_5 : decode cX0_sendAwaitedLink 5 = .ok (.getfield 53, 3) := by decide +kernel
theorem dX0_sendAwaitedLink_8 : decode cX0_sendAwaitedLink 8 = .ok (.getfield 88, 3) := by decide +kernel
theorem dX0_sendAwaitedLink_11 : decode cX0_sendAwaitedLink 11 = .ok (.invokevirtual 261, 3) := by decide +kernel
theorem dX0_sendAwaitedLink_14 : decode cX0_sendAwaitedLink 14 = .ok (.aload_n 0, 1) := by decide +kernel
theorem dX0_sendAwaitedLink_15 : decode cX0_sendAwaitedLink 15 = .ok (.aload_n 0, 1) := by decide +kernel
theorem dX0_sendAwaitedLink_16 : decode cX0_sendAwaitedLink 16 = .ok (.getfield 257, 3) := by decide +kernel
theorem dX0_sendAwaitedLink_19 : decode cX0_sendAwaitedLink 19 = .ok (.aload_n 0, 1) := by decide +kernel
theorem dX0_sendAwaitedLink_20 : decode cX0_sendAwaitedLink 20 = .ok (.getfield 81, 3) := by decide +kernel
theorem dX0_sendAwaitedLink_23 : decode cX0_sendAwaitedLink 23 = .ok (.aload_n 0, 1) := by decide +kernel
theorem dX0_sendAwaitedLink_24 : decode cX0_sendAwaitedLink 24 = .ok (.getfield 71, 3) := by decide +kernel
theorem dX0_sendAwaitedLink_27 : decode cX0_sendAwaitedLink 27 = .ok (.aload_n 0, 1) := by decide +kernel
theorem dX0_sendAwaitedLink_28 : decode cX0_sendAwaitedLink 28 = .ok (.getfield 257, 3) := by decide +kernel
theorem dX0_sendAwaitedLink_31 : decode cX0_sendAwaitedLink 31 = .ok (.sipush 128, 3) := by decide +kernel
theorem dX0_sendAwaitedLink_34 : decode cX0_sendAwaitedLink 34 = .ok (.if_icmp .ne 7, 3) := by decide +kernel
theorem dX0_sendAwaitedLink_37 : decode cX0_sendAwaitedLink 37 = .ok (.iconst 0, 1) := by decide +kernel
theorem dX0_sendAwaitedLink_38 : decode cX0_sendAwaitedLink 38 = .ok (.goto 5, 3) := by decide +kernel
theorem dX0_sendAwaitedLink_41 : decode cX0_sendAwaitedLink 41 = .ok (.bipush 64, 2) := by decide +kernel
theorem dX0_sendAwaitedLink_43 : decode cX0_sendAwaitedLink 43 = .ok (.invokevirtual 181, 3) := by decide +kernel
theorem dX0_sendAwaitedLink_46 : decode cX0_sendAwaitedLink 46 = .ok (.return_, 1) := by decide +kernel
theorem dX0_sendLink_0 : decode cX0_sendLink 0 = .ok (.aload_n 0, 1) := by decide +kernel
theorem dX0_sendLink_1 : decode cX0_sendLink 1 = .ok (.getfield 53, 3) := by decide +kernel
theorem dX0_sendLink_4 : decode cX0_sendLink 4 = .ok (.invokevirtual 264, 3) := by decide +kernel
theorem dX0_sendLink_7 : decode cX0_sendLink 7 = .ok (.iload_n 1, 1) := by decide +kernel
theorem dX0_sendLink_8 : decode cX0_sendLink 8 = .ok (.iload_n 2, 1) := by decide +kernel
theorem dX0_sendLink_9 : decode cX0_sendLink 9 = .ok (.iload_n 3, 1) := by decide +kernel
theorem dX0_sendLink_10 : decode cX0_sendLink 10 = .ok (.iload 4, 2) := by decide +kernel
theorem dX0_sendLink_12 : decode cX0_sendLink 12 = .ok (.invokevirtual 268, 3) := by decide +kernel
theorem dX0_sendLink_15 : decode cX0_sendLink 15 = .ok (.aload_n 0, 1) := by decide +kernel
theorem dX0_sendLink_16 : decode cX0_sendLink 16 = .ok (.getfield 53, 3) := by decide +kernel
theorem dX0_sendLink_19 : decode cX0_sendLink 19 = .ok (.aload_n 0, 1) := by decide +kernel
theorem dX0_sendLink_20 : decode cX0_sendLink 20 = .ok (.getfield 50, 3) := by decide +kernel
theorem dX0_sendLink_23 : decode cX0_sendLink 23 = .ok (.invokevirtual 271, 3) := by decide +kernel
theorem dX0_sendLink_26 : decode cX0_sendLink 26 = .ok (.return_, 1) := by decide +kernel
theorem dX0_sendReceipt_0 : decode cX0_sendReceipt 0 = .ok (.aload_n 0, 1) := by decide +kernel
theorem dX0_sendReceipt_1 : decode cX0_sendReceipt 1 = .ok (.bipush 96, 2) := by decide +kernel
theorem dX0_sendReceipt_3 : decode cX0_sendReceipt 3 = .ok (.aload_n 0, 1) := by decide +kernel
theorem dX0_sendReceipt_4 : decode cX0_sendReceipt 4 = .ok (.getfield 21, 3) := by decide +kernel
theorem dX0_sendReceipt_7 : decode cX0_sendReceipt 7 = .ok (.invokevirtual 124, 3) := by decide +kernel
theorem dX0_sendReceipt_10 : decode cX0_sendReceipt 10 = .ok (.ior, 1) := by decide +kernel
theorem dX0_sendReceipt_11 : decode cX0_sendReceipt 11 = .ok (.aload_n 0, 1) := by decide +kernel
theorem dX0_sendReceipt_12 : decode cX0_sendReceipt 12 = .ok (.getfield 21, 3) := by decide +kernel
theorem dX0_sendReceipt_15 : decode cX0_sendReceipt 15 = .ok (.getfield 140, 3) := by decide +kernel
theorem dX0_sendReceipt_18 : decode cX0_sendReceipt 18 = .ok (.invokevirtual 206, 3) := by decide +kernel
theorem dX0_sendReceipt_21 : decode cX0_sendReceipt 21 = .ok (.return_, 1) := by decide +kernel
theorem dX0_sendNumbered_0 : decode cX0_sendNumbered 0 = .ok (.aload_n 0, 1) := by decide +kernel
theorem dX0_sendNumbered_1 : decode cX0_sendNumbered 1 = .ok (.getfield 53, 3) := by decide +kernel
theorem dX0_sendNumbered_4 : decode cX0_sendNumbered 4 = .ok (.invokevirtual 264, 3) := by decide +kernel
theorem dX0_sendNumbered_7 : decode cX0_sendNumbered 7 = .ok (.iload_n 1, 1) := by decide +kernel
theorem dX0_sendNumbered_8 : decode cX0_sendNumbered 8 = .ok (.aload_n 0, 1) := by decide +kernel
theorem dX0_sendNumbered_9 : decode cX0_sendNumbered 9 = .ok (.getfield 81, 3) := by decide +kernel
theorem dX0_sendNumbered_12 : decode cX0_sendNumbered 12 = .ok (.iload_n 2, 1) := by decide +kernel
theorem dX0_sendNumbered_13 : decode cX0_sendNumbered 13 = .ok (.invokevirtual 274, 3) := by decide +kernel
theorem dX0_sendNumbered_16 : decode cX0_sendNumbered 16 = .ok (.aload_n 0, 1) := by decide +kernel
theorem dX0_sendNumbered_17 : decode cX0_sendNumbered 17 = .ok (.getfield 53, 3) := by decide +kernel
theorem dX0_sendNumbered_20 : decode cX0_sendNumbered 20 = .ok (.aload_n 0, 1) := by decide +kernel
theorem dX0_sendNumbered_21 : decode cX0_sendNumbered 21 = .ok (.getfield 50, 3) := by decide +kernel
theorem dX0_sendNumbered_24 : decode cX0_sendNumbered 24 = .ok (.invokevirtual 271, 3) := by decide +kernel
theorem dX0_sendNumbered_27 : decode cX0_sendNumbered 27 = .ok (.return_, 1) := by decide +kernel
theorem dX0_sendNewData_0 : decode cX0_sendNewData 0 = .ok (.iconst 0, 1) := by decide +kernel
theorem dX0_sendNewData_1 : decode cX0_sendNewData 1 = .ok (.istore_n 1, 1) := by decide +kernel
theorem dX0_sendNewData_2 : decode cX0_sendNewData 2 = .ok (.iload_n 1, 1) := by decide +kernel
theorem dX0_sendNewData_3 : decode cX0_sendNewData 3 = .ok (.bipush 40, 2) := by decide +kernel
theorem dX0_sendNewData_5 : decode cX0_sendNewData 5 = .ok (.if_icmp .ge 43, 3) := by decide +kernel
theorem dX0_sendNewData_8 : decode cX0_sendNewData 8 = .ok (.aload_n 0, 1) := by decide +kernel
theorem dX0_sendNewData_9 : decode cX0_sendNewData 9 = .ok (.getfield 12, 3) := by decide +kernel
theorem dX0_sendNewData_12 : decode cX0_sendNewData 12 = .ok (.invokevirtual 278, 3) := by decide +kernel
theorem dX0_sendNewData_15 : decode cX0_sendNewData 15 = .ok (.ifCond .eq 33, 3) := by decide +kernel
theorem dX0_sendNewData_18 : decode cX0_sendNewData 18 = .ok (.aload_n 0, 1) := by decide +kernel
theorem dX0_sendNewData_19 : decode cX0_sendNewData 19 = .ok (.aload_n 0, 1) := by decide +kernel
theorem dX0_sendNewData_20 : decode cX0_sendNewData 20 = .ok (.getfield 12, 3) := by decide +kernel
theorem dX0_sendNewData_23 : decode cX0_sendNewData 23 = .ok (.getfield 134, 3) := by decide +kernel
theorem dX0_sendNewData_26 : decode cX0_sendNewData 26 = .ok (.invokevirtual 246, 3) := by decide +kernel
theorem dX0_sendNewData_29 : decode cX0_sendNewData 29 = .ok (.aload_n 0, 1) := by decide +kernel
theorem dX0_sendNewData_30 : decode cX0_sendNewData 30 = .ok (.getfield 12, 3) := by decide +kernel
theorem dX0_sendNewData_33 : decode cX0_sendNewData 33 = .ok (.dup, 1) := by decide +kernel
theorem dX0_sendNewData_34 : decode cX0_sendNewData 34 = .ok (.getfield 134, 3) := by decide +kernel
theorem dX0_sendNewData_37 : decode cX0_sendNewData 37 = .ok (.iconst 1, 1) := by decide +kernel
theorem dX0_sendNewData_38 : decode cX0_sendNewData 38 = .ok (.iadd, 1) := by decide +kernel
theorem dX0_sendNewData_39 : decode cX0_sendNewData 39 = .ok (.putfield 134, 3) := by decide +kernel
theorem dX0_sendNewData_42 : decode cX0_sendNewData 42 = .ok (.iinc 1 1, 3) := by decide +kernel
theorem dX0_sendNewData_45 : decode cX0_sendNewData 45 = .ok (.goto (-43), 3) := by decide +kernel
theorem dX0_sendNewData_48 : decode cX0_sendNewData 48 = .ok (.return_, 1) := by decide +kernel
theorem dX0_sendPiece_0 : decode cX0_sendPiece 0 = .ok (.aload_n 0, 1) := by decide +kernel
theorem dX0_sendPiece_1 : decode cX0_sendPiece 1 = .ok (.getfield 12, 3) := by decide +kernel
theorem dX0_sendPiece_4 : decode cX0_sendPiece 4 = .ok (.iload_n 1, 1) := by decide +kernel
theorem dX0_sendPiece_5 : decode cX0_sendPiece 5 = .ok (.invokevirtual 237, 3) := by decide +kernel
theorem dX0_sendPiece_8 : decode cX0_sendPiece 8 = .ok (.astore_n 2, 1) := by decide +kernel
theorem dX0_sendPiece_9 : decode cX0_sendPiece 9 = .ok (.aload_n 0, 1) := by decide +kernel
theorem dX0_sendPiece_10 : decode cX0_sendPiece 10 = .ok (.getfield 12, 3) := by decide +kernel
theorem dX0_sendPiece_13 : decode cX0_sendPiece 13 = .ok (.iload_n 1, 1) := by decide +kernel
theorem dX0_sendPiece_14 : decode cX0_sendPiece 14 = .ok (.invokevirtual 137, 3) := by decide +kernel
theorem dX0_sendPiece_17 : decode cX0_sendPiece 17 = .ok (.istore_n 3, 1) := by decide +kernel
theorem dX0_sendPiece_18 : decode cX0_sendPiece 18 = .ok (.aload_n 0, 1) := by decide +kernel
theorem dX0_sendPiece_19 : decode cX0_sendPiece 19 = .ok (.getfield 53, 3) := by decide +kernel
theorem dX0_sendPiece_22 : decode cX0_sendPiece 22 = .ok (.invokevirtual 264, 3) := by decide +kernel
theorem dX0_sendPiece_25 : decode cX0_sendPiece 25 = .ok (.astore 4, 2) := by decide +kernel
theorem dX0_sendPiece_27 : decode cX0_sendPiece 27 = .ok (.aload 4, 2) := by decide +kernel
theorem dX0_sendPiece_29 : decode cX0_sendPiece 29 = .ok (.sipush 240, 3) := by decide +kernel
theorem dX0_sendPiece_32 : decode cX0_sendPiece 32 = .ok (.aload_n 0, 1) := by decide +kernel
theorem dX0_sendPiece_33 : decode cX0_sendPiece 33 = .ok (.getfield 81, 3) := by decide +kernel
theorem dX0_sendPiece_36 : decode cX0_sendPiece 36 = .ok (.aload_n 2, 1) := by decide +kernel
theorem dX0_sendPiece_37 : decode cX0_sendPiece 37 = .ok (.getfield 281, 3) := by decide +kernel
theorem dX0_sendPiece_40 : decode cX0_sendPiece 40 = .ok (.ifCond .eq 11, 3) := by decide +kernel
theorem dX0_sendPiece_43 : decode cX0_sendPiece 43 = .ok (.iload_n 3, 1) := by decide +kernel
theorem dX0_sendPiece_44 : decode cX0_sendPiece 44 = .ok (.sipush 128, 3) := by decide +kernel
theorem dX0_sendPiece_47 : decode cX0_sendPiece 47 = .ok (.ior, 1) := by decide +kernel
theorem dX0_sendPiece_48 : decode cX0_sendPiece 48 = .ok (.goto 4, 3) := by decide +kernel
theorem dX0_sendPiece_51 : decode cX0_sendPiece 51 = .ok (.iload_n 3, 1) := by decide +kernel
theorem dX0_sendPiece_52 : decode cX0_sendPiece 52 = .ok (.invokevirtual 274, 3) := by decide +kernel
theorem dX0_sendPiece_55 : decode cX0_sendPiece 55 = .ok (.iconst 0, 1) := by decide +kernel
theorem dX0_sendPiece_56 : decode cX0_sendPiece 56 = .ok (.istore 5, 2) := by decide +kernel
theorem dX0_sendPiece_58 : decode cX0_sendPiece 58 = .ok (.iload 5, 2) := by decide +kernel
theorem dX0_sendPiece_60 : decode cX0_sendPiece 60 = .ok (.aload_n 2, 1) := by decide +kernel
theorem dX0_sendPiece_61 : decode cX0_sendPiece 61 = .ok (.getfield 284, 3) := by decide +kernel
theorem dX0_sendPiece_64 : decode cX0_sendPiece 64 = .ok (.if_icmp .ge 21, 3) := by decide +kernel
theorem dX0_sendPiece_67 : decode cX0_sendPiece 67 = .ok (.aload 4, 2) := by decide +kernel
theorem dX0_sendPiece_69 : decode cX0_sendPiece 69 = .ok (.aload_n 2, 1) := by decide +kernel
theorem dX0_sendPiece_70 : decode cX0_sendPiece 70 = .ok (.getfield 287, 3) := by decide +kernel
theorem dX0_sendPiece_73 : decode cX0_sendPiece 73 = .ok (.iload 5, 2) := by decide +kernel
theorem dX0_sendPiece_75 : decode cX0_sendPiece 75 = .ok (.iaload, 1) := by decide +kernel
theorem dX0_sendPiece_76 : decode cX0_sendPiece 76 = .ok (.invokevirtual 288, 3) := by decide +kernel
theorem dX0_sendPiece_79 : decode cX0_sendPiece 79 = .ok (.iinc 5 1, 3) := by decide +kernel
theorem dX0_sendPiece_82 : decode cX0_sendPiece 82 = .ok (.goto (-24), 3) := by decide +kernel
theorem dX0_sendPiece_85 : decode cX0_sendPiece 85 = .ok (.aload_n 2, 1) := by decide +kernel
theorem dX0_sendPiece_86 : decode cX0_sendPiece 86 = .ok (.getfield 241, 3) := by decide +kernel
theorem dX0_sendPiece_89 : decode cX0_sendPiece 89 = .ok (.aload_n 0, 1) := by decide +kernel
theorem dX0_sendPiece_90 : decode cX0_sendPiece 90 = .ok (.getfield 53, 3) := by decide +kernel
theorem dX0_sendPiece_93 : decode cX0_sendPiece 93 = .ok (.getfield 88, 3) := by decide +kernel
theorem dX0_sendPiece_96 : decode cX0_sendPiece 96 = .ok (.invokevirtual 261, 3) := by decide +kernel
theorem dX0_sendPiece_99 : decode cX0_sendPiece 99 = .ok (.aload_n 0, 1) := by decide +kernel
theorem dX0_sendPiece_100 : decode cX0_sendPiece 100 = .ok (.getfield 53, 3) := by decide +kernel
theorem dX0_sendPiece_103 : decode cX0_sendPiece 103 = .ok (.aload_n 0, 1) := by decide +kernel
theorem dX0_sendPiece_104 : decode cX0_sendPiece 104 = .ok (.getfield 50, 3) := by decide +kernel
theorem dX0_sendPiece_107 : decode cX0_sendPiece 107 = .ok (.invokevirtual 271, 3) := by decide +kernel
theorem dX0_sendPiece_110 : decode cX0_sendPiece 110 = .ok (.return_, 1) := by decide +kernel
theorem dX0_sendNewUrgent_0 : decode cX0_sendNewUrgent 0 = .ok (.aload_n 0, 1) := by decide +kernel
theorem dX0_sendNewUrgent_1 : decode cX0_sendNewUrgent 1 = .ok (.getfield 28, 3) := by decide +kernel
theorem dX0_sendNewUrgent_4 : decode cX0_sendNewUrgent 4 = .ok (.invokevirtual 290, 3) := by decide +kernel
theorem dX0_sendNewUrgent_7 : decode cX0_sendNewUrgent 7 = .ok (.ifCond .eq 7, 3) := by decide +kernel
theorem dX0_sendNewUrgent_10 : decode cX0_sendNewUrgent 10 = .ok (.aload_n 0, 1) := by decide +kernel
theorem dX0_sendNewUrgent_11 : decode cX0_sendNewUrgent 11 = .ok (.invokevirtual 250, 3) := by decide +kernel
theorem dX0_sendNewUrgent_14 : decode cX0_sendNewUrgent 14 = .ok (.return_, 1) := by decide +kernel
theorem dX0_sendFirstUrgent_0 : decode cX0_sendFirstUrgent 0 = .ok (.aload_n 0, 1) := by decide +kernel
theorem dX0_sendFirstUrgent_1 : decode cX0_sendFirstUrgent 1 = .ok (.getfield 53, 3) := by decide +kernel
theorem dX0_sendFirstUrgent_4 : decode cX0_sendFirstUrgent 4 = .ok (.invokevirtual 264, 3) := by decide +kernel
theorem dX0_sendFirstUrgent_7 : decode cX0_sendFirstUrgent 7 = .ok (.astore_n 1, 1) := by decide +kernel
theorem dX0_sendFirstUrgent_8 : decode cX0_sendFirstUrgent 8 = .ok (.aload_n 1, 1) := by decide +kernel
theorem dX0_sendFirstUrgent_9 : decode cX0_sendFirstUrgent 9 = .ok (.bipush 16, 2) := by decide +kernel
theorem dX0_sendFirstUrgent_11 : decode cX0_sendFirstUrgent 11 = .ok (.aload_n 0, 1) := by decide +kernel
theorem dX0_sendFirstUrgent_12 : decode cX0_sendFirstUrgent 12 = .ok (.getfield 81, 3) := by decide +kernel
theorem dX0_sendFirstUrgent_15 : decode cX0_sendFirstUrgent 15 = .ok (.aload_n 0, 1) := by decide +kernel
theorem dX0_sendFirstUrgent_16 : decode cX0_sendFirstUrgent 16 = .ok (.getfield 28, 3) := by decide +kernel
theorem dX0_sendFirstUrgent_19 : decode cX0_sendFirstUrgent 19 = .ok (.getfield 291, 3) := by decide +kernel
theorem dX0_sendFirstUrgent_22 : decode cX0_sendFirstUrgent 22 = .ok (.invokevirtual 274, 3) := by decide +kernel
theorem dX0_sendFirstUrgent_25 : decode cX0_sendFirstUrgent 25 = .ok (.aload_n 1, 1) := by decide +kernel
theorem dX0_sendFirstUrgent_26 : decode cX0_sendFirstUrgent 26 = .ok (.aload_n 0, 1) := by decide +kernel
theorem dX0_sendFirstUrgent_27 : decode cX0_sendFirstUrgent 27 = .ok (.getfield 28, 3) := by decide +kernel
theorem dX0_sendFirstUrgent_30 : decode cX0_sendFirstUrgent 30 = .ok (.getfield 293, 3) := by decide +kernel
theorem dX0_sendFirstUrgent_33 : decode cX0_sendFirstUrgent 33 = .ok (.iconst 0, 1) := by decide +kernel
theorem dX0_sendFirstUrgent_34 : decode cX0_sendFirstUrgent 34 = .ok (.iaload, 1) := by decide +kernel
theorem dX0_sendFirstUrgent_35 : decode cX0_sendFirstUrgent 35 = .ok (.invokevirtual 288, 3) := by decide +kernel
theorem dX0_sendFirstUrgent_38 : decode cX0_sendFirstUrgent 38 = .ok (.aload_n 0, 1) := by decide +kernel
theorem dX0_sendFirstUrgent_39 : decode cX0_sendFirstUrgent 39 = .ok (.getfield 28, 3) := by decide +kernel
theorem dX0_sendFirstUrgent_42 : decode cX0_sendFirstUrgent 42 = .ok (.getfield 249, 3) := by decide +kernel
theorem dX0_sendFirstUrgent_45 : decode cX0_sendFirstUrgent 45 = .ok (.aload_n 0, 1) := by decide +kernel
theorem dX0_sendFirstUrgent_46 : decode cX0_sendFirstUrgent 46 = .ok (.getfield 53, 3) := by decide +kernel
theorem dX0_sendFirstUrgent_49 : decode cX0_sendFirstUrgent 49 = .ok (.getfield 88, 3) := by decide +kernel
theorem dX0_sendFirstUrgent_52 : decode cX0_sendFirstUrgent 52 = .ok (.invokevirtual 261, 3) := by decide +kernel
theorem dX0_sendFirstUrgent_55 : decode cX0_sendFirstUrgent 55 = .ok (.aload_n 0, 1) := by decide +kernel
theorem dX0_sendFirstUrgent_56 : decode cX0_sendFirstUrgent 56 = .ok (.getfield 53, 3) := by decide +kernel
theorem dX0_sendFirstUrgent_59 : decode cX0_sendFirstUrgent 59 = .ok (.aload_n 0, 1) := by decide +kernel
theorem dX0_sendFirstUrgent_60 : decode cX0_sendFirstUrgent 60 = .ok (.getfield 50, 3) := by decide +kernel
theorem dX0_sendFirstUrgent_63 : decode cX0_sendFirstUrgent 63 = .ok (.invokevirtual 271, 3) := by decide +kernel
theorem dX0_sendFirstUrgent_66 : decode cX0_sendFirstUrgent 66 = .ok (.return_, 1) := by decide +kernel
theorem dX2_init_0 : decode cX2_init 0 = .ok (.aload_n 0, 1) := by decide +kernel
theorem dX2_init_1 : decode cX2_init 1 = .ok (.invokespecial 3, 3) := by decide +kernel
theorem dX2_init_4 : decode cX2_init 4 = .ok (.aload_n 0, 1) := by decide +kernel
theorem dX2_init_5 : decode cX2_init 5 = .ok (.sipush 256, 3) := by decide +kernel
theorem dX2_init_8 : decode cX2_init 8 = .ok (.anewarray 9, 3) := by decide +kernel
theorem dX2_init_11 : decode cX2_init 11 = .ok (.putfield 11, 3) := by decide +kernel
theorem dX2_init_14 : decode cX2_init 14 = .ok (.aload_n 0, 1) := by decide +kernel
theorem dX2_init_15 : decode cX2_init 15 = .ok (.new 9, 3) := by decide +kernel
theorem dX2_init_18 : decode cX2_init 18 = .ok (.dup, 1) := by decide +kernel
theorem dX2_init_19 : decode cX2_init 19 = .ok (.invokespecial 17, 3) := by decide +kernel
theorem dX2_init_22 : decode cX2_init 22 = .ok (.putfield 18, 3) := by decide +kernel
theorem dX2_init_25 : decode cX2_init 25 = .ok (.aload_n 0, 1) := by decide +kernel
theorem dX2_init_26 : decode cX2_init 26 = .ok (.bipush 60, 2) := by decide +kernel
theorem dX2_init_28 : decode cX2_init 28 = .ok (.newarray .int, 2) := by decide +kernel
theorem dX2_init_30 : decode cX2_init 30 = .ok (.putfield 22, 3) := by decide +kernel
theorem dX2_init_33 : decode cX2_init 33 = .ok (.aload_n 0, 1) := by decide +kernel
theorem dX2_init_34 : decode cX2_init 34 = .ok (.bipush 60, 2) := by decide +kernel
theorem dX2_init_36 : decode cX2_init 36 = .ok (.newarray .int, 2) := by decide +kernel
theorem dX2_init_38 : decode cX2_init 38 = .ok (.putfield 26, 3) := by decide +kernel
theorem dX2_init_41 : decode cX2_init 41 = .ok (.aload_n 0, 1) := by decide +kernel
theorem dX2_init_42 : decode cX2_init 42 = .ok (.bipush 60, 2) := by decide +kernel
theorem dX2_init_44 : decode cX2_init 44 = .ok (.newarray .int, 2) := by decide +kernel
theorem dX2_init_46 : decode cX2_init 46 = .ok (.putfield 29, 3) := by decide +kernel
theorem dX2_init_49 : decode cX2_init 49 = .ok (.aload_n 0, 1) := by decide +kernel
theorem dX2_init_50 : decode cX2_init 50 = .ok (.bipush 60, 2) := by decide +kernel
theorem dX2_init_52 : decode cX2_init 52 = .ok (.newarray .int, 2) := by decide +kernel
theorem dX2_init_54 : decode cX2_init 54 = .ok (.putfield 32, 3) := by decide +kernel
theorem dX2_init_57 : decode cX2_init 57 = .ok (.aload_n 0, 1) := by decide +kernel
theorem dX2_init_58 : decode cX2_init 58 = .ok (.iconst 2, 1) := by decide +kernel
theorem dX2_init_59 : decode cX2_init 59 = .ok (.newarray .int, 2) := by decide +kernel
theorem dX2_init_61 : decode cX2_init 61 = .ok (.putfield 35, 3) := by decide +kernel
theorem dX2_init_64 : decode cX2_init 64 = .ok (.iconst 0, 1) := by decide +kernel
theorem dX2_init_65 : decode cX2_init 65 = .ok (.istore_n 1, 1) := by decide +kernel
theorem dX2_init_66 : decode cX2_init 66 = .ok (.iload_n 1, 1) := by decide +kernel
theorem dX2_init_67 : decode cX2_init 67 = .ok (.sipush 256, 3) := by decide +kernel
theorem dX2_init_70 : decode cX2_init 70 = .ok (.if_icmp .ge 22, 3) := by decide +kernel
theorem dX2_init_73 : decode cX2_init 73 = .ok (.aload_n 0, 1) := by decide +kernel
theorem dX2_init_74 : decode cX2_init 74 = .ok (.getfield 11, 3) := by decide +kernel
theorem dX2_init_77 : decode cX2_init 77 = .ok (.iload_n 1, 1) := by decide +kernel
theorem dX2_init_78 : decode cX2_init 78 = .ok (.new 9, 3) := by decide +kernel
theorem dX2_init_81 : decode cX2_init 81 = .ok (.dup, 1) := by decide +kernel
theorem dX2_init_82 : decode cX2_init 82 = .ok (.invokespecial 17, 3) := by decide +kernel
theorem dX2_init_85 : decode cX2_init 85 = .ok (.aastore, 1) := by decide +kernel
theorem dX2_init_86 : decode cX2_init 86 = .ok (.iinc 1 1, 3) := by decide +kernel
theorem dX2_init_89 : decode cX2_init 89 = .ok (.goto (-23), 3) := by decide +kernel
theorem dX2_init_92 : decode cX2_init 92 = .ok (.return_, 1) := by decide +kernel
theorem dX2_addFault_0 : decode cX2_addFault 0 = .ok (.aload_n 0, 1) := by decide +kernel
theorem dX2_addFault_1 : decode cX2_addFault 1 = .ok (.getfield 38, 3) := by decide +kernel
theorem dX2_addFault_4 : decode cX2_addFault 4 = .ok (.bipush 60, 2) := by decide +kernel
theorem dX2_addFault_6 : decode cX2_addFault 6 = .ok (.if_icmp .lt 6, 3) := by decide +kernel
theorem dX2_addFault_9 : decode cX2_addFault 9 = .ok (.bipush (-3), 2) := by decide +kernel
theorem dX2_addFault_11 : decode cX2_addFault 11 = .ok (.ireturn, 1) := by decide +kernel
theorem dX2_addFault_12 : decode cX2_addFault 12 = .ok (.aload_n 0, 1) := by decide +kernel
theorem dX2_addFault_13 : decode cX2_addFault 13 = .ok (.getfield 22, 3) := by decide +kernel
theorem dX2_addFault_16 : decode cX2_addFault 16 = .ok (.aload_n 0, 1) := by decide +kernel
theorem dX2_addFault_17 : decode cX2_addFault 17 = .ok (.getfield 38, 3) := by decide +kernel
theorem dX2_addFault_20 : decode cX2_addFault 20 = .ok (.iload_n 1, 1) := by decide +kernel
theorem dX2_addFault_21 : decode cX2_addFault 21 = .ok (.iastore, 1) := by decide +kernel
theorem dX2_addFault_22 : decode cX2_addFault 22 = .ok (.aload_n 0, 1) := by decide +kernel
theorem dX2_addFault_23 : decode cX2_addFault 23 = .ok (.getfield 26, 3) := by decide +kernel
theorem dX2_addFault_26 : decode cX2_addFault 26 = .ok (.aload_n 0, 1) := by decide +kernel
theorem dX2_addFault_27 : decode cX2_addFault 27 = .ok (.getfield 38, 3) := by decide +kernel
theorem dX2_addFault_30 : decode cX2_addFault 30 = .ok (.iload_n 2, 1) := by decide +kernel
theorem dX2_addFault_31 : decode cX2_addFault 31 = .ok (.iastore, 1) := by decide +kernel
theorem dX2_addFault_32 : decode cX2_addFault 32 = .ok (.aload_n 0, 1) := by decide +kernel
theorem dX2_addFault_33 : decode cX2_addFault 33 = .ok (.getfield 29, 3) := by decide +kernel
theorem dX2_addFault_36 : decode cX2_addFault 36 = .ok (.aload_n 0, 1) := by decide +kernel
theorem dX2_addFault_37 : decode cX2_addFault 37 = .ok (.getfield 38, 3) := by decide +kernel
theorem dX2_addFault_40 : decode cX2_addFault 40 = .ok (.iload_n 3, 1) := by decide +kernel
theorem dX2_addFault_41 : decode cX2_addFault 41 = .ok (.iastore, 1) := by decide +kernel
theorem dX2_addFault_42 : decode cX2_addFault 42 = .ok (.aload_n 0, 1) := by decide +kernel
theorem dX2_addFault_43 : decode cX2_addFault 43 = .ok (.getfield 32, 3) := by decide +kernel
theorem dX2_addFault_46 : decode cX2_addFault 46 = .ok (.aload_n 0, 1) := by decide +kernel
theorem dX2_addFault_47 : decode cX2_addFault 47 = .ok (.getfield 38, 3) := by decide +kernel
theorem dX2_addFault_50 : decode cX2_addFault 50 = .ok (.iload 4, 2) := by decide +kernel
theorem dX2_addFault_52 : decode cX2_addFault 52 = .ok (.iastore, 1) := by decide +kernel
theorem dX2_addFault_53 : decode cX2_addFault 53 = .ok (.aload_n 0, 1) := by decide +kernel
theorem dX2_addFault_54 : decode cX2_addFault 54 = .ok (.dup, 1) := by decide +kernel
theorem dX2_addFault_55 : decode cX2_addFault 55 = .ok (.getfield 38, 3) := by decide +kernel
theorem dX2_addFault_58 : decode cX2_addFault 58 = .ok (.iconst 1, 1) := by decide +kernel
theorem dX2_addFault_59 : decode cX2_addFault 59 = .ok (.iadd, 1) := by decide +kernel
theorem dX2_addFault_60 : decode cX2_addFault 60 = .ok (.putfield 38, 3) := by decide +kernel
theorem dX2_addFault_63 : decode cX2_addFault 63 = .ok (.aload_n 0, 1) := by decide +kernel
theorem dX2_addFault_64 : decode cX2_addFault 64 = .ok (.getfield 38, 3) := by decide +kernel
theorem dX2_addFault_67 : decode cX2_addFault 67 = .ok (.ireturn, 1) := by decide +kernel
theorem dX2_unitOf_0 : decode cX2_unitOf 0 = .ok (.aload_n 0, 1) := by decide +kernel
theorem dX2_unitOf_1 : decode cX2_unitOf 1 = .ok (.getfield 11, 3) := by decide +kernel
theorem dX2_unitOf_4 : decode cX2_unitOf 4 = .ok (.iload_n 1, 1) := by decide +kernel
theorem dX2_unitOf_5 : decode cX2_unitOf 5 = .ok (.sipush 255, 3) := by decide +kernel
theorem dX2_unitOf_8 : decode cX2_unitOf 8 = .ok (.iand, 1) := by decide +kernel
theorem dX2_unitOf_9 : decode cX2_unitOf 9 = .ok (.aaload, 1) := by decide +kernel
theorem dX2_unitOf_10 : decode cX2_unitOf 10 = .ok (.areturn, 1) := by decide +kernel
theorem dX2_nextUnit_0 : decode cX2_nextUnit 0 = .ok (.aload_n 0, 1) := by decide +kernel
theorem dX2_nextUnit_1 : decode cX2_nextUnit 1 = .ok (.aload_n 0, 1) := by decide +kernel
theorem dX2_nextUnit_2 : decode cX2_nextUnit 2 = .ok (.getfield 42, 3) := by decide +kernel
theorem dX2_nextUnit_5 : decode cX2_nextUnit 5 = .ok (.invokevirtual 45, 3) := by decide +kernel
theorem dX2_nextUnit_8 : decode cX2_nextUnit 8 = .ok (.areturn, 1) := by decide +kernel
theorem dX2_dispatch_0 : decode cX2_dispatch 0 = .ok (.aload_n 0, 1) := by decide +kernel
theorem dX2_dispatch_1 : decode cX2_dispatch 1 = .ok (.aload_n 0, 1) := by decide +kernel
theorem dX2_dispatch_2 : decode cX2_dispatch 2 = .ok (.getfield 42, 3) := by decide +kernel
theorem dX2_dispatch_5 : decode cX2_dispatch 5 = .ok (.invokevirtual 45, 3) := by decide +kernel
theorem dX2_dispatch_8 : decode cX2_dispatch 8 = .ok (.astore_n 2, 1) := by decide +kernel
theorem dX2_dispatch_9 : decode cX2_dispatch 9 = .ok (.aload_n 2, 1) := by decide +kernel
theorem dX2_dispatch_10 : decode cX2_dispatch 10 = .ok (.aload_n 2, 1) := by decide +kernel
theorem dX2_dispatch_11 : decode cX2_dispatch 11 = .ok (.invokevirtual 49, 3) := by decide +kernel
theorem dX2_dispatch_14 : decode cX2_dispatch 14 = .ok (.aload_n 2, 1) := by decide +kernel
theorem dX2_dispatch_15 : decode cX2_dispatch 15 = .ok (.invokevirtual 53, 3) := by decide +kernel
theorem dX2_dispatch_18 : decode cX2_dispatch 18 = .ok (.invokevirtual 56, 3) := by decide +kernel
theorem dX2_dispatch_21 : decode cX2_dispatch 21 = .ok (.aload_n 2, 1) := by decide +kernel
theorem dX2_dispatch_22 : decode cX2_dispatch 22 = .ok (.iload_n 1, 1) := by decide +kernel
theorem dX2_dispatch_23 : decode cX2_dispatch 23 = .ok (.putfield 60, 3) := by decide +kernel
theorem dX2_dispatch_26 : decode cX2_dispatch 26 = .ok (.aload_n 2, 1) := by decide +kernel
theorem dX2_dispatch_27 : decode cX2_dispatch 27 = .ok (.aload_n 0, 1) := by decide +kernel
theorem dX2_dispatch_28 : decode cX2_dispatch 28 = .ok (.getfield 63, 3) := by decide +kernel
theorem dX2_dispatch_31 : decode cX2_dispatch 31 = .ok (.iconst 2, 1) := by decide +kernel
theorem dX2_dispatch_32 : decode cX2_dispatch 32 = .ok (.iadd, 1) := by decide +kernel
theorem dX2_dispatch_33 : decode cX2_dispatch 33 = .ok (.putfield 66, 3) := by decide +kernel
theorem dX2_dispatch_36 : decode cX2_dispatch 36 = .ok (.aload_n 2, 1) := by decide +kernel
theorem dX2_dispatch_37 : decode cX2_dispatch 37 = .ok (.iconst (-1), 1) := by decide +kernel
theorem dX2_dispatch_38 : decode cX2_dispatch 38 = .ok (.putfield 69, 3) := by decide +kernel
theorem dX2_dispatch_41 : decode cX2_dispatch 41 = .ok (.aload_n 2, 1) := by decide +kernel
theorem dX2_dispatch_42 : decode cX2_dispatch 42 = .ok (.iconst 0, 1) := by decide +kernel
theorem dX2_dispatch_43 : decode cX2_dispatch 43 = .ok (.putfield 72, 3) := by decide +kernel
theorem dX2_dispatch_46 : decode cX2_dispatch 46 = .ok (.aload_n 0, 1) := by decide +kernel
theorem dX2_dispatch_47 : decode cX2_dispatch 47 = .ok (.aload_n 2, 1) := by decide +kernel
theorem dX2_dispatch_48 : decode cX2_dispatch 48 = .ok (.invokevirtual 75, 3) := by decide +kernel
theorem dX2_dispatch_51 : decode cX2_dispatch 51 = .ok (.aload_n 0, 1) := by decide +kernel
theorem dX2_dispatch_52 : decode cX2_dispatch 52 = .ok (.getfield 35, 3) := by decide +kernel
theorem dX2_dispatch_55 : decode cX2_dispatch 55 = .ok (.iload_n 1, 1) := by decide +kernel
theorem dX2_dispatch_56 : decode cX2_dispatch 56 = .ok (.aload_n 0, 1) := by decide +kernel
theorem dX2_dispatch_57 : decode cX2_dispatch 57 = .ok (.getfield 63, 3) := by decide +kernel
theorem dX2_dispatch_60 : decode cX2_dispatch 60 = .ok (.iastore, 1) := by decide +kernel
theorem dX2_dispatch_61 : decode cX2_dispatch 61 = .ok (.aload_n 0, 1) := by decide +kernel
theorem dX2_dispatch_62 : decode cX2_dispatch 62 = .ok (.dup, 1) := by decide +kernel
theorem dX2_dispatch_63 : decode cX2_dispatch 63 = .ok (.getfield 42, 3) := by decide +kernel
theorem dX2_dispatch_66 : decode cX2_dispatch 66 = .ok (.iconst 1, 1) := by decide +kernel
theorem dX2_dispatch_67 : decode cX2_dispatch 67 = .ok (.iadd, 1) := by decide +kernel
theorem dX2_dispatch_68 : decode cX2_dispatch 68 = .ok (.putfield 42, 3) := by decide +kernel
theorem dX2_dispatch_71 : decode cX2_dispatch 71 = .ok (.aload_n 0, 1) := by decide +kernel
theorem dX2_dispatch_72 : decode cX2_dispatch 72 = .ok (.getfield 42, 3) := by decide +kernel
theorem dX2_dispatch_75 : decode cX2_dispatch 75 = .ok (.aload_n 0, 1) := by decide +kernel
theorem dX2_dispatch_76 : decode cX2_dispatch 76 = .ok (.getfield 79, 3) := by decide +kernel
theorem dX2_dispatch_79 : decode cX2_dispatch 79 = .ok (.isub, 1) := by decide +kernel
theorem dX2_dispatch_80 : decode cX2_dispatch 80 = .ok (.sipush 256, 3) := by decide +kernel
theorem dX2_dispatch_83 : decode cX2_dispatch 83 = .ok (.if_icmp .le 15, 3) := by decide +kernel
theorem dX2_dispatch_86 : decode cX2_dispatch 86 = .ok (.aload_n 0, 1) := by decide +kernel
theorem dX2_dispatch_87 : decode cX2_dispatch 87 = .ok (.aload_n 0, 1) := by decide +kernel
theorem dX2_dispatch_88 : decode cX2_dispatch 88 = .ok (.getfield 42, 3) := by decide +kernel
theorem dX2_dispatch_91 : decode cX2_dispatch 91 = .ok (.sipush 256, 3) := by decide +kernel
theorem dX2_dispatch_94 : decode cX2_dispatch 94 = .ok (.isub, 1) := by decide +kernel
theorem dX2_dispatch_95 : decode cX2_dispatch 95 = .ok (.putfield 79, 3) := by decide +kernel
theorem dX2_dispatch_98 : decode cX2_dispatch 98 = .ok (.return_, 1) := by decide +kernel
theorem dX2_applyFaults_0 : decode cX2_applyFaults 0 = .ok (.iconst 0, 1) := by decide +kernel
theorem dX2_applyFaults_1 : decode cX2_applyFaults 1 = .ok (.istore_n 2, 1) := by decide +kernel
theorem dX2_applyFaults_2 : decode cX2_applyFaults 2 = .ok (.iconst 0, 1) := by decide +kernel
theorem dX2_applyFaults_3 : decode cX2_applyFaults 3 = .ok (.istore_n 3, 1) := by decide +kernel
theorem dX2_applyFaults_4 : decode cX2_applyFaults 4 = .ok (.iconst 0, 1) := by decide +kernel
theorem dX2_applyFaults_5 : decode cX2_applyFaults 5 = .ok (.istore 4, 2) := by decide +kernel
theorem dX2_applyFaults_7 : decode cX2_applyFaults 7 = .ok (.iload 4, 2) := by decide +kernel
theorem dX2_applyFaults_9 : decode cX2_applyFaults 9 = .ok (.aload_n 0, 1) := by decide +kernel
theorem dX2_applyFaults_10 : decode cX2_applyFaults 10 = .ok (.getfield 38, 3) := by decide +kernel
theorem dX2_applyFaults_13 : decode cX2_applyFaults 13 = .ok (.if_icmp .ge 108, 3) := by decide +kernel
theorem dX2_applyFaults_16 : decode cX2_applyFaults 16 = .ok (.aload_n 0, 1) := by decide +kernel
theorem dX2_applyFaults_17 : decode cX2_applyFaults 17 = .ok (.getfield 26, 3) := by decide +kernel
theorem dX2_applyFaults_20 : decode cX2_applyFaults 20 = .ok (.iload 4, 2) := by decide +kernel
theorem dX2_applyFaults_22 : decode cX2_applyFaults 22 = .ok (.iaload, 1) := by decide +kernel
theorem dX2_applyFaults_23 : decode cX2_applyFaults 23 = .ok (.aload_n 0, 1) := by decide +kernel
theorem dX2_applyFaults_24 : decode cX2_applyFaults 24 = .ok (.getfield 42, 3) := by decide +kernel
theorem dX2_applyFaults_27 : decode cX2_applyFaults 27 = .ok (.if_icmp .eq 6, 3) := by decide +kernel
theorem dX2_applyFaults_30 : decode cX2_applyFaults 30 = .ok (.goto 85, 3) := by decide +kernel
theorem dX2_applyFaults_33 : decode cX2_applyFaults 33 = .ok (.aload_n 0, 1) := by decide +kernel
