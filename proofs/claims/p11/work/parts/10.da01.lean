theorem dX1_takeNext_75 : decode cX1_takeNext 75 = .ok (.aload_n 0, 1) := by decide +kernel
theorem dX1_takeNext_76 : decode cX1_takeNext 76 = .ok (.getfield 33, 3) := by decide +kernel
theorem dX1_takeNext_79 : decode cX1_takeNext 79 = .ok (.iconst 0, 1) := by decide +kernel
theorem dX1_takeNext_80 : decode cX1_takeNext 80 = .ok (.iaload, 1) := by decide +kernel
theorem dX1_takeNext_81 : decode cX1_takeNext 81 = .ok (.isub, 1) := by decide +kernel
theorem dX1_takeNext_82 : decode cX1_takeNext 82 = .ok (.putfield 49, 3) := by decide +kernel
theorem dX1_takeNext_85 : decode cX1_takeNext 85 = .ok (.aload_n 0, 1) := by decide +kernel
theorem dX1_takeNext_86 : decode cX1_takeNext 86 = .ok (.dup, 1) := by decide +kernel
theorem dX1_takeNext_87 : decode cX1_takeNext 87 = .ok (.getfield 46, 3) := by decide +kernel
theorem dX1_takeNext_90 : decode cX1_takeNext 90 = .ok (.iconst 1, 1) := by decide +kernel
theorem dX1_takeNext_91 : decode cX1_takeNext 91 = .ok (.isub, 1) := by decide +kernel
theorem dX1_takeNext_92 : decode cX1_takeNext 92 = .ok (.putfield 46, 3) := by decide +kernel
theorem dX1_takeNext_95 : decode cX1_takeNext 95 = .ok (.aload_n 0, 1) := by decide +kernel
theorem dX1_takeNext_96 : decode cX1_takeNext 96 = .ok (.getfield 30, 3) := by decide +kernel
theorem dX1_takeNext_99 : decode cX1_takeNext 99 = .ok (.iconst 1, 1) := by decide +kernel
theorem dX1_takeNext_100 : decode cX1_takeNext 100 = .ok (.aload_n 0, 1) := by decide +kernel
theorem dX1_takeNext_101 : decode cX1_takeNext 101 = .ok (.getfield 30, 3) := by decide +kernel
theorem dX1_takeNext_104 : decode cX1_takeNext 104 = .ok (.iconst 0, 1) := by decide +kernel
theorem dX1_takeNext_105 : decode cX1_takeNext 105 = .ok (.aload_n 0, 1) := by decide +kernel
theorem dX1_takeNext_106 : decode cX1_takeNext 106 = .ok (.getfield 46, 3) := by decide +kernel
theorem dX1_takeNext_109 : decode cX1_takeNext 109 = .ok (.invokestatic 84, 3) := by decide +kernel
theorem dX1_takeNext_112 : decode cX1_takeNext 112 = .ok (.aload_n 0, 1) := by decide +kernel
theorem dX1_takeNext_113 : decode cX1_takeNext 113 = .ok (.getfield 33, 3) := by decide +kernel
theorem dX1_takeNext_116 : decode cX1_takeNext 116 = .ok (.iconst 1, 1) := by decide +kernel
theorem dX1_takeNext_117 : decode cX1_takeNext 117 = .ok (.aload_n 0, 1) := by decide +kernel
theorem dX1_takeNext_118 : decode cX1_takeNext 118 = .ok (.getfield 33, 3) := by decide +kernel
theorem dX1_takeNext_121 : decode cX1_takeNext 121 = .ok (.iconst 0, 1) := by decide +kernel
theorem dX1_takeNext_122 : decode cX1_takeNext 122 = .ok (.aload_n 0, 1) := by decide +kernel
theorem dX1_takeNext_123 : decode cX1_takeNext 123 = .ok (.getfield 46, 3) := by decide +kernel
theorem dX1_takeNext_126 : decode cX1_takeNext 126 = .ok (.invokestatic 84, 3) := by decide +kernel
theorem dX1_takeNext_129 : decode cX1_takeNext 129 = .ok (.aload_n 0, 1) := by decide +kernel
theorem dX1_takeNext_130 : decode cX1_takeNext 130 = .ok (.getfield 96, 3) := by decide +kernel
theorem dX1_takeNext_133 : decode cX1_takeNext 133 = .ok (.ireturn, 1) := by decide +kernel
theorem dX1_takenByte_0 : decode cX1_takenByte 0 = .ok (.iload_n 1, 1) := by decide +kernel
theorem dX1_takenByte_1 : decode cX1_takenByte 1 = .ok (.ifCond .lt 11, 3) := by decide +kernel
theorem dX1_takenByte_4 : decode cX1_takenByte 4 = .ok (.iload_n 1, 1) := by decide +kernel
theorem dX1_takenByte_5 : decode cX1_takenByte 5 = .ok (.aload_n 0, 1) := by decide +kernel
theorem dX1_takenByte_6 : decode cX1_takenByte 6 = .ok (.getfield 96, 3) := by decide +kernel
theorem dX1_takenByte_9 : decode cX1_takenByte 9 = .ok (.if_icmp .lt 7, 3) := by decide +kernel
theorem dX1_takenByte_12 : decode cX1_takenByte 12 = .ok (.iconst (-1), 1) := by decide +kernel
theorem dX1_takenByte_13 : decode cX1_takenByte 13 = .ok (.goto 9, 3) := by decide +kernel
theorem dX1_takenByte_16 : decode cX1_takenByte 16 = .ok (.aload_n 0, 1) := by decide +kernel
theorem dX1_takenByte_17 : decode cX1_takenByte 17 = .ok (.getfield 36, 3) := by decide +kernel
theorem dX1_takenByte_20 : decode cX1_takenByte 20 = .ok (.iload_n 1, 1) := by decide +kernel
theorem dX1_takenByte_21 : decode cX1_takenByte 21 = .ok (.iaload, 1) := by decide +kernel
theorem dX1_takenByte_22 : decode cX1_takenByte 22 = .ok (.ireturn, 1) := by decide +kernel
theorem dX3_init_0 : decode cX3_init 0 = .ok (.aload_n 0, 1) := by decide +kernel
theorem dX3_init_1 : decode cX3_init 1 = .ok (.invokespecial 3, 3) := by decide +kernel
theorem dX3_init_4 : decode cX3_init 4 = .ok (.aload_n 0, 1) := by decide +kernel
theorem dX3_init_5 : decode cX3_init 5 = .ok (.bipush 40, 2) := by decide +kernel
theorem dX3_init_7 : decode cX3_init 7 = .ok (.anewarray 9, 3) := by decide +kernel
theorem dX3_init_10 : decode cX3_init 10 = .ok (.putfield 11, 3) := by decide +kernel
theorem dX3_init_13 : decode cX3_init 13 = .ok (.iconst 0, 1) := by decide +kernel
theorem dX3_init_14 : decode cX3_init 14 = .ok (.istore_n 1, 1) := by decide +kernel
theorem dX3_init_15 : decode cX3_init 15 = .ok (.iload_n 1, 1) := by decide +kernel
theorem dX3_init_16 : decode cX3_init 16 = .ok (.bipush 40, 2) := by decide +kernel
theorem dX3_init_18 : decode cX3_init 18 = .ok (.if_icmp .ge 22, 3) := by decide +kernel
theorem dX3_init_21 : decode cX3_init 21 = .ok (.aload_n 0, 1) := by decide +kernel
theorem dX3_init_22 : decode cX3_init 22 = .ok (.getfield 11, 3) := by decide +kernel
theorem dX3_init_25 : decode cX3_init 25 = .ok (.iload_n 1, 1) := by decide +kernel
theorem dX3_init_26 : decode cX3_init 26 = .ok (.new 9, 3) := by decide +kernel
theorem dX3_init_29 : decode cX3_init 29 = .ok (.dup, 1) := by decide +kernel
theorem dX3_init_30 : decode cX3_init 30 = .ok (.invokespecial 17, 3) := by decide +kernel
theorem dX3_init_33 : decode cX3_init 33 = .ok (.aastore, 1) := by decide +kernel
theorem dX3_init_34 : decode cX3_init 34 = .ok (.iinc 1 1, 3) := by decide +kernel
theorem dX3_init_37 : decode cX3_init 37 = .ok (.goto (-22), 3) := by decide +kernel
theorem dX3_init_40 : decode cX3_init 40 = .ok (.return_, 1) := by decide +kernel
theorem dX3_clear_0 : decode cX3_clear 0 = .ok (.aload_n 0, 1) := by decide +kernel
theorem dX3_clear_1 : decode cX3_clear 1 = .ok (.iconst 0, 1) := by decide +kernel
theorem dX3_clear_2 : decode cX3_clear 2 = .ok (.putfield 18, 3) := by decide +kernel
theorem dX3_clear_5 : decode cX3_clear 5 = .ok (.aload_n 0, 1) := by decide +kernel
theorem dX3_clear_6 : decode cX3_clear 6 = .ok (.iconst 0, 1) := by decide +kernel
theorem dX3_clear_7 : decode cX3_clear 7 = .ok (.putfield 22, 3) := by decide +kernel
theorem dX3_clear_10 : decode cX3_clear 10 = .ok (.aload_n 0, 1) := by decide +kernel
theorem dX3_clear_11 : decode cX3_clear 11 = .ok (.iconst 0, 1) := by decide +kernel
theorem dX3_clear_12 : decode cX3_clear 12 = .ok (.putfield 25, 3) := by decide +kernel
theorem dX3_clear_15 : decode cX3_clear 15 = .ok (.aload_n 0, 1) := by decide +kernel
theorem dX3_clear_16 : decode cX3_clear 16 = .ok (.iconst 0, 1) := by decide +kernel
theorem dX3_clear_17 : decode cX3_clear 17 = .ok (.putfield 28, 3) := by decide +kernel
theorem dX3_clear_20 : decode cX3_clear 20 = .ok (.return_, 1) := by decide +kernel
theorem dX3_pieceAt_0 : decode cX3_pieceAt 0 = .ok (.aload_n 0, 1) := by decide +kernel
theorem dX3_pieceAt_1 : decode cX3_pieceAt 1 = .ok (.getfield 11, 3) := by decide +kernel
theorem dX3_pieceAt_4 : decode cX3_pieceAt 4 = .ok (.aload_n 0, 1) := by decide +kernel
theorem dX3_pieceAt_5 : decode cX3_pieceAt 5 = .ok (.getfield 31, 3) := by decide +kernel
theorem dX3_pieceAt_8 : decode cX3_pieceAt 8 = .ok (.iload_n 1, 1) := by decide +kernel
theorem dX3_pieceAt_9 : decode cX3_pieceAt 9 = .ok (.iadd, 1) := by decide +kernel
theorem dX3_pieceAt_10 : decode cX3_pieceAt 10 = .ok (.bipush 40, 2) := by decide +kernel
theorem dX3_pieceAt_12 : decode cX3_pieceAt 12 = .ok (.irem, 1) := by decide +kernel
theorem dX3_pieceAt_13 : decode cX3_pieceAt 13 = .ok (.aaload, 1) := by decide +kernel
theorem dX3_pieceAt_14 : decode cX3_pieceAt 14 = .ok (.areturn, 1) := by decide +kernel
theorem dX3_numberAt_0 : decode cX3_numberAt 0 = .ok (.aload_n 0, 1) := by decide +kernel
theorem dX3_numberAt_1 : decode cX3_numberAt 1 = .ok (.getfield 25, 3) := by decide +kernel
theorem dX3_numberAt_4 : decode cX3_numberAt 4 = .ok (.iload_n 1, 1) := by decide +kernel
theorem dX3_numberAt_5 : decode cX3_numberAt 5 = .ok (.iadd, 1) := by decide +kernel
theorem dX3_numberAt_6 : decode cX3_numberAt 6 = .ok (.bipush 127, 2) := by decide +kernel
theorem dX3_numberAt_8 : decode cX3_numberAt 8 = .ok (.iand, 1) := by decide +kernel
theorem dX3_numberAt_9 : decode cX3_numberAt 9 = .ok (.ireturn, 1) := by decide +kernel
theorem dX3_piecesOf_0 : decode cX3_piecesOf 0 = .ok (.iload_n 0, 1) := by decide +kernel
theorem dX3_piecesOf_1 : decode cX3_piecesOf 1 = .ok (.ifCond .ne 7, 3) := by decide +kernel
theorem dX3_piecesOf_4 : decode cX3_piecesOf 4 = .ok (.iconst 1, 1) := by decide +kernel
theorem dX3_piecesOf_5 : decode cX3_piecesOf 5 = .ok (.goto 12, 3) := by decide +kernel
theorem dX3_piecesOf_8 : decode cX3_piecesOf 8 = .ok (.iload_n 0, 1) := by decide +kernel
theorem dX3_piecesOf_9 : decode cX3_piecesOf 9 = .ok (.bipush 8, 2) := by decide +kernel
theorem dX3_piecesOf_11 : decode cX3_piecesOf 11 = .ok (.iadd, 1) := by decide +kernel
theorem dX3_piecesOf_12 : decode cX3_piecesOf 12 = .ok (.iconst 1, 1) := by decide +kernel
theorem dX3_piecesOf_13 : decode cX3_piecesOf 13 = .ok (.isub, 1) := by decide +kernel
theorem dX3_piecesOf_14 : decode cX3_piecesOf 14 = .ok (.bipush 8, 2) := by decide +kernel
theorem dX3_piecesOf_16 : decode cX3_piecesOf 16 = .ok (.idiv, 1) := by decide +kernel
theorem dX3_piecesOf_17 : decode cX3_piecesOf 17 = .ok (.ireturn, 1) := by decide +kernel
theorem dX3_hasRoomFor_0 : decode cX3_hasRoomFor 0 = .ok (.aload_n 0, 1) := by decide +kernel
theorem dX3_hasRoomFor_1 : decode cX3_hasRoomFor 1 = .ok (.getfield 18, 3) := by decide +kernel
theorem dX3_hasRoomFor_4 : decode cX3_hasRoomFor 4 = .ok (.iload_n 1, 1) := by decide +kernel
theorem dX3_hasRoomFor_5 : decode cX3_hasRoomFor 5 = .ok (.invokestatic 34, 3) := by decide +kernel
theorem dX3_hasRoomFor_8 : decode cX3_hasRoomFor 8 = .ok (.iadd, 1) := by decide +kernel
theorem dX3_hasRoomFor_9 : decode cX3_hasRoomFor 9 = .ok (.bipush 40, 2) := by decide +kernel
theorem dX3_hasRoomFor_11 : decode cX3_hasRoomFor 11 = .ok (.if_icmp .gt 7, 3) := by decide +kernel
theorem dX3_hasRoomFor_14 : decode cX3_hasRoomFor 14 = .ok (.iconst 1, 1) := by decide +kernel
theorem dX3_hasRoomFor_15 : decode cX3_hasRoomFor 15 = .ok (.goto 4, 3) := by decide +kernel
theorem dX3_hasRoomFor_18 : decode cX3_hasRoomFor 18 = .ok (.iconst 0, 1) := by decide +kernel
theorem dX3_hasRoomFor_19 : decode cX3_hasRoomFor 19 = .ok (.ireturn, 1) := by decide +kernel
theorem dX3_addMessage_0 : decode cX3_addMessage 0 = .ok (.iload_n 2, 1) := by decide +kernel
theorem dX3_addMessage_1 : decode cX3_addMessage 1 = .ok (.invokestatic 34, 3) := by decide +kernel
theorem dX3_addMessage_4 : decode cX3_addMessage 4 = .ok (.istore_n 3, 1) := by decide +kernel
theorem dX3_addMessage_5 : decode cX3_addMessage 5 = .ok (.iconst 0, 1) := by decide +kernel
theorem dX3_addMessage_6 : decode cX3_addMessage 6 = .ok (.istore 4, 2) := by decide +kernel
theorem dX3_addMessage_8 : decode cX3_addMessage 8 = .ok (.iload 4, 2) := by decide +kernel
theorem dX3_addMessage_10 : decode cX3_addMessage 10 = .ok (.iload_n 3, 1) := by decide +kernel
theorem dX3_addMessage_11 : decode cX3_addMessage 11 = .ok (.if_icmp .ge 93, 3) := by decide +kernel
theorem dX3_addMessage_14 : decode cX3_addMessage 14 = .ok (.aload_n 0, 1) := by decide +kernel
theorem dX3_addMessage_15 : decode cX3_addMessage 15 = .ok (.aload_n 0, 1) := by decide +kernel
theorem dX3_addMessage_16 : decode cX3_addMessage 16 = .ok (.getfield 18, 3) := by decide +kernel
theorem dX3_addMessage_19 : decode cX3_addMessage 19 = .ok (.invokevirtual 38, 3) := by decide +kernel
theorem dX3_addMessage_22 : decode cX3_addMessage 22 = .ok (.astore 5, 2) := by decide +kernel
theorem dX3_addMessage_24 : decode cX3_addMessage 24 = .ok (.iload 4, 2) := by decide +kernel
theorem dX3_addMessage_26 : decode cX3_addMessage 26 = .ok (.bipush 8, 2) := by decide +kernel
theorem dX3_addMessage_28 : decode cX3_addMessage 28 = .ok (.imul, 1) := by decide +kernel
theorem dX3_addMessage_29 : decode cX3_addMessage 29 = .ok (.istore 6, 2) := by decide +kernel
theorem dX3_addMessage_31 : decode cX3_addMessage 31 = .ok (.aload 5, 2) := by decide +kernel
theorem dX3_addMessage_33 : decode cX3_addMessage 33 = .ok (.bipush 8, 2) := by decide +kernel
theorem dX3_addMessage_35 : decode cX3_addMessage 35 = .ok (.iload_n 2, 1) := by decide +kernel
theorem dX3_addMessage_36 : decode cX3_addMessage 36 = .ok (.iload 6, 2) := by decide +kernel
theorem dX3_addMessage_38 : decode cX3_addMessage 38 = .ok (.isub, 1) := by decide +kernel
theorem dX3_addMessage_39 : decode cX3_addMessage 39 = .ok (.invokestatic 42, 3) := by decide +kernel
theorem dX3_addMessage_42 : decode cX3_addMessage 42 = .ok (.putfield 48, 3) := by decide +kernel
theorem dX3_addMessage_45 : decode cX3_addMessage 45 = .ok (.aload 5, 2) := by decide +kernel
theorem dX3_addMessage_47 : decode cX3_addMessage 47 = .ok (.iload 4, 2) := by decide +kernel
theorem dX3_addMessage_49 : decode cX3_addMessage 49 = .ok (.iload_n 3, 1) := by decide +kernel
theorem dX3_addMessage_50 : decode cX3_addMessage 50 = .ok (.iconst 1, 1) := by decide +kernel
theorem dX3_addMessage_51 : decode cX3_addMessage 51 = .ok (.isub, 1) := by decide +kernel
theorem dX3_addMessage_52 : decode cX3_addMessage 52 = .ok (.if_icmp .ne 7, 3) := by decide +kernel
theorem dX3_addMessage_55 : decode cX3_addMessage 55 = .ok (.iconst 1, 1) := by decide +kernel
theorem dX3_addMessage_56 : decode cX3_addMessage 56 = .ok (.goto 4, 3) := by decide +kernel
theorem dX3_addMessage_59 : decode cX3_addMessage 59 = .ok (.iconst 0, 1) := by decide +kernel
theorem dX3_addMessage_60 : decode cX3_addMessage 60 = .ok (.putfield 51, 3) := by decide +kernel
theorem dX3_addMessage_63 : decode cX3_addMessage 63 = .ok (.aload 5, 2) := by decide +kernel
theorem dX3_addMessage_65 : decode cX3_addMessage 65 = .ok (.getfield 55, 3) := by decide +kernel
theorem dX3_addMessage_68 : decode cX3_addMessage 68 = .ok (.invokevirtual 59, 3) := by decide +kernel
theorem dX3_addMessage_71 : decode cX3_addMessage 71 = .ok (.aload_n 1, 1) := by decide +kernel
theorem dX3_addMessage_72 : decode cX3_addMessage 72 = .ok (.iload 6, 2) := by decide +kernel
theorem dX3_addMessage_74 : decode cX3_addMessage 74 = .ok (.aload 5, 2) := by decide +kernel
theorem dX3_addMessage_76 : decode cX3_addMessage 76 = .ok (.getfield 64, 3) := by decide +kernel
theorem dX3_addMessage_79 : decode cX3_addMessage 79 = .ok (.iconst 0, 1) := by decide +kernel
theorem dX3_addMessage_80 : decode cX3_addMessage 80 = .ok (.aload 5, 2) := by decide +kernel
theorem dX3_addMessage_82 : decode cX3_addMessage 82 = .ok (.getfield 48, 3) := by decide +kernel
theorem dX3_addMessage_85 : decode cX3_addMessage 85 = .ok (.invokestatic 68, 3) := by decide +kernel
theorem dX3_addMessage_88 : decode cX3_addMessage 88 = .ok (.aload_n 0, 1) := by decide +kernel
theorem dX3_addMessage_89 : decode cX3_addMessage 89 = .ok (.dup, 1) := by decide +kernel
theorem dX3_addMessage_90 : decode cX3_addMessage 90 = .ok (.getfield 18, 3) := by decide +kernel
theorem dX3_addMessage_93 : decode cX3_addMessage 93 = .ok (.iconst 1, 1) := by decide +kernel
theorem dX3_addMessage_94 : decode cX3_addMessage 94 = .ok (.iadd, 1) := by decide +kernel
theorem dX3_addMessage_95 : decode cX3_addMessage 95 = .ok (.putfield 18, 3) := by decide +kernel
theorem dX3_addMessage_98 : decode cX3_addMessage 98 = .ok (.iinc 4 1, 3) := by decide +kernel
theorem dX3_addMessage_101 : decode cX3_addMessage 101 = .ok (.goto (-93), 3) := by decide +kernel
theorem dX3_addMessage_104 : decode cX3_addMessage 104 = .ok (.return_, 1) := by decide +kernel
theorem dX3_maySendNext_0 : decode cX3_maySendNext 0 = .ok (.aload_n 0, 1) := by decide +kernel
theorem dX3_maySendNext_1 : decode cX3_maySendNext 1 = .ok (.getfield 22, 3) := by decide +kernel
theorem dX3_maySendNext_4 : decode cX3_maySendNext 4 = .ok (.aload_n 0, 1) := by decide +kernel
theorem dX3_maySendNext_5 : decode cX3_maySendNext 5 = .ok (.getfield 18, 3) := by decide +kernel
theorem dX3_maySendNext_8 : decode cX3_maySendNext 8 = .ok (.if_icmp .ge 18, 3) := by decide +kernel
theorem dX3_maySendNext_11 : decode cX3_maySendNext 11 = .ok (.aload_n 0, 1) := by decide +kernel
theorem dX3_maySendNext_12 : decode cX3_maySendNext 12 = .ok (.getfield 22, 3) := by decide +kernel
theorem dX3_maySendNext_15 : decode cX3_maySendNext 15 = .ok (.aload_n 0, 1) := by decide +kernel
theorem dX3_maySendNext_16 : decode cX3_maySendNext 16 = .ok (.getfield 28, 3) := by decide +kernel
theorem dX3_maySendNext_19 : decode cX3_maySendNext 19 = .ok (.if_icmp .ge 7, 3) := by decide +kernel
theorem dX3_maySendNext_22 : decode cX3_maySendNext 22 = .ok (.iconst 1, 1) := by decide +kernel
theorem dX3_maySendNext_23 : decode cX3_maySendNext 23 = .ok (.goto 4, 3) := by decide +kernel
theorem dX3_maySendNext_26 : decode cX3_maySendNext 26 = .ok (.iconst 0, 1) := by decide +kernel
theorem dX3_maySendNext_27 : decode cX3_maySendNext 27 = .ok (.ireturn, 1) := by decide +kernel
theorem dX3_dropUnsent_0 : decode cX3_dropUnsent 0 = .ok (.aload_n 0, 1) := by decide +kernel
theorem dX3_dropUnsent_1 : decode cX3_dropUnsent 1 = .ok (.aload_n 0, 1) := by decide +kernel
theorem dX3_dropUnsent_2 : decode cX3_dropUnsent 2 = .ok (.getfield 22, 3) := by decide +kernel
theorem dX3_dropUnsent_5 : decode cX3_dropUnsent 5 = .ok (.putfield 18, 3) := by decide +kernel
theorem dX3_dropUnsent_8 : decode cX3_dropUnsent 8 = .ok (.return_, 1) := by decide +kernel
theorem dX3_readReceipt_0 : decode cX3_readReceipt 0 = .ok (.iload_n 1, 1) := by decide +kernel
theorem dX3_readReceipt_1 : decode cX3_readReceipt 1 = .ok (.aload_n 0, 1) := by decide +kernel
theorem dX3_readReceipt_2 : decode cX3_readReceipt 2 = .ok (.getfield 25, 3) := by decide +kernel
theorem dX3_readReceipt_5 : decode cX3_readReceipt 5 = .ok (.isub, 1) := by decide +kernel
theorem dX3_readReceipt_6 : decode cX3_readReceipt 6 = .ok (.bipush 127, 2) := by decide +kernel
theorem dX3_readReceipt_8 : decode cX3_readReceipt 8 = .ok (.iand, 1) := by decide +kernel
theorem dX3_readReceipt_9 : decode cX3_readReceipt 9 = .ok (.istore_n 3, 1) := by decide +kernel
theorem dX3_readReceipt_10 : decode cX3_readReceipt 10 = .ok (.iload_n 3, 1) := by decide +kernel
theorem dX3_readReceipt_11 : decode cX3_readReceipt 11 = .ok (.aload_n 0, 1) := by decide +kernel
theorem dX3_readReceipt_12 : decode cX3_readReceipt 12 = .ok (.getfield 22, 3) := by decide +kernel
theorem dX3_readReceipt_15 : decode cX3_readReceipt 15 = .ok (.if_icmp .le 4, 3) := by decide +kernel
theorem dX3_readReceipt_18 : decode cX3_readReceipt 18 = .ok (.return_, 1) := by decide +kernel
theorem dX3_readReceipt_19 : decode cX3_readReceipt 19 = .ok (.aload_n 0, 1) := by decide +kernel
theorem dX3_readReceipt_20 : decode cX3_readReceipt 20 = .ok (.aload_n 0, 1) := by decide +kernel
theorem dX3_readReceipt_21 : decode cX3_readReceipt 21 = .ok (.getfield 31, 3) := by decide +kernel
theorem dX3_readReceipt_24 : decode cX3_readReceipt 24 = .ok (.iload_n 3, 1) := by decide +kernel
theorem dX3_readReceipt_25 : decode cX3_readReceipt 25 = .ok (.iadd, 1) := by decide +kernel
theorem dX3_readReceipt_26 : decode cX3_readReceipt 26 = .ok (.bipush 40, 2) := by decide +kernel
theorem dX3_readReceipt_28 : decode cX3_readReceipt 28 = .ok (.irem, 1) := by decide +kernel
theorem dX3_readReceipt_29 : decode cX3_readReceipt 29 = .ok (.putfield 31, 3) := by decide +kernel
theorem dX3_readReceipt_32 : decode cX3_readReceipt 32 = .ok (.aload_n 0, 1) := by decide +kernel
theorem dX3_readReceipt_33 : decode cX3_readReceipt 33 = .ok (.dup, 1) := by decide +kernel
theorem dX3_readReceipt_34 : decode cX3_readReceipt 34 = .ok (.getfield 18, 3) := by decide +kernel
theorem dX3_readReceipt_37 : decode cX3_readReceipt 37 = .ok (.iload_n 3, 1) := by decide +kernel
theorem dX3_readReceipt_38 : decode cX3_readReceipt 38 = .ok (.isub, 1) := by decide +kernel
theorem dX3_readReceipt_39 : decode cX3_readReceipt 39 = .ok (.putfield 18, 3) := by decide +kernel
theorem dX3_readReceipt_42 : decode cX3_readReceipt 42 = .ok (.aload_n 0, 1) := by decide +kernel
theorem dX3_readReceipt_43 : decode cX3_readReceipt 43 = .ok (.dup, 1) := by decide +kernel
theorem dX3_readReceipt_44 : decode cX3_readReceipt 44 = .ok (.getfield 22, 3) := by decide +kernel
theorem dX3_readReceipt_47 : decode cX3_readReceipt 47 = .ok (.iload_n 3, 1) := by decide +kernel
theorem dX3_readReceipt_48 : decode cX3_readReceipt 48 = .ok (.isub, 1) := by decide +kernel
theorem dX3_readReceipt_49 : decode cX3_readReceipt 49 = .ok (.putfield 22, 3) := by decide +kernel
theorem dX3_readReceipt_52 : decode cX3_readReceipt 52 = .ok (.aload_n 0, 1) := by decide +kernel
theorem dX3_readReceipt_53 : decode cX3_readReceipt 53 = .ok (.iload_n 1, 1) := by decide +kernel
theorem dX3_readReceipt_54 : decode cX3_readReceipt 54 = .ok (.putfield 25, 3) := by decide +kernel
theorem dX3_readReceipt_57 : decode cX3_readReceipt 57 = .ok (.aload_n 0, 1) := by decide +kernel
theorem dX3_readReceipt_58 : decode cX3_readReceipt 58 = .ok (.iload_n 2, 1) := by decide +kernel
theorem dX3_readReceipt_59 : decode cX3_readReceipt 59 = .ok (.putfield 28, 3) := by decide +kernel
theorem dX3_readReceipt_62 : decode cX3_readReceipt 62 = .ok (.return_, 1) := by decide +kernel
theorem dX3_isSpent_0 : decode cX3_isSpent 0 = .ok (.iconst 0, 1) := by decide +kernel
theorem dX3_isSpent_1 : decode cX3_isSpent 1 = .ok (.istore_n 2, 1) := by decide +kernel
theorem dX3_isSpent_2 : decode cX3_isSpent 2 = .ok (.iload_n 2, 1) := by decide +kernel
theorem dX3_isSpent_3 : decode cX3_isSpent 3 = .ok (.aload_n 0, 1) := by decide +kernel
theorem dX3_isSpent_4 : decode cX3_isSpent 4 = .ok (.getfield 22, 3) := by decide +kernel
theorem dX3_isSpent_7 : decode cX3_isSpent 7 = .ok (.if_icmp .ge 26, 3) := by decide +kernel
theorem dX3_isSpent_10 : decode cX3_isSpent 10 = .ok (.aload_n 0, 1) := by decide +kernel
theorem dX3_isSpent_11 : decode cX3_isSpent 11 = .ok (.iload_n 2, 1) := by decide +kernel
theorem dX3_isSpent_12 : decode cX3_isSpent 12 = .ok (.invokevirtual 38, 3) := by decide +kernel
theorem dX3_isSpent_15 : decode cX3_isSpent 15 = .ok (.getfield 55, 3) := by decide +kernel
theorem dX3_isSpent_18 : decode cX3_isSpent 18 = .ok (.iload_n 1, 1) := by decide +kernel
theorem dX3_isSpent_19 : decode cX3_isSpent 19 = .ok (.invokevirtual 74, 3) := by decide +kernel
theorem dX3_isSpent_22 : decode cX3_isSpent 22 = .ok (.ifCond .eq 5, 3) := by decide +kernel
theorem dX3_isSpent_25 : decode cX3_isSpent 25 = .ok (.iconst 1, 1) := by decide +kernel
theorem dX3_isSpent_26 : decode cX3_isSpent 26 = .ok (.ireturn, 1) := by decide +kernel
theorem dX3_isSpent_27 : decode cX3_isSpent 27 = .ok (.iinc 2 1, 3) := by decide +kernel
theorem dX3_isSpent_30 : decode cX3_isSpent 30 = .ok (.goto (-28), 3) := by decide +kernel
theorem dX3_isSpent_33 : decode cX3_isSpent 33 = .ok (.iconst 0, 1) := by decide +kernel
theorem dX3_isSpent_34 : decode cX3_isSpent 34 = .ok (.ireturn, 1) := by decide +kernel
theorem dX4_init_0 : decode cX4_init 0 = .ok (.aload_n 0, 1) := by decide +kernel
theorem dX4_init_1 : decode cX4_init 1 = .ok (.invokespecial 3, 3) := by decide +kernel
theorem dX4_init_4 : decode cX4_init 4 = .ok (.aload_n 0, 1) := by decide +kernel
theorem dX4_init_5 : decode cX4_init 5 = .ok (.bipush 8, 2) := by decide +kernel
theorem dX4_init_7 : decode cX4_init 7 = .ok (.newarray .int, 2) := by decide +kernel
theorem dX4_init_9 : decode cX4_init 9 = .ok (.putfield 9, 3) := by decide +kernel
theorem dX4_init_12 : decode cX4_init 12 = .ok (.aload_n 0, 1) := by decide +kernel
theorem dX4_init_13 : decode cX4_init 13 = .ok (.new 15, 3) := by decide +kernel
theorem dX4_init_16 : decode cX4_init 16 = .ok (.dup, 1) := by decide +kernel
theorem dX4_init_17 : decode cX4_init 17 = .ok (.invokespecial 17, 3) := by decide +kernel
theorem dX4_init_20 : decode cX4_init 20 = .ok (.putfield 18, 3) := by decide +kernel
theorem dX4_init_23 : decode cX4_init 23 = .ok (.return_, 1) := by decide +kernel
theorem dX5_init_0 : decode cX5_init 0 = .ok (.aload_n 0, 1) := by decide +kernel
theorem dX5_init_1 : decode cX5_init 1 = .ok (.invokespecial 3, 3) := by decide +kernel
theorem dX5_init_4 : decode cX5_init 4 = .ok (.aload_n 0, 1) := by decide +kernel
theorem dX5_init_5 : decode cX5_init 5 = .ok (.bipush 17, 2) := by decide +kernel
theorem dX5_init_7 : decode cX5_init 7 = .ok (.newarray .int, 2) := by decide +kernel
theorem dX5_init_9 : decode cX5_init 9 = .ok (.putfield 9, 3) := by decide +kernel
theorem dX5_init_12 : decode cX5_init 12 = .ok (.return_, 1) := by decide +kernel
theorem dX5_writeLink_0 : decode cX5_writeLink 0 = .ok (.aload_n 0, 1) := by decide +kernel
theorem dX5_writeLink_1 : decode cX5_writeLink 1 = .ok (.getfield 9, 3) := by decide +kernel
theorem dX5_writeLink_4 : decode cX5_writeLink 4 = .ok (.iconst 4, 1) := by decide +kernel
theorem dX5_writeLink_5 : decode cX5_writeLink 5 = .ok (.iload_n 3, 1) := by decide +kernel
theorem dX5_writeLink_6 : decode cX5_writeLink 6 = .ok (.bipush 8, 2) := by decide +kernel
theorem dX5_writeLink_8 : decode cX5_writeLink 8 = .ok (.ishr, 1) := by decide +kernel
theorem dX5_writeLink_9 : decode cX5_writeLink 9 = .ok (.iastore, 1) := by decide +kernel
theorem dX5_writeLink_10 : decode cX5_writeLink 10 = .ok (.aload_n 0, 1) := by decide +kernel
theorem dX5_writeLink_11 : decode cX5_writeLink 11 = .ok (.getfield 9, 3) := by decide +kernel
theorem dX5_writeLink_14 : decode cX5_writeLink 14 = .ok (.iconst 5, 1) := by decide +kernel
theorem dX5_writeLink_15 : decode cX5_writeLink 15 = .ok (.iload_n 3, 1) := by decide +kernel
theorem dX5_writeLink_16 : decode cX5_writeLink 16 = .ok (.sipush 255, 3) := by decide +kernel
theorem dX5_writeLink_19 : decode cX5_writeLink 19 = .ok (.iand, 1) := by decide +kernel
theorem dX5_writeLink_20 : decode cX5_writeLink 20 = .ok (.iastore, 1) := by decide +kernel
theorem dX5_writeLink_21 : decode cX5_writeLink 21 = .ok (.iload_n 1, 1) := by decide +kernel
theorem dX5_writeLink_22 : decode cX5_writeLink 22 = .ok (.sipush 192, 3) := by decide +kernel
theorem dX5_writeLink_25 : decode cX5_writeLink 25 = .ok (.if_icmp .ne 14, 3) := by decide +kernel
theorem dX5_writeLink_28 : decode cX5_writeLink 28 = .ok (.aload_n 0, 1) := by decide +kernel
theorem dX5_writeLink_29 : decode cX5_writeLink 29 = .ok (.iload_n 1, 1) := by decide +kernel
theorem dX5_writeLink_30 : decode cX5_writeLink 30 = .ok (.iload_n 2, 1) := by decide +kernel
theorem dX5_writeLink_31 : decode cX5_writeLink 31 = .ok (.bipush 6, 2) := by decide +kernel
theorem dX5_writeLink_33 : decode cX5_writeLink 33 = .ok (.invokevirtual 15, 3) := by decide +kernel
theorem dX5_writeLink_36 : decode cX5_writeLink 36 = .ok (.goto 20, 3) := by decide +kernel
theorem dX5_writeLink_39 : decode cX5_writeLink 39 = .ok (.aload_n 0, 1) := by decide +kernel
theorem dX5_writeLink_40 : decode cX5_writeLink 40 = .ok (.getfield 9, 3) := by decide +kernel
theorem dX5_writeLink_43 : decode cX5_writeLink 43 = .ok (.bipush 6, 2) := by decide +kernel
theorem dX5_writeLink_45 : decode cX5_writeLink 45 = .ok (.iload 4, 2) := by decide +kernel
theorem dX5_writeLink_47 : decode cX5_writeLink 47 = .ok (.iastore, 1) := by decide +kernel
theorem dX5_writeLink_48 : decode cX5_writeLink 48 = .ok (.aload_n 0, 1) := by decide +kernel
theorem dX5_writeLink_49 : decode cX5_writeLink 49 = .ok (.iload_n 1, 1) := by decide +kernel
theorem dX5_writeLink_50 : decode cX5_writeLink 50 = .ok (.iload_n 2, 1) := by decide +kernel
theorem dX5_writeLink_51 : decode cX5_writeLink 51 = .ok (.bipush 7, 2) := by decide +kernel
theorem dX5_writeLink_53 : decode cX5_writeLink 53 = .ok (.invokevirtual 15, 3) := by decide +kernel
theorem dX5_writeLink_56 : decode cX5_writeLink 56 = .ok (.return_, 1) := by decide +kernel
theorem dX5_writeNumbered_0 : decode cX5_writeNumbered 0 = .ok (.aload_n 0, 1) := by decide +kernel
theorem dX5_writeNumbered_1 : decode cX5_writeNumbered 1 = .ok (.getfield 9, 3) := by decide +kernel
theorem dX5_writeNumbered_4 : decode cX5_writeNumbered 4 = .ok (.iconst 4, 1) := by decide +kernel
theorem dX5_writeNumbered_5 : decode cX5_writeNumbered 5 = .ok (.iload_n 3, 1) := by decide +kernel
theorem dX5_writeNumbered_6 : decode cX5_writeNumbered 6 = .ok (.iastore, 1) := by decide +kernel
theorem dX5_writeNumbered_7 : decode cX5_writeNumbered 7 = .ok (.aload_n 0, 1) := by decide +kernel
theorem dX5_writeNumbered_8 : decode cX5_writeNumbered 8 = .ok (.iload_n 1, 1) := by decide +kernel
theorem dX5_writeNumbered_9 : decode cX5_writeNumbered 9 = .ok (.iload_n 2, 1) := by decide +kernel
theorem dX5_writeNumbered_10 : decode cX5_writeNumbered 10 = .ok (.iconst 5, 1) := by decide +kernel
theorem dX5_writeNumbered_11 : decode cX5_writeNumbered 11 = .ok (.invokevirtual 15, 3) := by decide +kernel
theorem dX5_writeNumbered_14 : decode cX5_writeNumbered 14 = .ok (.return_, 1) := by decide +kernel
theorem dX5_writeHead_0 : decode cX5_writeHead 0 = .ok (.aload_n 0, 1) := by decide +kernel
theorem dX5_writeHead_1 : decode cX5_writeHead 1 = .ok (.getfield 9, 3) := by decide +kernel
theorem dX5_writeHead_4 : decode cX5_writeHead 4 = .ok (.iconst 0, 1) := by decide +kernel
theorem dX5_writeHead_5 : decode cX5_writeHead 5 = .ok (.iload_n 3, 1) := by decide +kernel
theorem dX5_writeHead_6 : decode cX5_writeHead 6 = .ok (.iconst 3, 1) := by decide +kernel
theorem dX5_writeHead_7 : decode cX5_writeHead 7 = .ok (.iadd, 1) := by decide +kernel
theorem dX5_writeHead_8 : decode cX5_writeHead 8 = .ok (.iastore, 1) := by decide +kernel
theorem dX5_writeHead_9 : decode cX5_writeHead 9 = .ok (.aload_n 0, 1) := by decide +kernel
theorem dX5_writeHead_10 : decode cX5_writeHead 10 = .ok (.getfield 9, 3) := by decide +kernel
theorem dX5_writeHead_13 : decode cX5_writeHead 13 = .ok (.iconst 1, 1) := by decide +kernel
theorem dX5_writeHead_14 : decode cX5_writeHead 14 = .ok (.iload_n 1, 1) := by decide +kernel
theorem dX5_writeHead_15 : decode cX5_writeHead 15 = .ok (.iastore, 1) := by decide +kernel
theorem dX5_writeHead_16 : decode cX5_writeHead 16 = .ok (.aload_n 0, 1) := by decide +kernel
theorem dX5_writeHead_17 : decode cX5_writeHead 17 = .ok (.getfield 9, 3) := by decide +kernel
theorem dX5_writeHead_20 : decode cX5_writeHead 20 = .ok (.iconst 2, 1) := by decide +kernel
theorem dX5_writeHead_21 : decode cX5_writeHead 21 = .ok (.iload_n 2, 1) := by decide +kernel
theorem dX5_writeHead_22 : decode cX5_writeHead 22 = .ok (.bipush 8, 2) := by decide +kernel
theorem dX5_writeHead_24 : decode cX5_writeHead 24 = .ok (.ishr, 1) := by decide +kernel
theorem dX5_writeHead_25 : decode cX5_writeHead 25 = .ok (.iastore, 1) := by decide +kernel
theorem dX5_writeHead_26 : decode cX5_writeHead 26 = .ok (.aload_n 0, 1) := by decide +kernel
theorem dX5_writeHead_27 : decode cX5_writeHead 27 = .ok (.getfield 9, 3) := by decide +kernel
theorem dX5_writeHead_30 : decode cX5_writeHead 30 = .ok (.iconst 3, 1) := by decide +kernel
theorem dX5_writeHead_31 : decode cX5_writeHead 31 = .ok (.iload_n 2, 1) := by decide +kernel
theorem dX5_writeHead_32 : decode cX5_writeHead 32 = .ok (.sipush 255, 3) := by decide +kernel
theorem dX5_writeHead_35 : decode cX5_writeHead 35 = .ok (.iand, 1) := by decide +kernel
theorem dX5_writeHead_36 : decode cX5_writeHead 36 = .ok (.iastore, 1) := by decide +kernel
theorem dX5_writeHead_37 : decode cX5_writeHead 37 = .ok (.aload_n 0, 1) := by decide +kernel
theorem dX5_writeHead_38 : decode cX5_writeHead 38 = .ok (.getfield 9, 3) := by decide +kernel
theorem dX5_writeHead_41 : decode cX5_writeHead 41 = .ok (.iload_n 3, 1) := by decide +kernel
theorem dX5_writeHead_42 : decode cX5_writeHead 42 = .ok (.sipush 195, 3) := by decide +kernel
theorem dX5_writeHead_45 : decode cX5_writeHead 45 = .ok (.iastore, 1) := by decide +kernel
theorem dX5_writeHead_46 : decode cX5_writeHead 46 = .ok (.aload_n 0, 1) := by decide +kernel
theorem dX5_writeHead_47 : decode cX5_writeHead 47 = .ok (.getfield 9, 3) := by decide +kernel
theorem dX5_writeHead_50 : decode cX5_writeHead 50 = .ok (.iload_n 3, 1) := by decide +kernel
theorem dX5_writeHead_51 : decode cX5_writeHead 51 = .ok (.iconst 1, 1) := by decide +kernel
theorem dX5_writeHead_52 : decode cX5_writeHead 52 = .ok (.iadd, 1) := by decide +kernel
theorem dX5_writeHead_53 : decode cX5_writeHead 53 = .ok (.iconst 2, 1) := by decide +kernel
theorem dX5_writeHead_54 : decode cX5_writeHead 54 = .ok (.iastore, 1) := by decide +kernel
theorem dX5_writeHead_55 : decode cX5_writeHead 55 = .ok (.aload_n 0, 1) := by decide +kernel
theorem dX5_writeHead_56 : decode cX5_writeHead 56 = .ok (.getfield 9, 3) := by decide +kernel
theorem dX5_writeHead_59 : decode cX5_writeHead 59 = .ok (.iload_n 3, 1) := by decide +kernel
theorem dX5_writeHead_60 : decode cX5_writeHead 60 = .ok (.iconst 2, 1) := by decide +kernel
theorem dX5_writeHead_61 : decode cX5_writeHead 61 = .ok (.iadd, 1) := by decide +kernel
theorem dX5_writeHead_62 : decode cX5_writeHead 62 = .ok (.iconst 0, 1) := by decide +kernel
theorem dX5_writeHead_63 : decode cX5_writeHead 63 = .ok (.iastore, 1) := by decide +kernel
theorem dX5_writeHead_64 : decode cX5_writeHead 64 = .ok (.aload_n 0, 1) := by decide +kernel
theorem dX5_writeHead_65 : decode cX5_writeHead 65 = .ok (.getfield 9, 3) := by decide +kernel
theorem dX5_writeHead_68 : decode cX5_writeHead 68 = .ok (.iload_n 3, 1) := by decide +kernel
theorem dX5_writeHead_69 : decode cX5_writeHead 69 = .ok (.iconst 3, 1) := by decide +kernel
theorem dX5_writeHead_70 : decode cX5_writeHead 70 = .ok (.iadd, 1) := by decide +kernel
theorem dX5_writeHead_71 : decode cX5_writeHead 71 = .ok (.iconst 0, 1) := by decide +kernel
theorem dX5_writeHead_72 : decode cX5_writeHead 72 = .ok (.iastore, 1) := by decide +kernel
theorem dX5_writeHead_73 : decode cX5_writeHead 73 = .ok (.aload_n 0, 1) := by decide +kernel
theorem dX5_writeHead_74 : decode cX5_writeHead 74 = .ok (.iload_n 3, 1) := by decide +kernel
theorem dX5_writeHead_75 : decode cX5_writeHead 75 = .ok (.iconst 4, 1) := by decide +kernel
theorem dX5_writeHead_76 : decode cX5_writeHead 76 = .ok (.iadd, 1) := by decide +kernel
theorem dX5_writeHead_77 : decode cX5_writeHead 77 = .ok (.putfield 19, 3) := by decide +kernel
theorem dX5_writeHead_80 : decode cX5_writeHead 80 = .ok (.return_, 1) := by decide +kernel
theorem dX5_add_0 : decode cX5_add 0 = .ok (.aload_n 0, 1) := by decide +kernel
theorem dX5_add_1 : decode cX5_add 1 = .ok (.getfield 19, 3) := by decide +kernel
theorem dX5_add_4 : decode cX5_add 4 = .ok (.bipush 17, 2) := by decide +kernel
theorem dX5_add_6 : decode cX5_add 6 = .ok (.if_icmp .ge 23, 3) := by decide +kernel
theorem dX5_add_9 : decode cX5_add 9 = .ok (.aload_n 0, 1) := by decide +kernel
theorem dX5_add_10 : decode cX5_add 10 = .ok (.getfield 9, 3) := by decide +kernel
theorem dX5_add_13 : decode cX5_add 13 = .ok (.aload_n 0, 1) := by decide +kernel
theorem dX5_add_14 : decode cX5_add 14 = .ok (.getfield 19, 3) := by decide +kernel
theorem dX5_add_17 : decode cX5_add 17 = .ok (.iload_n 1, 1) := by decide +kernel
theorem dX5_add_18 : decode cX5_add 18 = .ok (.iastore, 1) := by decide +kernel
theorem dX5_add_19 : decode cX5_add 19 = .ok (.aload_n 0, 1) := by decide +kernel
theorem dX5_add_20 : decode cX5_add 20 = .ok (.dup, 1) := by decide +kernel
theorem dX5_add_21 : decode cX5_add 21 = .ok (.getfield 19, 3) := by decide +kernel
theorem dX5_add_24 : decode cX5_add 24 = .ok (.iconst 1, 1) := by decide +kernel
theorem dX5_add_25 : decode cX5_add 25 = .ok (.iadd, 1) := by decide +kernel
theorem dX5_add_26 : decode cX5_add 26 = .ok (.putfield 19, 3) := by decide +kernel
theorem dX5_add_29 : decode cX5_add 29 = .ok (.return_, 1) := by decide +kernel
theorem dX5_plainSum_0 : decode cX5_plainSum 0 = .ok (.iconst 0, 1) := by decide +kernel
theorem dX5_plainSum_1 : decode cX5_plainSum 1 = .ok (.istore_n 1, 1) := by decide +kernel
theorem dX5_plainSum_2 : decode cX5_plainSum 2 = .ok (.iconst 0, 1) := by decide +kernel
theorem dX5_plainSum_3 : decode cX5_plainSum 3 = .ok (.istore_n 2, 1) := by decide +kernel
theorem dX5_plainSum_4 : decode cX5_plainSum 4 = .ok (.iload_n 2, 1) := by decide +kernel
theorem dX5_plainSum_5 : decode cX5_plainSum 5 = .ok (.aload_n 0, 1) := by decide +kernel
theorem dX5_plainSum_6 : decode cX5_plainSum 6 = .ok (.getfield 19, 3) := by decide +kernel
theorem dX5_plainSum_9 : decode cX5_plainSum 9 = .ok (.if_icmp .ge 18, 3) := by decide +kernel
theorem dX5_plainSum_12 : decode cX5_plainSum 12 = .ok (.iload_n 1, 1) := by decide +kernel
theorem dX5_plainSum_13 : decode cX5_plainSum 13 = .ok (.aload_n 0, 1) := by decide +kernel
theorem dX5_plainSum_14 : decode cX5_plainSum 14 = .ok (.getfield 9, 3) := by decide +kernel
theorem dX5_plainSum_17 : decode cX5_plainSum 17 = .ok (.iload_n 2, 1) := by decide +kernel
theorem dX5_plainSum_18 : decode cX5_plainSum 18 = .ok (.iaload, 1) := by decide +kernel
theorem dX5_plainSum_19 : decode cX5_plainSum 19 = .ok (.iadd, 1) := by decide +kernel
theorem dX5_plainSum_20 : decode cX5_plainSum 20 = .ok (.istore_n 1, 1) := by decide +kernel
theorem dX5_plainSum_21 : decode cX5_plainSum 21 = .ok (.iinc 2 1, 3) := by decide +kernel
