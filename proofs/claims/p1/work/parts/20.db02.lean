theorem dX0_tell_133 : decode cX0_tell 133 = .ok (.aload_n 0, 1) := by decide +kernel
theorem dX0_tell_134 : decode cX0_tell 134 = .ok (.getfield 46, 3) := by decide +kernel
theorem dX0_tell_137 : decode cX0_tell 137 = .ok (.ireturn, 1) := by decide +kernel
theorem dX0_tell_138 : decode cX0_tell 138 = .ok (.iconst (-1), 1) := by decide +kernel
theorem dX0_tell_139 : decode cX0_tell 139 = .ok (.ireturn, 1) := by decide +kernel
theorem dX0_hasConnection_0 : decode cX0_hasConnection 0 = .ok (.aload_n 0, 1) := by decide +kernel
theorem dX0_hasConnection_1 : decode cX0_hasConnection 1 = .ok (.getfield 57, 3) := by decide +kernel
theorem dX0_hasConnection_4 : decode cX0_hasConnection 4 = .ok (.iconst 1, 1) := by decide +kernel
theorem dX0_hasConnection_5 : decode cX0_hasConnection 5 = .ok (.if_icmp .eq 19, 3) := by decide +kernel
theorem dX0_hasConnection_8 : decode cX0_hasConnection 8 = .ok (.aload_n 0, 1) := by decide +kernel
theorem dX0_hasConnection_9 : decode cX0_hasConnection 9 = .ok (.getfield 57, 3) := by decide +kernel
theorem dX0_hasConnection_12 : decode cX0_hasConnection 12 = .ok (.iconst 2, 1) := by decide +kernel
theorem dX0_hasConnection_13 : decode cX0_hasConnection 13 = .ok (.if_icmp .eq 11, 3) := by decide +kernel
theorem dX0_hasConnection_16 : decode cX0_hasConnection 16 = .ok (.aload_n 0, 1) := by decide +kernel
theorem dX0_hasConnection_17 : decode cX0_hasConnection 17 = .ok (.getfield 57, 3) := by decide +kernel
theorem dX0_hasConnection_20 : decode cX0_hasConnection 20 = .ok (.iconst 3, 1) := by decide +kernel
theorem dX0_hasConnection_21 : decode cX0_hasConnection 21 = .ok (.if_icmp .ne 7, 3) := by decide +kernel
theorem dX0_hasConnection_24 : decode cX0_hasConnection 24 = .ok (.iconst 1, 1) := by decide +kernel
theorem dX0_hasConnection_25 : decode cX0_hasConnection 25 = .ok (.goto 4, 3) := by decide +kernel
theorem dX0_hasConnection_28 : decode cX0_hasConnection 28 = .ok (.iconst 0, 1) := by decide +kernel
theorem dX0_hasConnection_29 : decode cX0_hasConnection 29 = .ok (.ireturn, 1) := by decide +kernel
theorem dX0_passTick_0 : decode cX0_passTick 0 = .ok (.aload_n 0, 1) := by decide +kernel
theorem dX0_passTick_1 : decode cX0_passTick 1 = .ok (.invokevirtual 164, 3) := by decide +kernel
theorem dX0_passTick_4 : decode cX0_passTick 4 = .ok (.ifCond .eq 58, 3) := by decide +kernel
theorem dX0_passTick_7 : decode cX0_passTick 7 = .ok (.aload_n 0, 1) := by decide +kernel
theorem dX0_passTick_8 : decode cX0_passTick 8 = .ok (.invokevirtual 222, 3) := by decide +kernel
theorem dX0_passTick_11 : decode cX0_passTick 11 = .ok (.aload_n 0, 1) := by decide +kernel
theorem dX0_passTick_12 : decode cX0_passTick 12 = .ok (.invokevirtual 225, 3) := by decide +kernel
theorem dX0_passTick_15 : decode cX0_passTick 15 = .ok (.ifCond .eq 10, 3) := by decide +kernel
theorem dX0_passTick_18 : decode cX0_passTick 18 = .ok (.aload_n 0, 1) := by decide +kernel
theorem dX0_passTick_19 : decode cX0_passTick 19 = .ok (.invokevirtual 228, 3) := by decide +kernel
theorem dX0_passTick_22 : decode cX0_passTick 22 = .ok (.goto 40, 3) := by decide +kernel
theorem dX0_passTick_25 : decode cX0_passTick 25 = .ok (.aload_n 0, 1) := by decide +kernel
theorem dX0_passTick_26 : decode cX0_passTick 26 = .ok (.getfield 57, 3) := by decide +kernel
theorem dX0_passTick_29 : decode cX0_passTick 29 = .ok (.iconst 2, 1) := by decide +kernel
theorem dX0_passTick_30 : decode cX0_passTick 30 = .ok (.if_icmp .ne 32, 3) := by decide +kernel
theorem dX0_passTick_33 : decode cX0_passTick 33 = .ok (.aload_n 0, 1) := by decide +kernel
theorem dX0_passTick_34 : decode cX0_passTick 34 = .ok (.getfield 53, 3) := by decide +kernel
theorem dX0_passTick_37 : decode cX0_passTick 37 = .ok (.getfield 88, 3) := by decide +kernel
theorem dX0_passTick_40 : decode cX0_passTick 40 = .ok (.aload_n 0, 1) := by decide +kernel
theorem dX0_passTick_41 : decode cX0_passTick 41 = .ok (.getfield 53, 3) := by decide +kernel
theorem dX0_passTick_44 : decode cX0_passTick 44 = .ok (.getfield 231, 3) := by decide +kernel
theorem dX0_passTick_47 : decode cX0_passTick 47 = .ok (.aload_n 0, 1) := by decide +kernel
theorem dX0_passTick_48 : decode cX0_passTick 48 = .ok (.getfield 50, 3) := by decide +kernel
theorem dX0_passTick_51 : decode cX0_passTick 51 = .ok (.iaload, 1) := by decide +kernel
theorem dX0_passTick_52 : decode cX0_passTick 52 = .ok (.isub, 1) := by decide +kernel
theorem dX0_passTick_53 : decode cX0_passTick 53 = .ok (.bipush 20, 2) := by decide +kernel
theorem dX0_passTick_55 : decode cX0_passTick 55 = .ok (.if_icmp .lt 7, 3) := by decide +kernel
theorem dX0_passTick_58 : decode cX0_passTick 58 = .ok (.aload_n 0, 1) := by decide +kernel
theorem dX0_passTick_59 : decode cX0_passTick 59 = .ok (.invokevirtual 131, 3) := by decide +kernel
theorem dX0_passTick_62 : decode cX0_passTick 62 = .ok (.aload_n 0, 1) := by decide +kernel
theorem dX0_passTick_63 : decode cX0_passTick 63 = .ok (.getfield 57, 3) := by decide +kernel
theorem dX0_passTick_66 : decode cX0_passTick 66 = .ok (.iconst 4, 1) := by decide +kernel
theorem dX0_passTick_67 : decode cX0_passTick 67 = .ok (.if_icmp .ne 25, 3) := by decide +kernel
theorem dX0_passTick_70 : decode cX0_passTick 70 = .ok (.aload_n 0, 1) := by decide +kernel
theorem dX0_passTick_71 : decode cX0_passTick 71 = .ok (.getfield 53, 3) := by decide +kernel
theorem dX0_passTick_74 : decode cX0_passTick 74 = .ok (.getfield 88, 3) := by decide +kernel
theorem dX0_passTick_77 : decode cX0_passTick 77 = .ok (.aload_n 0, 1) := by decide +kernel
theorem dX0_passTick_78 : decode cX0_passTick 78 = .ok (.getfield 152, 3) := by decide +kernel
theorem dX0_passTick_81 : decode cX0_passTick 81 = .ok (.isub, 1) := by decide +kernel
theorem dX0_passTick_82 : decode cX0_passTick 82 = .ok (.bipush 12, 2) := by decide +kernel
theorem dX0_passTick_84 : decode cX0_passTick 84 = .ok (.if_icmp .lt 8, 3) := by decide +kernel
theorem dX0_passTick_87 : decode cX0_passTick 87 = .ok (.aload_n 0, 1) := by decide +kernel
theorem dX0_passTick_88 : decode cX0_passTick 88 = .ok (.iconst 0, 1) := by decide +kernel
theorem dX0_passTick_89 : decode cX0_passTick 89 = .ok (.putfield 57, 3) := by decide +kernel
theorem dX0_passTick_92 : decode cX0_passTick 92 = .ok (.return_, 1) := by decide +kernel
theorem dX0_awaitLink_0 : decode cX0_awaitLink 0 = .ok (.aload_n 0, 1) := by decide +kernel
theorem dX0_awaitLink_1 : decode cX0_awaitLink 1 = .ok (.iload_n 1, 1) := by decide +kernel
theorem dX0_awaitLink_2 : decode cX0_awaitLink 2 = .ok (.putfield 257, 3) := by decide +kernel
theorem dX0_awaitLink_5 : decode cX0_awaitLink 5 = .ok (.aload_n 0, 1) := by decide +kernel
theorem dX0_awaitLink_6 : decode cX0_awaitLink 6 = .ok (.getfield 42, 3) := by decide +kernel
theorem dX0_awaitLink_9 : decode cX0_awaitLink 9 = .ok (.invokevirtual 260, 3) := by decide +kernel
theorem dX0_awaitLink_12 : decode cX0_awaitLink 12 = .ok (.return_, 1) := by decide +kernel
theorem dX0_sendAwaitedLink_0 : decode cX0_sendAwaitedLink 0 = .ok (.aload_n 0, 1) := by decide +kernel
theorem dX0_sendAwaitedLink_1 : decode cX0_sendAwaitedLink 1 = .ok (.getfield 42, 3) := by decide +kernel
theorem dX0_sendAwaitedLink_4 : decode cX0_sendAwaitedLink 4 = .ok (.aload_n 0, 1) := by decide +kernel
theorem dX0_sendAwaitedLink_5 : decode cX0_sendAwaitedLink 5 = .ok (.getfield 53, 3) := by decide +kernel
theorem dX0_sendAwaitedLink_8 : decode cX0_sendAwaitedLink 8 = .ok (.getfield 88, 3) := by decide +kernel
theorem dX0_sendAwaitedLink_11 : decode cX0_sendAwaitedLink 11 = .ok (.invokevirtual 261, 3) := by decide +kernel
theorem dX0_sendAwaitedLink_14 : decode cX0_sendAwaitedLink 14 = .ok (.aload_n 0, 1) := by decide +kernel
theorem dX0_sendAwaitedLink_15 : decode cX0_sendAwaitedLink 15 = .ok (.aload_n 0, 1) := by decide +kernel
theorem dX0_sendAwaitedLink_16 : decode cX0_sendAwaitedLink 16 = .ok (.getfield 257, 3) := by decide +kernel
theorem dX0_sendAwaitedLink_19 : decode cX0_sendAwaitedLink 19 = .ok (.aload_n 0, 1) := by decide +kernel
theorem dX0_sendAwaitedLink_20 : decode cX0_sendAwaitedLink 20 = .ok (.getfield 81, 3) := by decide +kernel
theorem dX0_sendAwaitedLink_23 : decode cX0_sendAwaitedLink 23 = .ok (.aload_n 0, 1) := by decide +kernel
theorem dX0_sendAwaitedLink_24 : decode cX0_sendAwaitedLink 24 = .ok (.getfield 71, 3) := by decide +kernel
theorem dX0_sendAwaitedLink_27 : decode cX0_sendAwaitedLink 27 = .ok (.aload_n 0, 1) := by decide +kernel
theorem dX0_sendAwaitedLink_28 : decode cX0_sendAwaitedLink 28 = .ok (.getfield 257, 3) := by decide +kernel
theorem dX0_sendAwaitedLink_31 : decode cX0_sendAwaitedLink 31 = .ok (.sipush 128, 3) := by decide +kernel
theorem dX0_sendAwaitedLink_34 : decode cX0_sendAwaitedLink 34 = .ok (.if_icmp .ne 7, 3) := by decide +kernel
theorem dX0_sendAwaitedLink_37 : decode cX0_sendAwaitedLink 37 = .ok (.iconst 0, 1) := by decide +kernel
theorem dX0_sendAwaitedLink_38 : decode cX0_sendAwaitedLink 38 = .ok (.goto 5, 3) := by decide +kernel
theorem dX0_sendAwaitedLink_41 : decode cX0_sendAwaitedLink 41 = .ok (.bipush 64, 2) := by decide +kernel
theorem dX0_sendAwaitedLink_43 : decode cX0_sendAwaitedLink 43 = .ok (.invokevirtual 181, 3) := by decide +kernel
theorem dX0_sendAwaitedLink_46 : decode cX0_sendAwaitedLink 46 = .ok (.return_, 1) := by decide +kernel
theorem dX0_sendLink_0 : decode cX0_sendLink 0 = .ok (.aload_n 0, 1) := by decide +kernel
theorem dX0_sendLink_1 : decode cX0_sendLink 1 = .ok (.getfield 53, 3) := by decide +kernel
theorem dX0_sendLink_4 : decode cX0_sendLink 4 = .ok (.invokevirtual 264, 3) := by decide +kernel
theorem dX0_sendLink_7 : decode cX0_sendLink 7 = .ok (.iload_n 1, 1) := by decide +kernel
theorem dX0_sendLink_8 : decode cX0_sendLink 8 = .ok (.iload_n 2, 1) := by decide +kernel
theorem dX0_sendLink_9 : decode cX0_sendLink 9 = .ok (.iload_n 3, 1) := by decide +kernel
theorem dX0_sendLink_10 : decode cX0_sendLink 10 = .ok (.iload 4, 2) := by decide +kernel
theorem dX0_sendLink_12 : decode cX0_sendLink 12 = .ok (.invokevirtual 268, 3) := by decide +kernel
theorem dX0_sendLink_15 : decode cX0_sendLink 15 = .ok (.aload_n 0, 1) := by decide +kernel
theorem dX0_sendLink_16 : decode cX0_sendLink 16 = .ok (.getfield 53, 3) := by decide +kernel
theorem dX0_sendLink_19 : decode cX0_sendLink 19 = .ok (.aload_n 0, 1) := by decide +kernel
theorem dX0_sendLink_20 : decode cX0_sendLink 20 = .ok (.getfield 50, 3) := by decide +kernel
theorem dX0_sendLink_23 : decode cX0_sendLink 23 = .ok (.invokevirtual 271, 3) := by decide +kernel
theorem dX0_sendLink_26 : decode cX0_sendLink 26 = .ok (.return_, 1) := by decide +kernel
