theorem dX10_init_482 : decode cX10_init 482 = .ok (.return_, 1) := by decide +kernel
theorem dX10_isEnd_0 : decode cX10_isEnd 0 = .ok (.iload_n 0, 1) := by decide +kernel
theorem dX10_isEnd_1 : decode cX10_isEnd 1 = .ok (.ifCond .eq 8, 3) := by decide +kernel
theorem dX10_isEnd_4 : decode cX10_isEnd 4 = .ok (.iload_n 0, 1) := by decide +kernel
theorem dX10_isEnd_5 : decode cX10_isEnd 5 = .ok (.iconst 1, 1) := by decide +kernel
theorem dX10_isEnd_6 : decode cX10_isEnd 6 = .ok (.if_icmp .ne 7, 3) := by decide +kernel
theorem dX10_isEnd_9 : decode cX10_isEnd 9 = .ok (.iconst 1, 1) := by decide +kernel
theorem dX10_isEnd_10 : decode cX10_isEnd 10 = .ok (.goto 4, 3) := by decide +kernel
theorem dX10_isEnd_13 : decode cX10_isEnd 13 = .ok (.iconst 0, 1) := by decide +kernel
theorem dX10_isEnd_14 : decode cX10_isEnd 14 = .ok (.ireturn, 1) := by decide +kernel
theorem dX10_mod_0 : decode cX10_mod 0 = .ok (.iload_n 0, 1) := by decide +kernel
theorem dX10_mod_1 : decode cX10_mod 1 = .ok (.bipush 127, 2) := by decide +kernel
theorem dX10_mod_3 : decode cX10_mod 3 = .ok (.iand, 1) := by decide +kernel
theorem dX10_mod_4 : decode cX10_mod 4 = .ok (.ireturn, 1) := by decide +kernel
theorem dX10_begin_0 : decode cX10_begin 0 = .ok (.aload_n 0, 1) := by decide +kernel
theorem dX10_begin_1 : decode cX10_begin 1 = .ok (.iconst 1, 1) := by decide +kernel
theorem dX10_begin_2 : decode cX10_begin 2 = .ok (.putfield 183, 3) := by decide +kernel
theorem dX10_begin_5 : decode cX10_begin 5 = .ok (.aload_n 0, 1) := by decide +kernel
theorem dX10_begin_6 : decode cX10_begin 6 = .ok (.iload_n 1, 1) := by decide +kernel
theorem dX10_begin_7 : decode cX10_begin 7 = .ok (.invokevirtual 187, 3) := by decide +kernel
theorem dX10_begin_10 : decode cX10_begin 10 = .ok (.aload_n 0, 1) := by decide +kernel
theorem dX10_begin_11 : decode cX10_begin 11 = .ok (.iload_n 2, 1) := by decide +kernel
theorem dX10_begin_12 : decode cX10_begin 12 = .ok (.sipush 256, 3) := by decide +kernel
theorem dX10_begin_15 : decode cX10_begin 15 = .ok (.idiv, 1) := by decide +kernel
theorem dX10_begin_16 : decode cX10_begin 16 = .ok (.invokevirtual 187, 3) := by decide +kernel
theorem dX10_begin_19 : decode cX10_begin 19 = .ok (.aload_n 0, 1) := by decide +kernel
theorem dX10_begin_20 : decode cX10_begin 20 = .ok (.iload_n 2, 1) := by decide +kernel
theorem dX10_begin_21 : decode cX10_begin 21 = .ok (.sipush 256, 3) := by decide +kernel
theorem dX10_begin_24 : decode cX10_begin 24 = .ok (.irem, 1) := by decide +kernel
theorem dX10_begin_25 : decode cX10_begin 25 = .ok (.invokevirtual 187, 3) := by decide +kernel
theorem dX10_begin_28 : decode cX10_begin 28 = .ok (.return_, 1) := by decide +kernel
theorem dX10_push_0 : decode cX10_push 0 = .ok (.aload_n 0, 1) := by decide +kernel
theorem dX10_push_1 : decode cX10_push 1 = .ok (.getfield 180, 3) := by decide +kernel
theorem dX10_push_4 : decode cX10_push 4 = .ok (.aload_n 0, 1) := by decide +kernel
theorem dX10_push_5 : decode cX10_push 5 = .ok (.getfield 183, 3) := by decide +kernel
theorem dX10_push_8 : decode cX10_push 8 = .ok (.iload_n 1, 1) := by decide +kernel
theorem dX10_push_9 : decode cX10_push 9 = .ok (.iastore, 1) := by decide +kernel
theorem dX10_push_10 : decode cX10_push 10 = .ok (.aload_n 0, 1) := by decide +kernel
theorem dX10_push_11 : decode cX10_push 11 = .ok (.dup, 1) := by decide +kernel
theorem dX10_push_12 : decode cX10_push 12 = .ok (.getfield 183, 3) := by decide +kernel
theorem dX10_push_15 : decode cX10_push 15 = .ok (.iconst 1, 1) := by decide +kernel
theorem dX10_push_16 : decode cX10_push 16 = .ok (.iadd, 1) := by decide +kernel
theorem dX10_push_17 : decode cX10_push 17 = .ok (.putfield 183, 3) := by decide +kernel
theorem dX10_push_20 : decode cX10_push 20 = .ok (.return_, 1) := by decide +kernel
theorem dX10_endHead_0 : decode cX10_endHead 0 = .ok (.aload_n 0, 1) := by decide +kernel
theorem dX10_endHead_1 : decode cX10_endHead 1 = .ok (.sipush 195, 3) := by decide +kernel
theorem dX10_endHead_4 : decode cX10_endHead 4 = .ok (.invokevirtual 187, 3) := by decide +kernel
theorem dX10_endHead_7 : decode cX10_endHead 7 = .ok (.aload_n 0, 1) := by decide +kernel
theorem dX10_endHead_8 : decode cX10_endHead 8 = .ok (.iconst 2, 1) := by decide +kernel
theorem dX10_endHead_9 : decode cX10_endHead 9 = .ok (.invokevirtual 187, 3) := by decide +kernel
theorem dX10_endHead_12 : decode cX10_endHead 12 = .ok (.aload_n 0, 1) := by decide +kernel
theorem dX10_endHead_13 : decode cX10_endHead 13 = .ok (.iconst 0, 1) := by decide +kernel
theorem dX10_endHead_14 : decode cX10_endHead 14 = .ok (.invokevirtual 187, 3) := by decide +kernel
theorem dX10_endHead_17 : decode cX10_endHead 17 = .ok (.aload_n 0, 1) := by decide +kernel
theorem dX10_endHead_18 : decode cX10_endHead 18 = .ok (.iconst 0, 1) := by decide +kernel
theorem dX10_endHead_19 : decode cX10_endHead 19 = .ok (.invokevirtual 187, 3) := by decide +kernel
theorem dX10_endHead_22 : decode cX10_endHead 22 = .ok (.aload_n 0, 1) := by decide +kernel
theorem dX10_endHead_23 : decode cX10_endHead 23 = .ok (.getfield 180, 3) := by decide +kernel
theorem dX10_endHead_26 : decode cX10_endHead 26 = .ok (.iconst 0, 1) := by decide +kernel
theorem dX10_endHead_27 : decode cX10_endHead 27 = .ok (.aload_n 0, 1) := by decide +kernel
theorem dX10_endHead_28 : decode cX10_endHead 28 = .ok (.getfield 183, 3) := by decide +kernel
theorem dX10_endHead_31 : decode cX10_endHead 31 = .ok (.iconst 1, 1) := by decide +kernel
theorem dX10_endHead_32 : decode cX10_endHead 32 = .ok (.isub, 1) := by decide +kernel
theorem dX10_endHead_33 : decode cX10_endHead 33 = .ok (.iastore, 1) := by decide +kernel
theorem dX10_endHead_34 : decode cX10_endHead 34 = .ok (.return_, 1) := by decide +kernel
theorem dX10_mod255_0 : decode cX10_mod255 0 = .ok (.iload_n 0, 1) := by decide +kernel
theorem dX10_mod255_1 : decode cX10_mod255 1 = .ok (.sipush 255, 3) := by decide +kernel
theorem dX10_mod255_4 : decode cX10_mod255 4 = .ok (.irem, 1) := by decide +kernel
theorem dX10_mod255_5 : decode cX10_mod255 5 = .ok (.istore_n 1, 1) := by decide +kernel
theorem dX10_mod255_6 : decode cX10_mod255 6 = .ok (.iload_n 1, 1) := by decide +kernel
theorem dX10_mod255_7 : decode cX10_mod255 7 = .ok (.ifCond .ge 11, 3) := by decide +kernel
theorem dX10_mod255_10 : decode cX10_mod255 10 = .ok (.iload_n 1, 1) := by decide +kernel
theorem dX10_mod255_11 : decode cX10_mod255 11 = .ok (.sipush 255, 3) := by decide +kernel
theorem dX10_mod255_14 : decode cX10_mod255 14 = .ok (.iadd, 1) := by decide +kernel
theorem dX10_mod255_15 : decode cX10_mod255 15 = .ok (.goto 4, 3) := by decide +kernel
theorem dX10_mod255_18 : decode cX10_mod255 18 = .ok (.iload_n 1, 1) := by decide +kernel
theorem dX10_mod255_19 : decode cX10_mod255 19 = .ok (.ireturn, 1) := by decide +kernel
theorem dX10_check_0 : decode cX10_check 0 = .ok (.iconst 0, 1) := by decide +kernel
theorem dX10_check_1 : decode cX10_check 1 = .ok (.istore_n 1, 1) := by decide +kernel
theorem dX10_check_2 : decode cX10_check 2 = .ok (.iconst 0, 1) := by decide +kernel
theorem dX10_check_3 : decode cX10_check 3 = .ok (.istore_n 2, 1) := by decide +kernel
theorem dX10_check_4 : decode cX10_check 4 = .ok (.iconst 1, 1) := by decide +kernel
theorem dX10_check_5 : decode cX10_check 5 = .ok (.istore_n 3, 1) := by decide +kernel
theorem dX10_check_6 : decode cX10_check 6 = .ok (.iload_n 3, 1) := by decide +kernel
theorem dX10_check_7 : decode cX10_check 7 = .ok (.aload_n 0, 1) := by decide +kernel
theorem dX10_check_8 : decode cX10_check 8 = .ok (.getfield 183, 3) := by decide +kernel
theorem dX10_check_11 : decode cX10_check 11 = .ok (.if_icmp .gt 40, 3) := by decide +kernel
theorem dX10_check_14 : decode cX10_check 14 = .ok (.iload_n 1, 1) := by decide +kernel
theorem dX10_check_15 : decode cX10_check 15 = .ok (.aload_n 0, 1) := by decide +kernel
theorem dX10_check_16 : decode cX10_check 16 = .ok (.getfield 180, 3) := by decide +kernel
theorem dX10_check_19 : decode cX10_check 19 = .ok (.iload_n 3, 1) := by decide +kernel
theorem dX10_check_20 : decode cX10_check 20 = .ok (.iconst 1, 1) := by decide +kernel
theorem dX10_check_21 : decode cX10_check 21 = .ok (.isub, 1) := by decide +kernel
theorem dX10_check_22 : decode cX10_check 22 = .ok (.iaload, 1) := by decide +kernel
theorem dX10_check_23 : decode cX10_check 23 = .ok (.iadd, 1) := by decide +kernel
theorem dX10_check_24 : decode cX10_check 24 = .ok (.istore_n 1, 1) := by decide +kernel
theorem dX10_check_25 : decode cX10_check 25 = .ok (.iload_n 2, 1) := by decide +kernel
theorem dX10_check_26 : decode cX10_check 26 = .ok (.aload_n 0, 1) := by decide +kernel
theorem dX10_check_27 : decode cX10_check 27 = .ok (.getfield 183, 3) := by decide +kernel
theorem dX10_check_30 : decode cX10_check 30 = .ok (.iload_n 3, 1) := by decide +kernel
theorem dX10_check_31 : decode cX10_check 31 = .ok (.isub, 1) := by decide +kernel
theorem dX10_check_32 : decode cX10_check 32 = .ok (.iconst 1, 1) := by decide +kernel
theorem dX10_check_33 : decode cX10_check 33 = .ok (.iadd, 1) := by decide +kernel
theorem dX10_check_34 : decode cX10_check 34 = .ok (.aload_n 0, 1) := by decide +kernel
theorem dX10_check_35 : decode cX10_check 35 = .ok (.getfield 180, 3) := by decide +kernel
theorem dX10_check_38 : decode cX10_check 38 = .ok (.iload_n 3, 1) := by decide +kernel
theorem dX10_check_39 : decode cX10_check 39 = .ok (.iconst 1, 1) := by decide +kernel
theorem dX10_check_40 : decode cX10_check 40 = .ok (.isub, 1) := by decide +kernel
theorem dX10_check_41 : decode cX10_check 41 = .ok (.iaload, 1) := by decide +kernel
theorem dX10_check_42 : decode cX10_check 42 = .ok (.imul, 1) := by decide +kernel
theorem dX10_check_43 : decode cX10_check 43 = .ok (.iadd, 1) := by decide +kernel
theorem dX10_check_44 : decode cX10_check 44 = .ok (.istore_n 2, 1) := by decide +kernel
theorem dX10_check_45 : decode cX10_check 45 = .ok (.iinc 3 1, 3) := by decide +kernel
theorem dX10_check_48 : decode cX10_check 48 = .ok (.goto (-42), 3) := by decide +kernel
theorem dX10_check_51 : decode cX10_check 51 = .ok (.aload_n 0, 1) := by decide +kernel
theorem dX10_check_52 : decode cX10_check 52 = .ok (.getfield 180, 3) := by decide +kernel
theorem dX10_check_55 : decode cX10_check 55 = .ok (.iconst 0, 1) := by decide +kernel
theorem dX10_check_56 : decode cX10_check 56 = .ok (.iaload, 1) := by decide +kernel
theorem dX10_check_57 : decode cX10_check 57 = .ok (.istore_n 3, 1) := by decide +kernel
theorem dX10_check_58 : decode cX10_check 58 = .ok (.aload_n 0, 1) := by decide +kernel
theorem dX10_check_59 : decode cX10_check 59 = .ok (.getfield 180, 3) := by decide +kernel
theorem dX10_check_62 : decode cX10_check 62 = .ok (.iload_n 3, 1) := by decide +kernel
theorem dX10_check_63 : decode cX10_check 63 = .ok (.iconst 1, 1) := by decide +kernel
theorem dX10_check_64 : decode cX10_check 64 = .ok (.isub, 1) := by decide +kernel
theorem dX10_check_65 : decode cX10_check 65 = .ok (.aload_n 0, 1) := by decide +kernel
theorem dX10_check_66 : decode cX10_check 66 = .ok (.getfield 183, 3) := by decide +kernel
theorem dX10_check_69 : decode cX10_check 69 = .ok (.iload_n 3, 1) := by decide +kernel
theorem dX10_check_70 : decode cX10_check 70 = .ok (.isub, 1) := by decide +kernel
theorem dX10_check_71 : decode cX10_check 71 = .ok (.iload_n 1, 1) := by decide +kernel
theorem dX10_check_72 : decode cX10_check 72 = .ok (.imul, 1) := by decide +kernel
theorem dX10_check_73 : decode cX10_check 73 = .ok (.iload_n 2, 1) := by decide +kernel
theorem dX10_check_74 : decode cX10_check 74 = .ok (.isub, 1) := by decide +kernel
theorem dX10_check_75 : decode cX10_check 75 = .ok (.invokestatic 191, 3) := by decide +kernel
theorem dX10_check_78 : decode cX10_check 78 = .ok (.iastore, 1) := by decide +kernel
theorem dX10_check_79 : decode cX10_check 79 = .ok (.aload_n 0, 1) := by decide +kernel
theorem dX10_check_80 : decode cX10_check 80 = .ok (.getfield 180, 3) := by decide +kernel
theorem dX10_check_83 : decode cX10_check 83 = .ok (.iload_n 3, 1) := by decide +kernel
theorem dX10_check_84 : decode cX10_check 84 = .ok (.iload_n 2, 1) := by decide +kernel
theorem dX10_check_85 : decode cX10_check 85 = .ok (.aload_n 0, 1) := by decide +kernel
theorem dX10_check_86 : decode cX10_check 86 = .ok (.getfield 183, 3) := by decide +kernel
theorem dX10_check_89 : decode cX10_check 89 = .ok (.iload_n 3, 1) := by decide +kernel
theorem dX10_check_90 : decode cX10_check 90 = .ok (.isub, 1) := by decide +kernel
theorem dX10_check_91 : decode cX10_check 91 = .ok (.iconst 1, 1) := by decide +kernel
theorem dX10_check_92 : decode cX10_check 92 = .ok (.iadd, 1) := by decide +kernel
theorem dX10_check_93 : decode cX10_check 93 = .ok (.iload_n 1, 1) := by decide +kernel
theorem dX10_check_94 : decode cX10_check 94 = .ok (.imul, 1) := by decide +kernel
theorem dX10_check_95 : decode cX10_check 95 = .ok (.isub, 1) := by decide +kernel
theorem dX10_check_96 : decode cX10_check 96 = .ok (.invokestatic 191, 3) := by decide +kernel
theorem dX10_check_99 : decode cX10_check 99 = .ok (.iastore, 1) := by decide +kernel
theorem dX10_check_100 : decode cX10_check 100 = .ok (.return_, 1) := by decide +kernel
theorem dX10_sendMade_0 : decode cX10_sendMade 0 = .ok (.aload_n 0, 1) := by decide +kernel
theorem dX10_sendMade_1 : decode cX10_sendMade 1 = .ok (.getfield 195, 3) := by decide +kernel
theorem dX10_sendMade_4 : decode cX10_sendMade 4 = .ok (.sipush 4096, 3) := by decide +kernel
theorem dX10_sendMade_7 : decode cX10_sendMade 7 = .ok (.irem, 1) := by decide +kernel
theorem dX10_sendMade_8 : decode cX10_sendMade 8 = .ok (.istore_n 2, 1) := by decide +kernel
theorem dX10_sendMade_9 : decode cX10_sendMade 9 = .ok (.iconst 0, 1) := by decide +kernel
theorem dX10_sendMade_10 : decode cX10_sendMade 10 = .ok (.istore_n 3, 1) := by decide +kernel
theorem dX10_sendMade_11 : decode cX10_sendMade 11 = .ok (.iload_n 3, 1) := by decide +kernel
theorem dX10_sendMade_12 : decode cX10_sendMade 12 = .ok (.aload_n 0, 1) := by decide +kernel
theorem dX10_sendMade_13 : decode cX10_sendMade 13 = .ok (.getfield 183, 3) := by decide +kernel
theorem dX10_sendMade_16 : decode cX10_sendMade 16 = .ok (.if_icmp .ge 26, 3) := by decide +kernel
theorem dX10_sendMade_19 : decode cX10_sendMade 19 = .ok (.aload_n 0, 1) := by decide +kernel
theorem dX10_sendMade_20 : decode cX10_sendMade 20 = .ok (.getfield 165, 3) := by decide +kernel
theorem dX10_sendMade_23 : decode cX10_sendMade 23 = .ok (.bipush 20, 2) := by decide +kernel
theorem dX10_sendMade_25 : decode cX10_sendMade 25 = .ok (.iload_n 2, 1) := by decide +kernel
theorem dX10_sendMade_26 : decode cX10_sendMade 26 = .ok (.imul, 1) := by decide +kernel
theorem dX10_sendMade_27 : decode cX10_sendMade 27 = .ok (.iload_n 3, 1) := by decide +kernel
theorem dX10_sendMade_28 : decode cX10_sendMade 28 = .ok (.iadd, 1) := by decide +kernel
theorem dX10_sendMade_29 : decode cX10_sendMade 29 = .ok (.aload_n 0, 1) := by decide +kernel
theorem dX10_sendMade_30 : decode cX10_sendMade 30 = .ok (.getfield 180, 3) := by decide +kernel
theorem dX10_sendMade_33 : decode cX10_sendMade 33 = .ok (.iload_n 3, 1) := by decide +kernel
theorem dX10_sendMade_34 : decode cX10_sendMade 34 = .ok (.iaload, 1) := by decide +kernel
theorem dX10_sendMade_35 : decode cX10_sendMade 35 = .ok (.iastore, 1) := by decide +kernel
theorem dX10_sendMade_36 : decode cX10_sendMade 36 = .ok (.iinc 3 1, 3) := by decide +kernel
theorem dX10_sendMade_39 : decode cX10_sendMade 39 = .ok (.goto (-28), 3) := by decide +kernel
theorem dX10_sendMade_42 : decode cX10_sendMade 42 = .ok (.aload_n 0, 1) := by decide +kernel
theorem dX10_sendMade_43 : decode cX10_sendMade 43 = .ok (.getfield 168, 3) := by decide +kernel
theorem dX10_sendMade_46 : decode cX10_sendMade 46 = .ok (.iload_n 2, 1) := by decide +kernel
theorem dX10_sendMade_47 : decode cX10_sendMade 47 = .ok (.aload_n 0, 1) := by decide +kernel
theorem dX10_sendMade_48 : decode cX10_sendMade 48 = .ok (.getfield 183, 3) := by decide +kernel
theorem dX10_sendMade_51 : decode cX10_sendMade 51 = .ok (.iastore, 1) := by decide +kernel
theorem dX10_sendMade_52 : decode cX10_sendMade 52 = .ok (.aload_n 0, 1) := by decide +kernel
theorem dX10_sendMade_53 : decode cX10_sendMade 53 = .ok (.getfield 171, 3) := by decide +kernel
theorem dX10_sendMade_56 : decode cX10_sendMade 56 = .ok (.iload_n 2, 1) := by decide +kernel
theorem dX10_sendMade_57 : decode cX10_sendMade 57 = .ok (.iconst 1, 1) := by decide +kernel
theorem dX10_sendMade_58 : decode cX10_sendMade 58 = .ok (.iload_n 1, 1) := by decide +kernel
theorem dX10_sendMade_59 : decode cX10_sendMade 59 = .ok (.isub, 1) := by decide +kernel
theorem dX10_sendMade_60 : decode cX10_sendMade 60 = .ok (.iastore, 1) := by decide +kernel
theorem dX10_sendMade_61 : decode cX10_sendMade 61 = .ok (.aload_n 0, 1) := by decide +kernel
theorem dX10_sendMade_62 : decode cX10_sendMade 62 = .ok (.getfield 174, 3) := by decide +kernel
theorem dX10_sendMade_65 : decode cX10_sendMade 65 = .ok (.iload_n 2, 1) := by decide +kernel
theorem dX10_sendMade_66 : decode cX10_sendMade 66 = .ok (.aload_n 0, 1) := by decide +kernel
theorem dX10_sendMade_67 : decode cX10_sendMade 67 = .ok (.getfield 198, 3) := by decide +kernel
theorem dX10_sendMade_70 : decode cX10_sendMade 70 = .ok (.iastore, 1) := by decide +kernel
theorem dX10_sendMade_71 : decode cX10_sendMade 71 = .ok (.aload_n 0, 1) := by decide +kernel
theorem dX10_sendMade_72 : decode cX10_sendMade 72 = .ok (.dup, 1) := by decide +kernel
theorem dX10_sendMade_73 : decode cX10_sendMade 73 = .ok (.getfield 195, 3) := by decide +kernel
theorem dX10_sendMade_76 : decode cX10_sendMade 76 = .ok (.iconst 1, 1) := by decide +kernel
theorem dX10_sendMade_77 : decode cX10_sendMade 77 = .ok (.iadd, 1) := by decide +kernel
theorem dX10_sendMade_78 : decode cX10_sendMade 78 = .ok (.putfield 195, 3) := by decide +kernel
theorem dX10_sendMade_81 : decode cX10_sendMade 81 = .ok (.aload_n 0, 1) := by decide +kernel
theorem dX10_sendMade_82 : decode cX10_sendMade 82 = .ok (.getfield 29, 3) := by decide +kernel
theorem dX10_sendMade_85 : decode cX10_sendMade 85 = .ok (.iload_n 1, 1) := by decide +kernel
theorem dX10_sendMade_86 : decode cX10_sendMade 86 = .ok (.aload_n 0, 1) := by decide +kernel
theorem dX10_sendMade_87 : decode cX10_sendMade 87 = .ok (.getfield 198, 3) := by decide +kernel
theorem dX10_sendMade_90 : decode cX10_sendMade 90 = .ok (.iastore, 1) := by decide +kernel
theorem dX10_sendMade_91 : decode cX10_sendMade 91 = .ok (.return_, 1) := by decide +kernel
theorem dX10_sendCode_0 : decode cX10_sendCode 0 = .ok (.aload_n 0, 1) := by decide +kernel
theorem dX10_sendCode_1 : decode cX10_sendCode 1 = .ok (.iload_n 2, 1) := by decide +kernel
theorem dX10_sendCode_2 : decode cX10_sendCode 2 = .ok (.iload_n 3, 1) := by decide +kernel
theorem dX10_sendCode_3 : decode cX10_sendCode 3 = .ok (.invokevirtual 201, 3) := by decide +kernel
theorem dX10_sendCode_6 : decode cX10_sendCode 6 = .ok (.aload_n 0, 1) := by decide +kernel
theorem dX10_sendCode_7 : decode cX10_sendCode 7 = .ok (.iload 4, 2) := by decide +kernel
theorem dX10_sendCode_9 : decode cX10_sendCode 9 = .ok (.sipush 256, 3) := by decide +kernel
theorem dX10_sendCode_12 : decode cX10_sendCode 12 = .ok (.idiv, 1) := by decide +kernel
theorem dX10_sendCode_13 : decode cX10_sendCode 13 = .ok (.invokevirtual 187, 3) := by decide +kernel
theorem dX10_sendCode_16 : decode cX10_sendCode 16 = .ok (.aload_n 0, 1) := by decide +kernel
theorem dX10_sendCode_17 : decode cX10_sendCode 17 = .ok (.iload 4, 2) := by decide +kernel
theorem dX10_sendCode_19 : decode cX10_sendCode 19 = .ok (.sipush 256, 3) := by decide +kernel
theorem dX10_sendCode_22 : decode cX10_sendCode 22 = .ok (.irem, 1) := by decide +kernel
theorem dX10_sendCode_23 : decode cX10_sendCode 23 = .ok (.invokevirtual 187, 3) := by decide +kernel
theorem dX10_sendCode_26 : decode cX10_sendCode 26 = .ok (.iload 5, 2) := by decide +kernel
theorem dX10_sendCode_28 : decode cX10_sendCode 28 = .ok (.ifCond .lt 9, 3) := by decide +kernel
theorem dX10_sendCode_31 : decode cX10_sendCode 31 = .ok (.aload_n 0, 1) := by decide +kernel
theorem dX10_sendCode_32 : decode cX10_sendCode 32 = .ok (.iload 5, 2) := by decide +kernel
theorem dX10_sendCode_34 : decode cX10_sendCode 34 = .ok (.invokevirtual 187, 3) := by decide +kernel
theorem dX10_sendCode_37 : decode cX10_sendCode 37 = .ok (.aload_n 0, 1) := by decide +kernel
theorem dX10_sendCode_38 : decode cX10_sendCode 38 = .ok (.invokevirtual 205, 3) := by decide +kernel
theorem dX10_sendCode_41 : decode cX10_sendCode 41 = .ok (.aload_n 0, 1) := by decide +kernel
theorem dX10_sendCode_42 : decode cX10_sendCode 42 = .ok (.invokevirtual 208, 3) := by decide +kernel
theorem dX10_sendCode_45 : decode cX10_sendCode 45 = .ok (.aload_n 0, 1) := by decide +kernel
theorem dX10_sendCode_46 : decode cX10_sendCode 46 = .ok (.iload_n 1, 1) := by decide +kernel
theorem dX10_sendCode_47 : decode cX10_sendCode 47 = .ok (.invokevirtual 211, 3) := by decide +kernel
theorem dX10_sendCode_50 : decode cX10_sendCode 50 = .ok (.return_, 1) := by decide +kernel
theorem dX10_sendNumber_0 : decode cX10_sendNumber 0 = .ok (.aload_n 0, 1) := by decide +kernel
theorem dX10_sendNumber_1 : decode cX10_sendNumber 1 = .ok (.iload_n 2, 1) := by decide +kernel
theorem dX10_sendNumber_2 : decode cX10_sendNumber 2 = .ok (.aload_n 0, 1) := by decide +kernel
theorem dX10_sendNumber_3 : decode cX10_sendNumber 3 = .ok (.getfield 16, 3) := by decide +kernel
theorem dX10_sendNumber_6 : decode cX10_sendNumber 6 = .ok (.iload_n 1, 1) := by decide +kernel
theorem dX10_sendNumber_7 : decode cX10_sendNumber 7 = .ok (.iaload, 1) := by decide +kernel
theorem dX10_sendNumber_8 : decode cX10_sendNumber 8 = .ok (.invokevirtual 201, 3) := by decide +kernel
theorem dX10_sendNumber_11 : decode cX10_sendNumber 11 = .ok (.aload_n 0, 1) := by decide +kernel
theorem dX10_sendNumber_12 : decode cX10_sendNumber 12 = .ok (.iload_n 3, 1) := by decide +kernel
theorem dX10_sendNumber_13 : decode cX10_sendNumber 13 = .ok (.invokevirtual 187, 3) := by decide +kernel
theorem dX10_sendNumber_16 : decode cX10_sendNumber 16 = .ok (.aload_n 0, 1) := by decide +kernel
theorem dX10_sendNumber_17 : decode cX10_sendNumber 17 = .ok (.invokevirtual 205, 3) := by decide +kernel
theorem dX10_sendNumber_20 : decode cX10_sendNumber 20 = .ok (.aload_n 0, 1) := by decide +kernel
theorem dX10_sendNumber_21 : decode cX10_sendNumber 21 = .ok (.invokevirtual 208, 3) := by decide +kernel
theorem dX10_sendNumber_24 : decode cX10_sendNumber 24 = .ok (.aload_n 0, 1) := by decide +kernel
theorem dX10_sendNumber_25 : decode cX10_sendNumber 25 = .ok (.iload_n 1, 1) := by decide +kernel
theorem dX10_sendNumber_26 : decode cX10_sendNumber 26 = .ok (.invokevirtual 211, 3) := by decide +kernel
theorem dX10_sendNumber_29 : decode cX10_sendNumber 29 = .ok (.return_, 1) := by decide +kernel
theorem dX10_credit_0 : decode cX10_credit 0 = .ok (.iconst 0, 1) := by decide +kernel
theorem dX10_credit_1 : decode cX10_credit 1 = .ok (.istore_n 2, 1) := by decide +kernel
theorem dX10_credit_2 : decode cX10_credit 2 = .ok (.iconst 0, 1) := by decide +kernel
theorem dX10_credit_3 : decode cX10_credit 3 = .ok (.istore_n 3, 1) := by decide +kernel
theorem dX10_credit_4 : decode cX10_credit 4 = .ok (.iload_n 3, 1) := by decide +kernel
theorem dX10_credit_5 : decode cX10_credit 5 = .ok (.aload_n 0, 1) := by decide +kernel
theorem dX10_credit_6 : decode cX10_credit 6 = .ok (.getfield 122, 3) := by decide +kernel
theorem dX10_credit_9 : decode cX10_credit 9 = .ok (.iload_n 1, 1) := by decide +kernel
theorem dX10_credit_10 : decode cX10_credit 10 = .ok (.iaload, 1) := by decide +kernel
theorem dX10_credit_11 : decode cX10_credit 11 = .ok (.if_icmp .ge 23, 3) := by decide +kernel
theorem dX10_credit_14 : decode cX10_credit 14 = .ok (.iload_n 2, 1) := by decide +kernel
theorem dX10_credit_15 : decode cX10_credit 15 = .ok (.aload_n 0, 1) := by decide +kernel
theorem dX10_credit_16 : decode cX10_credit 16 = .ok (.getfield 128, 3) := by decide +kernel
theorem dX10_credit_19 : decode cX10_credit 19 = .ok (.bipush 64, 2) := by decide +kernel
theorem dX10_credit_21 : decode cX10_credit 21 = .ok (.iload_n 1, 1) := by decide +kernel
theorem dX10_credit_22 : decode cX10_credit 22 = .ok (.imul, 1) := by decide +kernel
theorem dX10_credit_23 : decode cX10_credit 23 = .ok (.iload_n 3, 1) := by decide +kernel
theorem dX10_credit_24 : decode cX10_credit 24 = .ok (.iadd, 1) := by decide +kernel
theorem dX10_credit_25 : decode cX10_credit 25 = .ok (.iaload, 1) := by decide +kernel
theorem dX10_credit_26 : decode cX10_credit 26 = .ok (.iadd, 1) := by decide +kernel
theorem dX10_credit_27 : decode cX10_credit 27 = .ok (.istore_n 2, 1) := by decide +kernel
theorem dX10_credit_28 : decode cX10_credit 28 = .ok (.iinc 3 1, 3) := by decide +kernel
theorem dX10_credit_31 : decode cX10_credit 31 = .ok (.goto (-27), 3) := by decide +kernel
theorem dX10_credit_34 : decode cX10_credit 34 = .ok (.iload_n 2, 1) := by decide +kernel
theorem dX10_credit_35 : decode cX10_credit 35 = .ok (.bipush 6, 2) := by decide +kernel
theorem dX10_credit_37 : decode cX10_credit 37 = .ok (.if_icmp .le 7, 3) := by decide +kernel
theorem dX10_credit_40 : decode cX10_credit 40 = .ok (.iconst 0, 1) := by decide +kernel
theorem dX10_credit_41 : decode cX10_credit 41 = .ok (.goto 7, 3) := by decide +kernel
theorem dX10_credit_44 : decode cX10_credit 44 = .ok (.bipush 6, 2) := by decide +kernel
theorem dX10_credit_46 : decode cX10_credit 46 = .ok (.iload_n 2, 1) := by decide +kernel
theorem dX10_credit_47 : decode cX10_credit 47 = .ok (.isub, 1) := by decide +kernel
theorem dX10_credit_48 : decode cX10_credit 48 = .ok (.ireturn, 1) := by decide +kernel
theorem dX10_sendReceipt_0 : decode cX10_sendReceipt 0 = .ok (.aload_n 0, 1) := by decide +kernel
theorem dX10_sendReceipt_1 : decode cX10_sendReceipt 1 = .ok (.iload_n 1, 1) := by decide +kernel
theorem dX10_sendReceipt_2 : decode cX10_sendReceipt 2 = .ok (.bipush 96, 2) := by decide +kernel
theorem dX10_sendReceipt_4 : decode cX10_sendReceipt 4 = .ok (.aload_n 0, 1) := by decide +kernel
theorem dX10_sendReceipt_5 : decode cX10_sendReceipt 5 = .ok (.iload_n 1, 1) := by decide +kernel
theorem dX10_sendReceipt_6 : decode cX10_sendReceipt 6 = .ok (.invokevirtual 214, 3) := by decide +kernel
theorem dX10_sendReceipt_9 : decode cX10_sendReceipt 9 = .ok (.iadd, 1) := by decide +kernel
theorem dX10_sendReceipt_10 : decode cX10_sendReceipt 10 = .ok (.aload_n 0, 1) := by decide +kernel
theorem dX10_sendReceipt_11 : decode cX10_sendReceipt 11 = .ok (.getfield 98, 3) := by decide +kernel
theorem dX10_sendReceipt_14 : decode cX10_sendReceipt 14 = .ok (.iload_n 1, 1) := by decide +kernel
theorem dX10_sendReceipt_15 : decode cX10_sendReceipt 15 = .ok (.iaload, 1) := by decide +kernel
theorem dX10_sendReceipt_16 : decode cX10_sendReceipt 16 = .ok (.invokevirtual 217, 3) := by decide +kernel
theorem dX10_sendReceipt_19 : decode cX10_sendReceipt 19 = .ok (.return_, 1) := by decide +kernel
theorem dX10_wait_0 : decode cX10_wait 0 = .ok (.aload_n 0, 1) := by decide +kernel
theorem dX10_wait_1 : decode cX10_wait 1 = .ok (.getfield 35, 3) := by decide +kernel
theorem dX10_wait_4 : decode cX10_wait 4 = .ok (.iload_n 1, 1) := by decide +kernel
theorem dX10_wait_5 : decode cX10_wait 5 = .ok (.iconst 1, 1) := by decide +kernel
theorem dX10_wait_6 : decode cX10_wait 6 = .ok (.iastore, 1) := by decide +kernel
theorem dX10_wait_7 : decode cX10_wait 7 = .ok (.aload_n 0, 1) := by decide +kernel
theorem dX10_wait_8 : decode cX10_wait 8 = .ok (.getfield 38, 3) := by decide +kernel
theorem dX10_wait_11 : decode cX10_wait 11 = .ok (.iload_n 1, 1) := by decide +kernel
theorem dX10_wait_12 : decode cX10_wait 12 = .ok (.aload_n 0, 1) := by decide +kernel
theorem dX10_wait_13 : decode cX10_wait 13 = .ok (.getfield 198, 3) := by decide +kernel
theorem dX10_wait_16 : decode cX10_wait 16 = .ok (.iastore, 1) := by decide +kernel
theorem dX10_wait_17 : decode cX10_wait 17 = .ok (.aload_n 0, 1) := by decide +kernel
theorem dX10_wait_18 : decode cX10_wait 18 = .ok (.getfield 47, 3) := by decide +kernel
theorem dX10_wait_21 : decode cX10_wait 21 = .ok (.iload_n 1, 1) := by decide +kernel
theorem dX10_wait_22 : decode cX10_wait 22 = .ok (.aload_n 0, 1) := by decide +kernel
theorem dX10_wait_23 : decode cX10_wait 23 = .ok (.getfield 183, 3) := by decide +kernel
theorem dX10_wait_26 : decode cX10_wait 26 = .ok (.iastore, 1) := by decide +kernel
theorem dX10_wait_27 : decode cX10_wait 27 = .ok (.iconst 0, 1) := by decide +kernel
theorem dX10_wait_28 : decode cX10_wait 28 = .ok (.istore_n 2, 1) := by decide +kernel
theorem dX10_wait_29 : decode cX10_wait 29 = .ok (.iload_n 2, 1) := by decide +kernel
theorem dX10_wait_30 : decode cX10_wait 30 = .ok (.aload_n 0, 1) := by decide +kernel
theorem dX10_wait_31 : decode cX10_wait 31 = .ok (.getfield 183, 3) := by decide +kernel
theorem dX10_wait_34 : decode cX10_wait 34 = .ok (.if_icmp .ge 26, 3) := by decide +kernel
theorem dX10_wait_37 : decode cX10_wait 37 = .ok (.aload_n 0, 1) := by decide +kernel
theorem dX10_wait_38 : decode cX10_wait 38 = .ok (.getfield 44, 3) := by decide +kernel
theorem dX10_wait_41 : decode cX10_wait 41 = .ok (.bipush 20, 2) := by decide +kernel
theorem dX10_wait_43 : decode cX10_wait 43 = .ok (.iload_n 1, 1) := by decide +kernel
theorem dX10_wait_44 : decode cX10_wait 44 = .ok (.imul, 1) := by decide +kernel
theorem dX10_wait_45 : decode cX10_wait 45 = .ok (.iload_n 2, 1) := by decide +kernel
theorem dX10_wait_46 : decode cX10_wait 46 = .ok (.iadd, 1) := by decide +kernel
theorem dX10_wait_47 : decode cX10_wait 47 = .ok (.aload_n 0, 1) := by decide +kernel
theorem dX10_wait_48 : decode cX10_wait 48 = .ok (.getfield 180, 3) := by decide +kernel
theorem dX10_wait_51 : decode cX10_wait 51 = .ok (.iload_n 2, 1) := by decide +kernel
theorem dX10_wait_52 : decode cX10_wait 52 = .ok (.iaload, 1) := by decide +kernel
theorem dX10_wait_53 : decode cX10_wait 53 = .ok (.iastore, 1) := by decide +kernel
theorem dX10_wait_54 : decode cX10_wait 54 = .ok (.iinc 2 1, 3) := by decide +kernel
theorem dX10_wait_57 : decode cX10_wait 57 = .ok (.goto (-28), 3) := by decide +kernel
theorem dX10_wait_60 : decode cX10_wait 60 = .ok (.return_, 1) := by decide +kernel
theorem dX10_sendPiece_0 : decode cX10_sendPiece 0 = .ok (.bipush 40, 2) := by decide +kernel
theorem dX10_sendPiece_2 : decode cX10_sendPiece 2 = .ok (.iload_n 1, 1) := by decide +kernel
theorem dX10_sendPiece_3 : decode cX10_sendPiece 3 = .ok (.imul, 1) := by decide +kernel
theorem dX10_sendPiece_4 : decode cX10_sendPiece 4 = .ok (.iload_n 2, 1) := by decide +kernel
theorem dX10_sendPiece_5 : decode cX10_sendPiece 5 = .ok (.iadd, 1) := by decide +kernel
theorem dX10_sendPiece_6 : decode cX10_sendPiece 6 = .ok (.istore_n 3, 1) := by decide +kernel
theorem dX10_sendPiece_7 : decode cX10_sendPiece 7 = .ok (.aload_n 0, 1) := by decide +kernel
theorem dX10_sendPiece_8 : decode cX10_sendPiece 8 = .ok (.sipush 240, 3) := by decide +kernel
theorem dX10_sendPiece_11 : decode cX10_sendPiece 11 = .ok (.aload_n 0, 1) := by decide +kernel
theorem dX10_sendPiece_12 : decode cX10_sendPiece 12 = .ok (.getfield 16, 3) := by decide +kernel
theorem dX10_sendPiece_15 : decode cX10_sendPiece 15 = .ok (.iload_n 1, 1) := by decide +kernel
theorem dX10_sendPiece_16 : decode cX10_sendPiece 16 = .ok (.iaload, 1) := by decide +kernel
theorem dX10_sendPiece_17 : decode cX10_sendPiece 17 = .ok (.invokevirtual 201, 3) := by decide +kernel
theorem dX10_sendPiece_20 : decode cX10_sendPiece 20 = .ok (.aload_n 0, 1) := by decide +kernel
theorem dX10_sendPiece_21 : decode cX10_sendPiece 21 = .ok (.aload_n 0, 1) := by decide +kernel
theorem dX10_sendPiece_22 : decode cX10_sendPiece 22 = .ok (.getfield 62, 3) := by decide +kernel
theorem dX10_sendPiece_25 : decode cX10_sendPiece 25 = .ok (.iload_n 3, 1) := by decide +kernel
theorem dX10_sendPiece_26 : decode cX10_sendPiece 26 = .ok (.iaload, 1) := by decide +kernel
theorem dX10_sendPiece_27 : decode cX10_sendPiece 27 = .ok (.aload_n 0, 1) := by decide +kernel
theorem dX10_sendPiece_28 : decode cX10_sendPiece 28 = .ok (.getfield 59, 3) := by decide +kernel
theorem dX10_sendPiece_31 : decode cX10_sendPiece 31 = .ok (.iload_n 3, 1) := by decide +kernel
theorem dX10_sendPiece_32 : decode cX10_sendPiece 32 = .ok (.baload, 1) := by decide +kernel
theorem dX10_sendPiece_33 : decode cX10_sendPiece 33 = .ok (.ifCond .eq 9, 3) := by decide +kernel
theorem dX10_sendPiece_36 : decode cX10_sendPiece 36 = .ok (.sipush 128, 3) := by decide +kernel
theorem dX10_sendPiece_39 : decode cX10_sendPiece 39 = .ok (.goto 4, 3) := by decide +kernel
theorem dX10_sendPiece_42 : decode cX10_sendPiece 42 = .ok (.iconst 0, 1) := by decide +kernel
theorem dX10_sendPiece_43 : decode cX10_sendPiece 43 = .ok (.iadd, 1) := by decide +kernel
theorem dX10_sendPiece_44 : decode cX10_sendPiece 44 = .ok (.invokevirtual 187, 3) := by decide +kernel
theorem dX10_sendPiece_47 : decode cX10_sendPiece 47 = .ok (.aload_n 0, 1) := by decide +kernel
theorem dX10_sendPiece_48 : decode cX10_sendPiece 48 = .ok (.invokevirtual 205, 3) := by decide +kernel
theorem dX10_sendPiece_51 : decode cX10_sendPiece 51 = .ok (.iconst 0, 1) := by decide +kernel
theorem dX10_sendPiece_52 : decode cX10_sendPiece 52 = .ok (.istore 4, 2) := by decide +kernel
theorem dX10_sendPiece_54 : decode cX10_sendPiece 54 = .ok (.iload 4, 2) := by decide +kernel
theorem dX10_sendPiece_56 : decode cX10_sendPiece 56 = .ok (.aload_n 0, 1) := by decide +kernel
theorem dX10_sendPiece_57 : decode cX10_sendPiece 57 = .ok (.getfield 56, 3) := by decide +kernel
theorem dX10_sendPiece_60 : decode cX10_sendPiece 60 = .ok (.iload_n 3, 1) := by decide +kernel
theorem dX10_sendPiece_61 : decode cX10_sendPiece 61 = .ok (.iaload, 1) := by decide +kernel
theorem dX10_sendPiece_62 : decode cX10_sendPiece 62 = .ok (.if_icmp .ge 25, 3) := by decide +kernel
theorem dX10_sendPiece_65 : decode cX10_sendPiece 65 = .ok (.aload_n 0, 1) := by decide +kernel
theorem dX10_sendPiece_66 : decode cX10_sendPiece 66 = .ok (.aload_n 0, 1) := by decide +kernel
theorem dX10_sendPiece_67 : decode cX10_sendPiece 67 = .ok (.getfield 71, 3) := by decide +kernel
theorem dX10_sendPiece_70 : decode cX10_sendPiece 70 = .ok (.bipush 8, 2) := by decide +kernel
theorem dX10_sendPiece_72 : decode cX10_sendPiece 72 = .ok (.iload_n 3, 1) := by decide +kernel
theorem dX10_sendPiece_73 : decode cX10_sendPiece 73 = .ok (.imul, 1) := by decide +kernel
theorem dX10_sendPiece_74 : decode cX10_sendPiece 74 = .ok (.iload 4, 2) := by decide +kernel
theorem dX10_sendPiece_76 : decode cX10_sendPiece 76 = .ok (.iadd, 1) := by decide +kernel
theorem dX10_sendPiece_77 : decode cX10_sendPiece 77 = .ok (.iaload, 1) := by decide +kernel
theorem dX10_sendPiece_78 : decode cX10_sendPiece 78 = .ok (.invokevirtual 187, 3) := by decide +kernel
theorem dX10_sendPiece_81 : decode cX10_sendPiece 81 = .ok (.iinc 4 1, 3) := by decide +kernel
theorem dX10_sendPiece_84 : decode cX10_sendPiece 84 = .ok (.goto (-30), 3) := by decide +kernel
theorem dX10_sendPiece_87 : decode cX10_sendPiece 87 = .ok (.aload_n 0, 1) := by decide +kernel
