theorem dX8_init_0 : decode cX8_init 0 = .ok (.aload_n 0, 1) := by decide +kernel
theorem dX8_init_1 : decode cX8_init 1 = .ok (.invokespecial 3, 3) := by decide +kernel
theorem dX8_init_4 : decode cX8_init 4 = .ok (.return_, 1) := by decide +kernel
theorem dX8_clear_0 : decode cX8_clear 0 = .ok (.aload_n 0, 1) := by decide +kernel
theorem dX8_clear_1 : decode cX8_clear 1 = .ok (.iconst 0, 1) := by decide +kernel
theorem dX8_clear_2 : decode cX8_clear 2 = .ok (.putfield 9, 3) := by decide +kernel
theorem dX8_clear_5 : decode cX8_clear 5 = .ok (.return_, 1) := by decide +kernel
theorem dX8_count_0 : decode cX8_count 0 = .ok (.aload_n 0, 1) := by decide +kernel
theorem dX8_count_1 : decode cX8_count 1 = .ok (.dup, 1) := by decide +kernel
theorem dX8_count_2 : decode cX8_count 2 = .ok (.getfield 9, 3) := by decide +kernel
theorem dX8_count_5 : decode cX8_count 5 = .ok (.iconst 1, 1) := by decide +kernel
theorem dX8_count_6 : decode cX8_count 6 = .ok (.iadd, 1) := by decide +kernel
theorem dX8_count_7 : decode cX8_count 7 = .ok (.putfield 9, 3) := by decide +kernel
theorem dX8_count_10 : decode cX8_count 10 = .ok (.aload_n 0, 1) := by decide +kernel
theorem dX8_count_11 : decode cX8_count 11 = .ok (.iload_n 1, 1) := by decide +kernel
theorem dX8_count_12 : decode cX8_count 12 = .ok (.putfield 15, 3) := by decide +kernel
theorem dX8_count_15 : decode cX8_count 15 = .ok (.return_, 1) := by decide +kernel
theorem dX6_init_0 : decode cX6_init 0 = .ok (.aload_n 0, 1) := by decide +kernel
theorem dX6_init_1 : decode cX6_init 1 = .ok (.invokespecial 3, 3) := by decide +kernel
theorem dX6_init_4 : decode cX6_init 4 = .ok (.aload_n 0, 1) := by decide +kernel
theorem dX6_init_5 : decode cX6_init 5 = .ok (.sipush 512, 3) := by decide +kernel
theorem dX6_init_8 : decode cX6_init 8 = .ok (.newarray .int, 2) := by decide +kernel
theorem dX6_init_10 : decode cX6_init 10 = .ok (.putfield 9, 3) := by decide +kernel
theorem dX6_init_13 : decode cX6_init 13 = .ok (.return_, 1) := by decide +kernel
theorem dX6_clear_0 : decode cX6_clear 0 = .ok (.aload_n 0, 1) := by decide +kernel
theorem dX6_clear_1 : decode cX6_clear 1 = .ok (.iconst 0, 1) := by decide +kernel
theorem dX6_clear_2 : decode cX6_clear 2 = .ok (.putfield 15, 3) := by decide +kernel
theorem dX6_clear_5 : decode cX6_clear 5 = .ok (.aload_n 0, 1) := by decide +kernel
theorem dX6_clear_6 : decode cX6_clear 6 = .ok (.iconst 0, 1) := by decide +kernel
theorem dX6_clear_7 : decode cX6_clear 7 = .ok (.putfield 19, 3) := by decide +kernel
theorem dX6_clear_10 : decode cX6_clear 10 = .ok (.return_, 1) := by decide +kernel
theorem dX6_takeByte_0 : decode cX6_takeByte 0 = .ok (.aload_n 0, 1) := by decide +kernel
theorem dX6_takeByte_1 : decode cX6_takeByte 1 = .ok (.getfield 15, 3) := by decide +kernel
theorem dX6_takeByte_4 : decode cX6_takeByte 4 = .ok (.ifCond .ne 6, 3) := by decide +kernel
theorem dX6_takeByte_7 : decode cX6_takeByte 7 = .ok (.bipush (-2), 2) := by decide +kernel
theorem dX6_takeByte_9 : decode cX6_takeByte 9 = .ok (.ireturn, 1) := by decide +kernel
theorem dX6_takeByte_10 : decode cX6_takeByte 10 = .ok (.aload_n 0, 1) := by decide +kernel
theorem dX6_takeByte_11 : decode cX6_takeByte 11 = .ok (.getfield 9, 3) := by decide +kernel
theorem dX6_takeByte_14 : decode cX6_takeByte 14 = .ok (.aload_n 0, 1) := by decide +kernel
theorem dX6_takeByte_15 : decode cX6_takeByte 15 = .ok (.getfield 22, 3) := by decide +kernel
theorem dX6_takeByte_18 : decode cX6_takeByte 18 = .ok (.iaload, 1) := by decide +kernel
theorem dX6_takeByte_19 : decode cX6_takeByte 19 = .ok (.istore_n 1, 1) := by decide +kernel
theorem dX6_takeByte_20 : decode cX6_takeByte 20 = .ok (.aload_n 0, 1) := by decide +kernel
theorem dX6_takeByte_21 : decode cX6_takeByte 21 = .ok (.aload_n 0, 1) := by decide +kernel
theorem dX6_takeByte_22 : decode cX6_takeByte 22 = .ok (.getfield 22, 3) := by decide +kernel
theorem dX6_takeByte_25 : decode cX6_takeByte 25 = .ok (.iconst 1, 1) := by decide +kernel
theorem dX6_takeByte_26 : decode cX6_takeByte 26 = .ok (.iadd, 1) := by decide +kernel
theorem dX6_takeByte_27 : decode cX6_takeByte 27 = .ok (.sipush 512, 3) := by decide +kernel
theorem dX6_takeByte_30 : decode cX6_takeByte 30 = .ok (.irem, 1) := by decide +kernel
theorem dX6_takeByte_31 : decode cX6_takeByte 31 = .ok (.putfield 22, 3) := by decide +kernel
theorem dX6_takeByte_34 : decode cX6_takeByte 34 = .ok (.aload_n 0, 1) := by decide +kernel
theorem dX6_takeByte_35 : decode cX6_takeByte 35 = .ok (.dup, 1) := by decide +kernel
theorem dX6_takeByte_36 : decode cX6_takeByte 36 = .ok (.getfield 15, 3) := by decide +kernel
theorem dX6_takeByte_39 : decode cX6_takeByte 39 = .ok (.iconst 1, 1) := by decide +kernel
theorem dX6_takeByte_40 : decode cX6_takeByte 40 = .ok (.isub, 1) := by decide +kernel
theorem dX6_takeByte_41 : decode cX6_takeByte 41 = .ok (.putfield 15, 3) := by decide +kernel
theorem dX6_takeByte_44 : decode cX6_takeByte 44 = .ok (.iload_n 1, 1) := by decide +kernel
theorem dX6_takeByte_45 : decode cX6_takeByte 45 = .ok (.ireturn, 1) := by decide +kernel
theorem dX7_init_0 : decode cX7_init 0 = .ok (.aload_n 0, 1) := by decide +kernel
theorem dX7_init_1 : decode cX7_init 1 = .ok (.invokespecial 3, 3) := by decide +kernel
theorem dX7_init_4 : decode cX7_init 4 = .ok (.aload_n 0, 1) := by decide +kernel
theorem dX7_init_5 : decode cX7_init 5 = .ok (.bipush 8, 2) := by decide +kernel
theorem dX7_init_7 : decode cX7_init 7 = .ok (.newarray .int, 2) := by decide +kernel
theorem dX7_init_9 : decode cX7_init 9 = .ok (.putfield 9, 3) := by decide +kernel
theorem dX7_init_12 : decode cX7_init 12 = .ok (.aload_n 0, 1) := by decide +kernel
theorem dX7_init_13 : decode cX7_init 13 = .ok (.new 15, 3) := by decide +kernel
theorem dX7_init_16 : decode cX7_init 16 = .ok (.dup, 1) := by decide +kernel
theorem dX7_init_17 : decode cX7_init 17 = .ok (.invokespecial 17, 3) := by decide +kernel
theorem dX7_init_20 : decode cX7_init 20 = .ok (.putfield 18, 3) := by decide +kernel
theorem dX7_init_23 : decode cX7_init 23 = .ok (.return_, 1) := by decide +kernel
theorem dX7_clear_0 : decode cX7_clear 0 = .ok (.aload_n 0, 1) := by decide +kernel
theorem dX7_clear_1 : decode cX7_clear 1 = .ok (.iconst 0, 1) := by decide +kernel
theorem dX7_clear_2 : decode cX7_clear 2 = .ok (.putfield 22, 3) := by decide +kernel
theorem dX7_clear_5 : decode cX7_clear 5 = .ok (.aload_n 0, 1) := by decide +kernel
theorem dX7_clear_6 : decode cX7_clear 6 = .ok (.iconst 0, 1) := by decide +kernel
theorem dX7_clear_7 : decode cX7_clear 7 = .ok (.putfield 26, 3) := by decide +kernel
theorem dX7_clear_10 : decode cX7_clear 10 = .ok (.aload_n 0, 1) := by decide +kernel
theorem dX7_clear_11 : decode cX7_clear 11 = .ok (.getfield 18, 3) := by decide +kernel
theorem dX7_clear_14 : decode cX7_clear 14 = .ok (.invokevirtual 29, 3) := by decide +kernel
theorem dX7_clear_17 : decode cX7_clear 17 = .ok (.return_, 1) := by decide +kernel
theorem dX3_init_0 : decode cX3_init 0 = .ok (.aload_n 0, 1) := by decide +kernel
theorem dX3_init_1 : decode cX3_init 1 = .ok (.invokespecial 3, 3) := by decide +kernel
theorem dX3_init_4 : decode cX3_init 4 = .ok (.aload_n 0, 1) := by decide +kernel
theorem dX3_init_5 : decode cX3_init 5 = .ok (.bipush 40, 2) := by decide +kernel
theorem dX3_init_7 : decode cX3_init 7 = .ok (.anewarray 9, 3) := by decide +kernel
theorem dX3_init_10 : decode cX3_init 10 = .ok (.putfield 11, 3) := by decide +kernel
theorem dX3_init_13 : decode cX3_init 13 = .ok (.iconst 0, 1) := by decide +kernel
theorem dX3_init_14 : decode cX3_init 14 = .ok (.istore_n 1, 1) := by decide +kernel
theorem dX3_init_15 : decode cX3_init 15 = .ok (.iload_n 1, 1) := by decide +kernel
theorem dX3_init_16 : decode cX3_init 16 = .ok (.bipush 40, 2) := by decide +kernel
theorem dX3_init_18 : decode cX3_init 18 = .ok (.if_icmp .ge 22, 3) := by decide +kernel
theorem dX3_init_21 : decode cX3_init 21 = .ok (.aload_n 0, 1) := by decide +kernel
theorem dX3_init_22 : decode cX3_init 22 = .ok (.getfield 11, 3) := by decide +kernel
theorem dX3_init_25 : decode cX3_init 25 = .ok (.iload_n 1, 1) := by decide +kernel
theorem dX3_init_26 : decode cX3_init 26 = .ok (.new 9, 3) := by decide +kernel
theorem dX3_init_29 : decode cX3_init 29 = .ok (.dup, 1) := by decide +kernel
theorem dX3_init_30 : decode cX3_init 30 = .ok (.invokespecial 17, 3) := by decide +kernel
theorem dX3_init_33 : decode cX3_init 33 = .ok (.aastore, 1) := by decide +kernel
theorem dX3_init_34 : decode cX3_init 34 = .ok (.iinc 1 1, 3) := by decide +kernel
theorem dX3_init_37 : decode cX3_init 37 = .ok (.goto (-22), 3) := by decide +kernel
theorem dX3_init_40 : decode cX3_init 40 = .ok (.return_, 1) := by decide +kernel
theorem dX3_clear_0 : decode cX3_clear 0 = .ok (.aload_n 0, 1) := by decide +kernel
theorem dX3_clear_1 : decode cX3_clear 1 = .ok (.iconst 0, 1) := by decide +kernel
theorem dX3_clear_2 : decode cX3_clear 2 = .ok (.putfield 18, 3) := by decide +kernel
theorem dX3_clear_5 : decode cX3_clear 5 = .ok (.aload_n 0, 1) := by decide +kernel
theorem dX3_clear_6 : decode cX3_clear 6 = .ok (.iconst 0, 1) := by decide +kernel
theorem dX3_clear_7 : decode cX3_clear 7 = .ok (.putfield 22, 3) := by decide +kernel
theorem dX3_clear_10 : decode cX3_clear 10 = .ok (.aload_n 0, 1) := by decide +kernel
theorem dX3_clear_11 : decode cX3_clear 11 = .ok (.iconst 0, 1) := by decide +kernel
theorem dX3_clear_12 : decode cX3_clear 12 = .ok (.putfield 25, 3) := by decide +kernel
theorem dX3_clear_15 : decode cX3_clear 15 = .ok (.aload_n 0, 1) := by decide +kernel
theorem dX3_clear_16 : decode cX3_clear 16 = .ok (.iconst 0, 1) := by decide +kernel
theorem dX3_clear_17 : decode cX3_clear 17 = .ok (.putfield 28, 3) := by decide +kernel
theorem dX3_clear_20 : decode cX3_clear 20 = .ok (.return_, 1) := by decide +kernel
theorem dX3_numberAt_0 : decode cX3_numberAt 0 = .ok (.aload_n 0, 1) := by decide +kernel
theorem dX3_numberAt_1 : decode cX3_numberAt 1 = .ok (.getfield 25, 3) := by decide +kernel
theorem dX3_numberAt_4 : decode cX3_numberAt 4 = .ok (.iload_n 1, 1) := by decide +kernel
theorem dX3_numberAt_5 : decode cX3_numberAt 5 = .ok (.iadd, 1) := by decide +kernel
theorem dX3_numberAt_6 : decode cX3_numberAt 6 = .ok (.bipush 127, 2) := by decide +kernel
theorem dX3_numberAt_8 : decode cX3_numberAt 8 = .ok (.iand, 1) := by decide +kernel
theorem dX3_numberAt_9 : decode cX3_numberAt 9 = .ok (.ireturn, 1) := by decide +kernel
theorem dX4_init_0 : decode cX4_init 0 = .ok (.aload_n 0, 1) := by decide +kernel
theorem dX4_init_1 : decode cX4_init 1 = .ok (.invokespecial 3, 3) := by decide +kernel
theorem dX4_init_4 : decode cX4_init 4 = .ok (.aload_n 0, 1) := by decide +kernel
theorem dX4_init_5 : decode cX4_init 5 = .ok (.bipush 8, 2) := by decide +kernel
theorem dX4_init_7 : decode cX4_init 7 = .ok (.newarray .int, 2) := by decide +kernel
theorem dX4_init_9 : decode cX4_init 9 = .ok (.putfield 9, 3) := by decide +kernel
theorem dX4_init_12 : decode cX4_init 12 = .ok (.aload_n 0, 1) := by decide +kernel
theorem dX4_init_13 : decode cX4_init 13 = .ok (.new 15, 3) := by decide +kernel
theorem dX4_init_16 : decode cX4_init 16 = .ok (.dup, 1) := by decide +kernel
theorem dX4_init_17 : decode cX4_init 17 = .ok (.invokespecial 17, 3) := by decide +kernel
theorem dX4_init_20 : decode cX4_init 20 = .ok (.putfield 18, 3) := by decide +kernel
theorem dX4_init_23 : decode cX4_init 23 = .ok (.return_, 1) := by decide +kernel
theorem dX5_init_0 : decode cX5_init 0 = .ok (.aload_n 0, 1) := by decide +kernel
theorem dX5_init_1 : decode cX5_init 1 = .ok (.invokespecial 3, 3) := by decide +kernel
theorem dX5_init_4 : decode cX5_init 4 = .ok (.aload_n 0, 1) := by decide +kernel
theorem dX5_init_5 : decode cX5_init 5 = .ok (.bipush 17, 2) := by decide +kernel
theorem dX5_init_7 : decode cX5_init 7 = .ok (.newarray .int, 2) := by decide +kernel
theorem dX5_init_9 : decode cX5_init 9 = .ok (.putfield 9, 3) := by decide +kernel
theorem dX5_init_12 : decode cX5_init 12 = .ok (.return_, 1) := by decide +kernel
theorem dX5_writeLink_0 : decode cX5_writeLink 0 = .ok (.aload_n 0, 1) := by decide +kernel
theorem dX5_writeLink_1 : decode cX5_writeLink 1 = .ok (.getfield 9, 3) := by decide +kernel
theorem dX5_writeLink_4 : decode cX5_writeLink 4 = .ok (.iconst 4, 1) := by decide +kernel
theorem dX5_writeLink_5 : decode cX5_writeLink 5 = .ok (.iload_n 3, 1) := by decide +kernel
theorem dX5_writeLink_6 : decode cX5_writeLink 6 = .ok (.bipush 8, 2) := by decide +kernel
theorem dX5_writeLink_8 : decode cX5_writeLink 8 = .ok (.ishr, 1) := by decide +kernel
theorem dX5_writeLink_9 : decode cX5_writeLink 9 = .ok (.iastore, 1) := by decide +kernel
theorem dX5_writeLink_10 : decode cX5_writeLink 10 = .ok (.aload_n 0, 1) := by decide +kernel
theorem dX5_writeLink_11 : decode cX5_writeLink 11 = .ok (.getfield 9, 3) := by decide +kernel
theorem dX5_writeLink_14 : decode cX5_writeLink 14 = .ok (.iconst 5, 1) := by decide +kernel
theorem dX5_writeLink_15 : decode cX5_writeLink 15 = .ok (.iload_n 3, 1) := by decide +kernel
theorem dX5_writeLink_16 : decode cX5_writeLink 16 = .ok (.sipush 255, 3) := by decide +kernel
theorem dX5_writeLink_19 : decode cX5_writeLink 19 = .ok (.iand, 1) := by decide +kernel
theorem dX5_writeLink_20 : decode cX5_writeLink 20 = .ok (.iastore, 1) := by decide +kernel
theorem dX5_writeLink_21 : decode cX5_writeLink 21 = .ok (.iload_n 1, 1) := by decide +kernel
theorem dX5_writeLink_22 : decode cX5_writeLink 22 = .ok (.sipush 192, 3) := by decide +kernel
theorem dX5_writeLink_25 : decode cX5_writeLink 25 = .ok (.if_icmp .ne 14, 3) := by decide +kernel
theorem dX5_writeLink_28 : decode cX5_writeLink 28 = .ok (.aload_n 0, 1) := by decide +kernel
theorem dX5_writeLink_29 : decode cX5_writeLink 29 = .ok (.iload_n 1, 1) := by decide +kernel
theorem dX5_writeLink_30 : decode cX5_writeLink 30 = .ok (.iload_n 2, 1) := by decide +kernel
theorem dX5_writeLink_31 : decode cX5_writeLink 31 = .ok (.bipush 6, 2) := by decide +kernel
theorem dX5_writeLink_33 : decode cX5_writeLink 33 = .ok (.invokevirtual 15, 3) := by decide +kernel
theorem dX5_writeLink_36 : decode cX5_writeLink 36 = .ok (.goto 20, 3) := by decide +kernel
theorem dX5_writeLink_39 : decode cX5_writeLink 39 = .ok (.aload_n 0, 1) := by decide +kernel
theorem dX5_writeLink_40 : decode cX5_writeLink 40 = .ok (.getfield 9, 3) := by decide +kernel
theorem dX5_writeLink_43 : decode cX5_writeLink 43 = .ok (.bipush 6, 2) := by decide +kernel
theorem dX5_writeLink_45 : decode cX5_writeLink 45 = .ok (.iload 4, 2) := by decide +kernel
theorem dX5_writeLink_47 : decode cX5_writeLink 47 = .ok (.iastore, 1) := by decide +kernel
theorem dX5_writeLink_48 : decode cX5_writeLink 48 = .ok (.aload_n 0, 1) := by decide +kernel
theorem dX5_writeLink_49 : decode cX5_writeLink 49 = .ok (.iload_n 1, 1) := by decide +kernel
theorem dX5_writeLink_50 : decode cX5_writeLink 50 = .ok (.iload_n 2, 1) := by decide +kernel
theorem dX5_writeLink_51 : decode cX5_writeLink 51 = .ok (.bipush 7, 2) := by decide +kernel
theorem dX5_writeLink_53 : decode cX5_writeLink 53 = .ok (.invokevirtual 15, 3) := by decide +kernel
theorem dX5_writeLink_56 : decode cX5_writeLink 56 = .ok (.return_, 1) := by decide +kernel
theorem dX5_writeHead_0 : decode cX5_writeHead 0 = .ok (.aload_n 0, 1) := by decide +kernel
theorem dX5_writeHead_1 : decode cX5_writeHead 1 = .ok (.getfield 9, 3) := by decide +kernel
theorem dX5_writeHead_4 : decode cX5_writeHead 4 = .ok (.iconst 0, 1) := by decide +kernel
theorem dX5_writeHead_5 : decode cX5_writeHead 5 = .ok (.iload_n 3, 1) := by decide +kernel
theorem dX5_writeHead_6 : decode cX5_writeHead 6 = .ok (.iconst 3, 1) := by decide +kernel
theorem dX5_writeHead_7 : decode cX5_writeHead 7 = .ok (.iadd, 1) := by decide +kernel
theorem dX5_writeHead_8 : decode cX5_writeHead 8 = .ok (.iastore, 1) := by decide +kernel
theorem dX5_writeHead_9 : decode cX5_writeHead 9 = .ok (.aload_n 0, 1) := by decide +kernel
theorem dX5_writeHead_10 : decode cX5_writeHead 10 = .ok (.getfield 9, 3) := by decide +kernel
theorem dX5_writeHead_13 : decode cX5_writeHead 13 = .ok (.iconst 1, 1) := by decide +kernel
theorem dX5_writeHead_14 : decode cX5_writeHead 14 = .ok (.iload_n 1, 1) := by decide +kernel
theorem dX5_writeHead_15 : decode cX5_writeHead 15 = .ok (.iastore, 1) := by decide +kernel
theorem dX5_writeHead_16 : decode cX5_writeHead 16 = .ok (.aload_n 0, 1) := by decide +kernel
theorem dX5_writeHead_17 : decode cX5_writeHead 17 = .ok (.getfield 9, 3) := by decide +kernel
theorem dX5_writeHead_20 : decode cX5_writeHead 20 = .ok (.iconst 2, 1) := by decide +kernel
theorem dX5_writeHead_21 : decode cX5_writeHead 21 = .ok (.iload_n 2, 1) := by decide +kernel
theorem dX5_writeHead_22 : decode cX5_writeHead 22 = .ok (.bipush 8, 2) := by decide +kernel
theorem dX5_writeHead_24 : decode cX5_writeHead 24 = .ok (.ishr, 1) := by decide +kernel
theorem dX5_writeHead_25 : decode cX5_writeHead 25 = .ok (.iastore, 1) := by decide +kernel
theorem dX5_writeHead_26 : decode cX5_writeHead 26 = .ok (.aload_n 0, 1) := by decide +kernel
theorem dX5_writeHead_27 : decode cX5_writeHead 27 = .ok (.getfield 9, 3) := by decide +kernel
theorem dX5_writeHead_30 : decode cX5_writeHead 30 = .ok (.iconst 3, 1) := by decide +kernel
theorem dX5_writeHead_31 : decode cX5_writeHead 31 = .ok (.iload_n 2, 1) := by decide +kernel
theorem dX5_writeHead_32 : decode cX5_writeHead 32 = .ok (.sipush 255, 3) := by decide +kernel
theorem dX5_writeHead_35 : decode cX5_writeHead 35 = .ok (.iand, 1) := by decide +kernel
theorem dX5_writeHead_36 : decode cX5_writeHead 36 = .ok (.iastore, 1) := by decide +kernel
theorem dX5_writeHead_37 : decode cX5_writeHead 37 = .ok (.aload_n 0, 1) := by decide +kernel
theorem dX5_writeHead_38 : decode cX5_writeHead 38 = .ok (.getfield 9, 3) := by decide +kernel
theorem dX5_writeHead_41 : decode cX5_writeHead 41 = .ok (.iload_n 3, 1) := by decide +kernel
theorem dX5_writeHead_42 : decode cX5_writeHead 42 = .ok (.sipush 195, 3) := by decide +kernel
theorem dX5_writeHead_45 : decode cX5_writeHead 45 = .ok (.iastore, 1) := by decide +kernel
theorem dX5_writeHead_46 : decode cX5_writeHead 46 = .ok (.aload_n 0, 1) := by decide +kernel
theorem dX5_writeHead_47 : decode cX5_writeHead 47 = .ok (.getfield 9, 3) := by decide +kernel
theorem dX5_writeHead_50 : decode cX5_writeHead 50 = .ok (.iload_n 3, 1) := by decide +kernel
theorem dX5_writeHead_51 : decode cX5_writeHead 51 = .ok (.iconst 1, 1) := by decide +kernel
theorem dX5_writeHead_52 : decode cX5_writeHead 52 = .ok (.iadd, 1) := by decide +kernel
theorem dX5_writeHead_53 : decode cX5_writeHead 53 = .ok (.iconst 2, 1) := by decide +kernel
theorem dX5_writeHead_54 : decode cX5_writeHead 54 = .ok (.iastore, 1) := by decide +kernel
theorem dX5_writeHead_55 : decode cX5_writeHead 55 = .ok (.aload_n 0, 1) := by decide +kernel
theorem dX5_writeHead_56 : decode cX5_writeHead 56 = .ok (.getfield 9, 3) := by decide +kernel
theorem dX5_writeHead_59 : decode cX5_writeHead 59 = .ok (.iload_n 3, 1) := by decide +kernel
theorem dX5_writeHead_60 : decode cX5_writeHead 60 = .ok (.iconst 2, 1) := by decide +kernel
theorem dX5_writeHead_61 : decode cX5_writeHead 61 = .ok (.iadd, 1) := by decide +kernel
theorem dX5_writeHead_62 : decode cX5_writeHead 62 = .ok (.iconst 0, 1) := by decide +kernel
theorem dX5_writeHead_63 : decode cX5_writeHead 63 = .ok (.iastore, 1) := by decide +kernel
theorem dX5_writeHead_64 : decode cX5_writeHead 64 = .ok (.aload_n 0, 1) := by decide +kernel
theorem dX5_writeHead_65 : decode cX5_writeHead 65 = .ok (.getfield 9, 3) := by decide +kernel
theorem dX5_writeHead_68 : decode cX5_writeHead 68 = .ok (.iload_n 3, 1) := by decide +kernel
theorem dX5_writeHead_69 : decode cX5_writeHead 69 = .ok (.iconst 3, 1) := by decide +kernel
theorem dX5_writeHead_70 : decode cX5_writeHead 70 = .ok (.iadd, 1) := by decide +kernel
theorem dX5_writeHead_71 : decode cX5_writeHead 71 = .ok (.iconst 0, 1) := by decide +kernel
theorem dX5_writeHead_72 : decode cX5_writeHead 72 = .ok (.iastore, 1) := by decide +kernel
theorem dX5_writeHead_73 : decode cX5_writeHead 73 = .ok (.aload_n 0, 1) := by decide +kernel
theorem dX5_writeHead_74 : decode cX5_writeHead 74 = .ok (.iload_n 3, 1) := by decide +kernel
theorem dX5_writeHead_75 : decode cX5_writeHead 75 = .ok (.iconst 4, 1) := by decide +kernel
theorem dX5_writeHead_76 : decode cX5_writeHead 76 = .ok (.iadd, 1) := by decide +kernel
theorem dX5_writeHead_77 : decode cX5_writeHead 77 = .ok (.putfield 19, 3) := by decide +kernel
theorem dX5_writeHead_80 : decode cX5_writeHead 80 = .ok (.return_, 1) := by decide +kernel
theorem dX5_plainSum_0 : decode cX5_plainSum 0 = .ok (.iconst 0, 1) := by decide +kernel
theorem dX5_plainSum_1 : decode cX5_plainSum 1 = .ok (.istore_n 1, 1) := by decide +kernel
theorem dX5_plainSum_2 : decode cX5_plainSum 2 = .ok (.iconst 0, 1) := by decide +kernel
theorem dX5_plainSum_3 : decode cX5_plainSum 3 = .ok (.istore_n 2, 1) := by decide +kernel
theorem dX5_plainSum_4 : decode cX5_plainSum 4 = .ok (.iload_n 2, 1) := by decide +kernel
theorem dX5_plainSum_5 : decode cX5_plainSum 5 = .ok (.aload_n 0, 1) := by decide +kernel
theorem dX5_plainSum_6 : decode cX5_plainSum 6 = .ok (.getfield 19, 3) := by decide +kernel
theorem dX5_plainSum_9 : decode cX5_plainSum 9 = .ok (.if_icmp .ge 18, 3) := by decide +kernel
theorem dX5_plainSum_12 : decode cX5_plainSum 12 = .ok (.iload_n 1, 1) := by decide +kernel
theorem dX5_plainSum_13 : decode cX5_plainSum 13 = .ok (.aload_n 0, 1) := by decide +kernel
theorem dX5_plainSum_14 : decode cX5_plainSum 14 = .ok (.getfield 9, 3) := by decide +kernel
theorem dX5_plainSum_17 : decode cX5_plainSum 17 = .ok (.iload_n 2, 1) := by decide +kernel
theorem dX5_plainSum_18 : decode cX5_plainSum 18 = .ok (.iaload, 1) := by decide +kernel
theorem dX5_plainSum_19 : decode cX5_plainSum 19 = .ok (.iadd, 1) := by decide +kernel
theorem dX5_plainSum_20 : decode cX5_plainSum 20 = .ok (.istore_n 1, 1) := by decide +kernel
theorem dX5_plainSum_21 : decode cX5_plainSum 21 = .ok (.iinc 2 1, 3) := by decide +kernel
theorem dX5_plainSum_24 : decode cX5_plainSum 24 = .ok (.goto (-20), 3) := by decide +kernel
theorem dX5_plainSum_27 : decode cX5_plainSum 27 = .ok (.iload_n 1, 1) := by decide +kernel
theorem dX5_plainSum_28 : decode cX5_plainSum 28 = .ok (.ireturn, 1) := by decide +kernel
theorem dX5_weightedSum_0 : decode cX5_weightedSum 0 = .ok (.iconst 0, 1) := by decide +kernel
theorem dX5_weightedSum_1 : decode cX5_weightedSum 1 = .ok (.istore_n 1, 1) := by decide +kernel
theorem dX5_weightedSum_2 : decode cX5_weightedSum 2 = .ok (.iconst 0, 1) := by decide +kernel
theorem dX5_weightedSum_3 : decode cX5_weightedSum 3 = .ok (.istore_n 2, 1) := by decide +kernel
theorem dX5_weightedSum_4 : decode cX5_weightedSum 4 = .ok (.iload_n 2, 1) := by decide +kernel
theorem dX5_weightedSum_5 : decode cX5_weightedSum 5 = .ok (.aload_n 0, 1) := by decide +kernel
theorem dX5_weightedSum_6 : decode cX5_weightedSum 6 = .ok (.getfield 19, 3) := by decide +kernel
theorem dX5_weightedSum_9 : decode cX5_weightedSum 9 = .ok (.if_icmp .ge 25, 3) := by decide +kernel
theorem dX5_weightedSum_12 : decode cX5_weightedSum 12 = .ok (.iload_n 1, 1) := by decide +kernel
theorem dX5_weightedSum_13 : decode cX5_weightedSum 13 = .ok (.aload_n 0, 1) := by decide +kernel
theorem dX5_weightedSum_14 : decode cX5_weightedSum 14 = .ok (.getfield 19, 3) := by decide +kernel
theorem dX5_weightedSum_17 : decode cX5_weightedSum 17 = .ok (.iload_n 2, 1) := by decide +kernel
theorem dX5_weightedSum_18 : decode cX5_weightedSum 18 = .ok (.isub, 1) := by decide +kernel
theorem dX5_weightedSum_19 : decode cX5_weightedSum 19 = .ok (.aload_n 0, 1) := by decide +kernel
theorem dX5_weightedSum_20 : decode cX5_weightedSum 20 = .ok (.getfield 9, 3) := by decide +kernel
theorem dX5_weightedSum_23 : decode cX5_weightedSum 23 = .ok (.iload_n 2, 1) := by decide +kernel
theorem dX5_weightedSum_24 : decode cX5_weightedSum 24 = .ok (.iaload, 1) := by decide +kernel
theorem dX5_weightedSum_25 : decode cX5_weightedSum 25 = .ok (.imul, 1) := by decide +kernel
theorem dX5_weightedSum_26 : decode cX5_weightedSum 26 = .ok (.iadd, 1) := by decide +kernel
theorem dX5_weightedSum_27 : decode cX5_weightedSum 27 = .ok (.istore_n 1, 1) := by decide +kernel
theorem dX5_weightedSum_28 : decode cX5_weightedSum 28 = .ok (.iinc 2 1, 3) := by decide +kernel
theorem dX5_weightedSum_31 : decode cX5_weightedSum 31 = .ok (.goto (-27), 3) := by decide +kernel
theorem dX5_weightedSum_34 : decode cX5_weightedSum 34 = .ok (.iload_n 1, 1) := by decide +kernel
theorem dX5_weightedSum_35 : decode cX5_weightedSum 35 = .ok (.ireturn, 1) := by decide +kernel
theorem dX5_fillChecks_0 : decode cX5_fillChecks 0 = .ok (.aload_n 0, 1) := by decide +kernel
theorem dX5_fillChecks_1 : decode cX5_fillChecks 1 = .ok (.getfield 9, 3) := by decide +kernel
theorem dX5_fillChecks_4 : decode cX5_fillChecks 4 = .ok (.iconst 0, 1) := by decide +kernel
theorem dX5_fillChecks_5 : decode cX5_fillChecks 5 = .ok (.iaload, 1) := by decide +kernel
theorem dX5_fillChecks_6 : decode cX5_fillChecks 6 = .ok (.istore_n 3, 1) := by decide +kernel
theorem dX5_fillChecks_7 : decode cX5_fillChecks 7 = .ok (.aload_n 0, 1) := by decide +kernel
theorem dX5_fillChecks_8 : decode cX5_fillChecks 8 = .ok (.getfield 19, 3) := by decide +kernel
theorem dX5_fillChecks_11 : decode cX5_fillChecks 11 = .ok (.iload_n 3, 1) := by decide +kernel
theorem dX5_fillChecks_12 : decode cX5_fillChecks 12 = .ok (.isub, 1) := by decide +kernel
theorem dX5_fillChecks_13 : decode cX5_fillChecks 13 = .ok (.istore 4, 2) := by decide +kernel
theorem dX5_fillChecks_15 : decode cX5_fillChecks 15 = .ok (.iload 4, 2) := by decide +kernel
theorem dX5_fillChecks_17 : decode cX5_fillChecks 17 = .ok (.iload_n 1, 1) := by decide +kernel
theorem dX5_fillChecks_18 : decode cX5_fillChecks 18 = .ok (.imul, 1) := by decide +kernel
theorem dX5_fillChecks_19 : decode cX5_fillChecks 19 = .ok (.iload_n 2, 1) := by decide +kernel
theorem dX5_fillChecks_20 : decode cX5_fillChecks 20 = .ok (.isub, 1) := by decide +kernel
theorem dX5_fillChecks_21 : decode cX5_fillChecks 21 = .ok (.sipush 255, 3) := by decide +kernel
theorem dX5_fillChecks_24 : decode cX5_fillChecks 24 = .ok (.irem, 1) := by decide +kernel
theorem dX5_fillChecks_25 : decode cX5_fillChecks 25 = .ok (.istore 5, 2) := by decide +kernel
theorem dX5_fillChecks_27 : decode cX5_fillChecks 27 = .ok (.iload_n 2, 1) := by decide +kernel
theorem dX5_fillChecks_28 : decode cX5_fillChecks 28 = .ok (.iload 4, 2) := by decide +kernel
theorem dX5_fillChecks_30 : decode cX5_fillChecks 30 = .ok (.iconst 1, 1) := by decide +kernel
theorem dX5_fillChecks_31 : decode cX5_fillChecks 31 = .ok (.iadd, 1) := by decide +kernel
theorem dX5_fillChecks_32 : decode cX5_fillChecks 32 = .ok (.iload_n 1, 1) := by decide +kernel
theorem dX5_fillChecks_33 : decode cX5_fillChecks 33 = .ok (.imul, 1) := by decide +kernel
theorem dX5_fillChecks_34 : decode cX5_fillChecks 34 = .ok (.isub, 1) := by decide +kernel
theorem dX5_fillChecks_35 : decode cX5_fillChecks 35 = .ok (.sipush 255, 3) := by decide +kernel
theorem dX5_fillChecks_38 : decode cX5_fillChecks 38 = .ok (.irem, 1) := by decide +kernel
theorem dX5_fillChecks_39 : decode cX5_fillChecks 39 = .ok (.istore 6, 2) := by decide +kernel
theorem dX5_fillChecks_41 : decode cX5_fillChecks 41 = .ok (.iload_n 3, 1) := by decide +kernel
theorem dX5_fillChecks_42 : decode cX5_fillChecks 42 = .ok (.iconst 1, 1) := by decide +kernel
theorem dX5_fillChecks_43 : decode cX5_fillChecks 43 = .ok (.if_icmp .lt 57, 3) := by decide +kernel
theorem dX5_fillChecks_46 : decode cX5_fillChecks 46 = .ok (.iload_n 3, 1) := by decide +kernel
theorem dX5_fillChecks_47 : decode cX5_fillChecks 47 = .ok (.aload_n 0, 1) := by decide +kernel
theorem dX5_fillChecks_48 : decode cX5_fillChecks 48 = .ok (.getfield 19, 3) := by decide +kernel
theorem dX5_fillChecks_51 : decode cX5_fillChecks 51 = .ok (.if_icmp .ge 49, 3) := by decide +kernel
theorem dX5_fillChecks_54 : decode cX5_fillChecks 54 = .ok (.aload_n 0, 1) := by decide +kernel
theorem dX5_fillChecks_55 : decode cX5_fillChecks 55 = .ok (.getfield 9, 3) := by decide +kernel
theorem dX5_fillChecks_58 : decode cX5_fillChecks 58 = .ok (.iload_n 3, 1) := by decide +kernel
theorem dX5_fillChecks_59 : decode cX5_fillChecks 59 = .ok (.iconst 1, 1) := by decide +kernel
theorem dX5_fillChecks_60 : decode cX5_fillChecks 60 = .ok (.isub, 1) := by decide +kernel
theorem dX5_fillChecks_61 : decode cX5_fillChecks 61 = .ok (.iload 5, 2) := by decide +kernel
theorem dX5_fillChecks_63 : decode cX5_fillChecks 63 = .ok (.ifCond .ge 12, 3) := by decide +kernel
theorem dX5_fillChecks_66 : decode cX5_fillChecks 66 = .ok (.iload 5, 2) := by decide +kernel
theorem dX5_fillChecks_68 : decode cX5_fillChecks 68 = .ok (.sipush 255, 3) := by decide +kernel
theorem dX5_fillChecks_71 : decode cX5_fillChecks 71 = .ok (.iadd, 1) := by decide +kernel
theorem dX5_fillChecks_72 : decode cX5_fillChecks 72 = .ok (.goto 5, 3) := by decide +kernel
theorem dX5_fillChecks_75 : decode cX5_fillChecks 75 = .ok (.iload 5, 2) := by decide +kernel
theorem dX5_fillChecks_77 : decode cX5_fillChecks 77 = .ok (.iastore, 1) := by decide +kernel
theorem dX5_fillChecks_78 : decode cX5_fillChecks 78 = .ok (.aload_n 0, 1) := by decide +kernel
theorem dX5_fillChecks_79 : decode cX5_fillChecks 79 = .ok (.getfield 9, 3) := by decide +kernel
theorem dX5_fillChecks_82 : decode cX5_fillChecks 82 = .ok (.iload_n 3, 1) := by decide +kernel
theorem dX5_fillChecks_83 : decode cX5_fillChecks 83 = .ok (.iload 6, 2) := by decide +kernel
theorem dX5_fillChecks_85 : decode cX5_fillChecks 85 = .ok (.ifCond .ge 12, 3) := by decide +kernel
theorem dX5_fillChecks_88 : decode cX5_fillChecks 88 = .ok (.iload 6, 2) := by decide +kernel
theorem dX5_fillChecks_90 : decode cX5_fillChecks 90 = .ok (.sipush 255, 3) := by decide +kernel
theorem dX5_fillChecks_93 : decode cX5_fillChecks 93 = .ok (.iadd, 1) := by decide +kernel
theorem dX5_fillChecks_94 : decode cX5_fillChecks 94 = .ok (.goto 5, 3) := by decide +kernel
theorem dX5_fillChecks_97 : decode cX5_fillChecks 97 = .ok (.iload 6, 2) := by decide +kernel
theorem dX5_fillChecks_99 : decode cX5_fillChecks 99 = .ok (.iastore, 1) := by decide +kernel
theorem dX5_fillChecks_100 : decode cX5_fillChecks 100 = .ok (.return_, 1) := by decide +kernel
theorem dX1_init_0 : decode cX1_init 0 = .ok (.aload_n 0, 1) := by decide +kernel
theorem dX1_init_1 : decode cX1_init 1 = .ok (.invokespecial 3, 3) := by decide +kernel
theorem dX1_init_4 : decode cX1_init 4 = .ok (.aload_n 0, 1) := by decide +kernel
theorem dX1_init_5 : decode cX1_init 5 = .ok (.bipush 8, 2) := by decide +kernel
theorem dX1_init_7 : decode cX1_init 7 = .ok (.bipush 8, 2) := by decide +kernel
theorem dX1_init_9 : decode cX1_init 9 = .ok (.multianewarray 9 2, 4) := by decide +kernel
theorem dX1_init_13 : decode cX1_init 13 = .ok (.putfield 11, 3) := by decide +kernel
theorem dX1_init_16 : decode cX1_init 16 = .ok (.aload_n 0, 1) := by decide +kernel
theorem dX1_init_17 : decode cX1_init 17 = .ok (.bipush 8, 2) := by decide +kernel
theorem dX1_init_19 : decode cX1_init 19 = .ok (.newarray .int, 2) := by decide +kernel
theorem dX1_init_21 : decode cX1_init 21 = .ok (.putfield 16, 3) := by decide +kernel
theorem dX1_init_24 : decode cX1_init 24 = .ok (.aload_n 0, 1) := by decide +kernel
theorem dX1_init_25 : decode cX1_init 25 = .ok (.bipush 8, 2) := by decide +kernel
