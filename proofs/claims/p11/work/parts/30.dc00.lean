theorem dX9_init_0 : decode cX9_init 0 = .ok (.aload_n 0, 1) := by decide +kernel
theorem dX9_init_1 : decode cX9_init 1 = .ok (.invokespecial 1, 3) := by decide +kernel
theorem dX9_init_4 : decode cX9_init 4 = .ok (.aload_n 0, 1) := by decide +kernel
theorem dX9_init_5 : decode cX9_init 5 = .ok (.new 7, 3) := by decide +kernel
theorem dX9_init_8 : decode cX9_init 8 = .ok (.dup, 1) := by decide +kernel
theorem dX9_init_9 : decode cX9_init 9 = .ok (.invokespecial 9, 3) := by decide +kernel
theorem dX9_init_12 : decode cX9_init 12 = .ok (.putfield 10, 3) := by decide +kernel
theorem dX9_init_15 : decode cX9_init 15 = .ok (.aload_n 0, 1) := by decide +kernel
theorem dX9_init_16 : decode cX9_init 16 = .ok (.iconst 2, 1) := by decide +kernel
theorem dX9_init_17 : decode cX9_init 17 = .ok (.anewarray 16, 3) := by decide +kernel
theorem dX9_init_20 : decode cX9_init 20 = .ok (.dup, 1) := by decide +kernel
theorem dX9_init_21 : decode cX9_init 21 = .ok (.iconst 0, 1) := by decide +kernel
theorem dX9_init_22 : decode cX9_init 22 = .ok (.new 16, 3) := by decide +kernel
theorem dX9_init_25 : decode cX9_init 25 = .ok (.dup, 1) := by decide +kernel
theorem dX9_init_26 : decode cX9_init 26 = .ok (.iconst 0, 1) := by decide +kernel
theorem dX9_init_27 : decode cX9_init 27 = .ok (.aload_n 0, 1) := by decide +kernel
theorem dX9_init_28 : decode cX9_init 28 = .ok (.getfield 10, 3) := by decide +kernel
theorem dX9_init_31 : decode cX9_init 31 = .ok (.invokespecial 18, 3) := by decide +kernel
theorem dX9_init_34 : decode cX9_init 34 = .ok (.aastore, 1) := by decide +kernel
theorem dX9_init_35 : decode cX9_init 35 = .ok (.dup, 1) := by decide +kernel
theorem dX9_init_36 : decode cX9_init 36 = .ok (.iconst 1, 1) := by decide +kernel
theorem dX9_init_37 : decode cX9_init 37 = .ok (.new 16, 3) := by decide +kernel
theorem dX9_init_40 : decode cX9_init 40 = .ok (.dup, 1) := by decide +kernel
theorem dX9_init_41 : decode cX9_init 41 = .ok (.iconst 1, 1) := by decide +kernel
theorem dX9_init_42 : decode cX9_init 42 = .ok (.aload_n 0, 1) := by decide +kernel
theorem dX9_init_43 : decode cX9_init 43 = .ok (.getfield 10, 3) := by decide +kernel
theorem dX9_init_46 : decode cX9_init 46 = .ok (.invokespecial 18, 3) := by decide +kernel
theorem dX9_init_49 : decode cX9_init 49 = .ok (.aastore, 1) := by decide +kernel
theorem dX9_init_50 : decode cX9_init 50 = .ok (.putfield 21, 3) := by decide +kernel
theorem dX9_init_53 : decode cX9_init 53 = .ok (.aload_n 0, 1) := by decide +kernel
theorem dX9_init_54 : decode cX9_init 54 = .ok (.bipush 64, 2) := by decide +kernel
theorem dX9_init_56 : decode cX9_init 56 = .ok (.newarray .int, 2) := by decide +kernel
theorem dX9_init_58 : decode cX9_init 58 = .ok (.putfield 25, 3) := by decide +kernel
theorem dX9_init_61 : decode cX9_init 61 = .ok (.return_, 1) := by decide +kernel
theorem dX9_call_0 : decode cX9_call 0 = .ok (.iload_n 1, 1) := by decide +kernel
theorem dX9_call_1 : decode cX9_call 1 = .ok (.invokestatic 29, 3) := by decide +kernel
theorem dX9_call_4 : decode cX9_call 4 = .ok (.ifCond .eq 5, 3) := by decide +kernel
theorem dX9_call_7 : decode cX9_call 7 = .ok (.iconst (-1), 1) := by decide +kernel
theorem dX9_call_8 : decode cX9_call 8 = .ok (.ireturn, 1) := by decide +kernel
theorem dX9_call_9 : decode cX9_call 9 = .ok (.aload_n 0, 1) := by decide +kernel
theorem dX9_call_10 : decode cX9_call 10 = .ok (.getfield 21, 3) := by decide +kernel
theorem dX9_call_13 : decode cX9_call 13 = .ok (.iload_n 1, 1) := by decide +kernel
theorem dX9_call_14 : decode cX9_call 14 = .ok (.aaload, 1) := by decide +kernel
theorem dX9_call_15 : decode cX9_call 15 = .ok (.invokevirtual 33, 3) := by decide +kernel
theorem dX9_call_18 : decode cX9_call 18 = .ok (.ireturn, 1) := by decide +kernel
theorem dX9_type_0 : decode cX9_type 0 = .ok (.iload_n 3, 1) := by decide +kernel
theorem dX9_type_1 : decode cX9_type 1 = .ok (.iconst 1, 1) := by decide +kernel
theorem dX9_type_2 : decode cX9_type 2 = .ok (.if_icmp .lt 9, 3) := by decide +kernel
theorem dX9_type_5 : decode cX9_type 5 = .ok (.iload_n 3, 1) := by decide +kernel
theorem dX9_type_6 : decode cX9_type 6 = .ok (.bipush 8, 2) := by decide +kernel
theorem dX9_type_8 : decode cX9_type 8 = .ok (.if_icmp .le 5, 3) := by decide +kernel
theorem dX9_type_11 : decode cX9_type 11 = .ok (.iconst (-1), 1) := by decide +kernel
theorem dX9_type_12 : decode cX9_type 12 = .ok (.ireturn, 1) := by decide +kernel
theorem dX9_type_13 : decode cX9_type 13 = .ok (.aload_n 0, 1) := by decide +kernel
theorem dX9_type_14 : decode cX9_type 14 = .ok (.getfield 37, 3) := by decide +kernel
theorem dX9_type_17 : decode cX9_type 17 = .ok (.iload_n 3, 1) := by decide +kernel
theorem dX9_type_18 : decode cX9_type 18 = .ok (.iadd, 1) := by decide +kernel
theorem dX9_type_19 : decode cX9_type 19 = .ok (.bipush 64, 2) := by decide +kernel
theorem dX9_type_21 : decode cX9_type 21 = .ok (.if_icmp .le 6, 3) := by decide +kernel
theorem dX9_type_24 : decode cX9_type 24 = .ok (.bipush (-3), 2) := by decide +kernel
theorem dX9_type_26 : decode cX9_type 26 = .ok (.ireturn, 1) := by decide +kernel
theorem dX9_type_27 : decode cX9_type 27 = .ok (.iload_n 3, 1) := by decide +kernel
theorem dX9_type_28 : decode cX9_type 28 = .ok (.iconst 1, 1) := by decide +kernel
theorem dX9_type_29 : decode cX9_type 29 = .ok (.isub, 1) := by decide +kernel
theorem dX9_type_30 : decode cX9_type 30 = .ok (.istore 4, 2) := by decide +kernel
theorem dX9_type_32 : decode cX9_type 32 = .ok (.iload 4, 2) := by decide +kernel
theorem dX9_type_34 : decode cX9_type 34 = .ok (.ifCond .lt 40, 3) := by decide +kernel
theorem dX9_type_37 : decode cX9_type 37 = .ok (.aload_n 0, 1) := by decide +kernel
theorem dX9_type_38 : decode cX9_type 38 = .ok (.getfield 25, 3) := by decide +kernel
theorem dX9_type_41 : decode cX9_type 41 = .ok (.aload_n 0, 1) := by decide +kernel
theorem dX9_type_42 : decode cX9_type 42 = .ok (.getfield 37, 3) := by decide +kernel
theorem dX9_type_45 : decode cX9_type 45 = .ok (.lload_n 1, 1) := by decide +kernel
theorem dX9_type_46 : decode cX9_type 46 = .ok (.bipush 8, 2) := by decide +kernel
theorem dX9_type_48 : decode cX9_type 48 = .ok (.iload 4, 2) := by decide +kernel
theorem dX9_type_50 : decode cX9_type 50 = .ok (.imul, 1) := by decide +kernel
theorem dX9_type_51 : decode cX9_type 51 = .ok (.lshr, 1) := by decide +kernel
theorem dX9_type_52 : decode cX9_type 52 = .ok (.l2i, 1) := by decide +kernel
theorem dX9_type_53 : decode cX9_type 53 = .ok (.sipush 255, 3) := by decide +kernel
theorem dX9_type_56 : decode cX9_type 56 = .ok (.iand, 1) := by decide +kernel
theorem dX9_type_57 : decode cX9_type 57 = .ok (.iastore, 1) := by decide +kernel
theorem dX9_type_58 : decode cX9_type 58 = .ok (.aload_n 0, 1) := by decide +kernel
theorem dX9_type_59 : decode cX9_type 59 = .ok (.dup, 1) := by decide +kernel
theorem dX9_type_60 : decode cX9_type 60 = .ok (.getfield 37, 3) := by decide +kernel
theorem dX9_type_63 : decode cX9_type 63 = .ok (.iconst 1, 1) := by decide +kernel
theorem dX9_type_64 : decode cX9_type 64 = .ok (.iadd, 1) := by decide +kernel
theorem dX9_type_65 : decode cX9_type 65 = .ok (.putfield 37, 3) := by decide +kernel
theorem dX9_type_68 : decode cX9_type 68 = .ok (.iinc 4 (-1), 3) := by decide +kernel
theorem dX9_type_71 : decode cX9_type 71 = .ok (.goto (-39), 3) := by decide +kernel
theorem dX9_type_74 : decode cX9_type 74 = .ok (.aload_n 0, 1) := by decide +kernel
theorem dX9_type_75 : decode cX9_type 75 = .ok (.getfield 37, 3) := by decide +kernel
theorem dX9_type_78 : decode cX9_type 78 = .ok (.ireturn, 1) := by decide +kernel
theorem dX9_send_0 : decode cX9_send 0 = .ok (.iload_n 1, 1) := by decide +kernel
theorem dX9_send_1 : decode cX9_send 1 = .ok (.invokestatic 29, 3) := by decide +kernel
theorem dX9_send_4 : decode cX9_send 4 = .ok (.ifCond .eq 5, 3) := by decide +kernel
theorem dX9_send_7 : decode cX9_send 7 = .ok (.iconst (-1), 1) := by decide +kernel
theorem dX9_send_8 : decode cX9_send 8 = .ok (.ireturn, 1) := by decide +kernel
theorem dX9_send_9 : decode cX9_send 9 = .ok (.aload_n 0, 1) := by decide +kernel
theorem dX9_send_10 : decode cX9_send 10 = .ok (.getfield 21, 3) := by decide +kernel
theorem dX9_send_13 : decode cX9_send 13 = .ok (.iload_n 1, 1) := by decide +kernel
theorem dX9_send_14 : decode cX9_send 14 = .ok (.aaload, 1) := by decide +kernel
theorem dX9_send_15 : decode cX9_send 15 = .ok (.aload_n 0, 1) := by decide +kernel
theorem dX9_send_16 : decode cX9_send 16 = .ok (.getfield 25, 3) := by decide +kernel
theorem dX9_send_19 : decode cX9_send 19 = .ok (.aload_n 0, 1) := by decide +kernel
theorem dX9_send_20 : decode cX9_send 20 = .ok (.getfield 37, 3) := by decide +kernel
theorem dX9_send_23 : decode cX9_send 23 = .ok (.invokevirtual 41, 3) := by decide +kernel
theorem dX9_send_26 : decode cX9_send 26 = .ok (.istore_n 2, 1) := by decide +kernel
theorem dX9_send_27 : decode cX9_send 27 = .ok (.iload_n 2, 1) := by decide +kernel
theorem dX9_send_28 : decode cX9_send 28 = .ok (.ifCond .lt 8, 3) := by decide +kernel
theorem dX9_send_31 : decode cX9_send 31 = .ok (.aload_n 0, 1) := by decide +kernel
theorem dX9_send_32 : decode cX9_send 32 = .ok (.iconst 0, 1) := by decide +kernel
theorem dX9_send_33 : decode cX9_send 33 = .ok (.putfield 37, 3) := by decide +kernel
theorem dX9_send_36 : decode cX9_send 36 = .ok (.iload_n 2, 1) := by decide +kernel
theorem dX9_send_37 : decode cX9_send 37 = .ok (.ireturn, 1) := by decide +kernel
theorem dX9_urge_0 : decode cX9_urge 0 = .ok (.iload_n 1, 1) := by decide +kernel
theorem dX9_urge_1 : decode cX9_urge 1 = .ok (.invokestatic 29, 3) := by decide +kernel
theorem dX9_urge_4 : decode cX9_urge 4 = .ok (.ifCond .ne 14, 3) := by decide +kernel
theorem dX9_urge_7 : decode cX9_urge 7 = .ok (.iload_n 2, 1) := by decide +kernel
theorem dX9_urge_8 : decode cX9_urge 8 = .ok (.ifCond .lt 10, 3) := by decide +kernel
theorem dX9_urge_11 : decode cX9_urge 11 = .ok (.iload_n 2, 1) := by decide +kernel
theorem dX9_urge_12 : decode cX9_urge 12 = .ok (.sipush 255, 3) := by decide +kernel
theorem dX9_urge_15 : decode cX9_urge 15 = .ok (.if_icmp .le 5, 3) := by decide +kernel
theorem dX9_urge_18 : decode cX9_urge 18 = .ok (.iconst (-1), 1) := by decide +kernel
theorem dX9_urge_19 : decode cX9_urge 19 = .ok (.ireturn, 1) := by decide +kernel
theorem dX9_urge_20 : decode cX9_urge 20 = .ok (.aload_n 0, 1) := by decide +kernel
theorem dX9_urge_21 : decode cX9_urge 21 = .ok (.getfield 21, 3) := by decide +kernel
theorem dX9_urge_24 : decode cX9_urge 24 = .ok (.iload_n 1, 1) := by decide +kernel
theorem dX9_urge_25 : decode cX9_urge 25 = .ok (.aaload, 1) := by decide +kernel
theorem dX9_urge_26 : decode cX9_urge 26 = .ok (.iload_n 2, 1) := by decide +kernel
theorem dX9_urge_27 : decode cX9_urge 27 = .ok (.invokevirtual 45, 3) := by decide +kernel
theorem dX9_urge_30 : decode cX9_urge 30 = .ok (.ireturn, 1) := by decide +kernel
theorem dX9_end_0 : decode cX9_end 0 = .ok (.iload_n 1, 1) := by decide +kernel
theorem dX9_end_1 : decode cX9_end 1 = .ok (.invokestatic 29, 3) := by decide +kernel
theorem dX9_end_4 : decode cX9_end 4 = .ok (.ifCond .eq 5, 3) := by decide +kernel
theorem dX9_end_7 : decode cX9_end 7 = .ok (.iconst (-1), 1) := by decide +kernel
theorem dX9_end_8 : decode cX9_end 8 = .ok (.ireturn, 1) := by decide +kernel
theorem dX9_end_9 : decode cX9_end 9 = .ok (.aload_n 0, 1) := by decide +kernel
theorem dX9_end_10 : decode cX9_end 10 = .ok (.getfield 21, 3) := by decide +kernel
theorem dX9_end_13 : decode cX9_end 13 = .ok (.iload_n 1, 1) := by decide +kernel
theorem dX9_end_14 : decode cX9_end 14 = .ok (.aaload, 1) := by decide +kernel
theorem dX9_end_15 : decode cX9_end 15 = .ok (.invokevirtual 49, 3) := by decide +kernel
theorem dX9_end_18 : decode cX9_end 18 = .ok (.ireturn, 1) := by decide +kernel
theorem dX9_take_0 : decode cX9_take 0 = .ok (.iload_n 1, 1) := by decide +kernel
theorem dX9_take_1 : decode cX9_take 1 = .ok (.invokestatic 29, 3) := by decide +kernel
theorem dX9_take_4 : decode cX9_take 4 = .ok (.ifCond .eq 5, 3) := by decide +kernel
theorem dX9_take_7 : decode cX9_take 7 = .ok (.iconst (-1), 1) := by decide +kernel
theorem dX9_take_8 : decode cX9_take 8 = .ok (.ireturn, 1) := by decide +kernel
theorem dX9_take_9 : decode cX9_take 9 = .ok (.aload_n 0, 1) := by decide +kernel
theorem dX9_take_10 : decode cX9_take 10 = .ok (.getfield 21, 3) := by decide +kernel
theorem dX9_take_13 : decode cX9_take 13 = .ok (.iload_n 1, 1) := by decide +kernel
theorem dX9_take_14 : decode cX9_take 14 = .ok (.aaload, 1) := by decide +kernel
theorem dX9_take_15 : decode cX9_take 15 = .ok (.invokevirtual 52, 3) := by decide +kernel
theorem dX9_take_18 : decode cX9_take 18 = .ok (.ireturn, 1) := by decide +kernel
theorem dX9_read_0 : decode cX9_read 0 = .ok (.iload_n 1, 1) := by decide +kernel
theorem dX9_read_1 : decode cX9_read 1 = .ok (.invokestatic 29, 3) := by decide +kernel
theorem dX9_read_4 : decode cX9_read 4 = .ok (.ifCond .eq 5, 3) := by decide +kernel
theorem dX9_read_7 : decode cX9_read 7 = .ok (.iconst (-1), 1) := by decide +kernel
theorem dX9_read_8 : decode cX9_read 8 = .ok (.ireturn, 1) := by decide +kernel
theorem dX9_read_9 : decode cX9_read 9 = .ok (.aload_n 0, 1) := by decide +kernel
theorem dX9_read_10 : decode cX9_read 10 = .ok (.getfield 21, 3) := by decide +kernel
theorem dX9_read_13 : decode cX9_read 13 = .ok (.iload_n 1, 1) := by decide +kernel
theorem dX9_read_14 : decode cX9_read 14 = .ok (.aaload, 1) := by decide +kernel
theorem dX9_read_15 : decode cX9_read 15 = .ok (.getfield 55, 3) := by decide +kernel
theorem dX9_read_18 : decode cX9_read 18 = .ok (.iload_n 2, 1) := by decide +kernel
theorem dX9_read_19 : decode cX9_read 19 = .ok (.invokevirtual 59, 3) := by decide +kernel
theorem dX9_read_22 : decode cX9_read 22 = .ok (.ireturn, 1) := by decide +kernel
theorem dX9_urgent_0 : decode cX9_urgent 0 = .ok (.iload_n 1, 1) := by decide +kernel
theorem dX9_urgent_1 : decode cX9_urgent 1 = .ok (.invokestatic 29, 3) := by decide +kernel
theorem dX9_urgent_4 : decode cX9_urgent 4 = .ok (.ifCond .eq 5, 3) := by decide +kernel
theorem dX9_urgent_7 : decode cX9_urgent 7 = .ok (.iconst (-1), 1) := by decide +kernel
theorem dX9_urgent_8 : decode cX9_urgent 8 = .ok (.ireturn, 1) := by decide +kernel
theorem dX9_urgent_9 : decode cX9_urgent 9 = .ok (.aload_n 0, 1) := by decide +kernel
theorem dX9_urgent_10 : decode cX9_urgent 10 = .ok (.getfield 21, 3) := by decide +kernel
theorem dX9_urgent_13 : decode cX9_urgent 13 = .ok (.iload_n 1, 1) := by decide +kernel
theorem dX9_urgent_14 : decode cX9_urgent 14 = .ok (.aaload, 1) := by decide +kernel
theorem dX9_urgent_15 : decode cX9_urgent 15 = .ok (.getfield 64, 3) := by decide +kernel
theorem dX9_urgent_18 : decode cX9_urgent 18 = .ok (.invokevirtual 68, 3) := by decide +kernel
theorem dX9_urgent_21 : decode cX9_urgent 21 = .ok (.ireturn, 1) := by decide +kernel
theorem dX9_fault_0 : decode cX9_fault 0 = .ok (.iload_n 1, 1) := by decide +kernel
theorem dX9_fault_1 : decode cX9_fault 1 = .ok (.iconst 1, 1) := by decide +kernel
theorem dX9_fault_2 : decode cX9_fault 2 = .ok (.if_icmp .lt 19, 3) := by decide +kernel
theorem dX9_fault_5 : decode cX9_fault 5 = .ok (.iload_n 1, 1) := by decide +kernel
theorem dX9_fault_6 : decode cX9_fault 6 = .ok (.iconst 4, 1) := by decide +kernel
theorem dX9_fault_7 : decode cX9_fault 7 = .ok (.if_icmp .gt 14, 3) := by decide +kernel
theorem dX9_fault_10 : decode cX9_fault 10 = .ok (.iload_n 2, 1) := by decide +kernel
theorem dX9_fault_11 : decode cX9_fault 11 = .ok (.aload_n 0, 1) := by decide +kernel
theorem dX9_fault_12 : decode cX9_fault 12 = .ok (.getfield 10, 3) := by decide +kernel
theorem dX9_fault_15 : decode cX9_fault 15 = .ok (.getfield 73, 3) := by decide +kernel
theorem dX9_fault_18 : decode cX9_fault 18 = .ok (.if_icmp .ge 5, 3) := by decide +kernel
theorem dX9_fault_21 : decode cX9_fault 21 = .ok (.iconst (-1), 1) := by decide +kernel
theorem dX9_fault_22 : decode cX9_fault 22 = .ok (.ireturn, 1) := by decide +kernel
theorem dX9_fault_23 : decode cX9_fault 23 = .ok (.iload_n 1, 1) := by decide +kernel
theorem dX9_fault_24 : decode cX9_fault 24 = .ok (.iconst 4, 1) := by decide +kernel
theorem dX9_fault_25 : decode cX9_fault 25 = .ok (.if_icmp .ne 23, 3) := by decide +kernel
theorem dX9_fault_28 : decode cX9_fault 28 = .ok (.iload_n 3, 1) := by decide +kernel
theorem dX9_fault_29 : decode cX9_fault 29 = .ok (.ifCond .lt 17, 3) := by decide +kernel
theorem dX9_fault_32 : decode cX9_fault 32 = .ok (.iload 4, 2) := by decide +kernel
theorem dX9_fault_34 : decode cX9_fault 34 = .ok (.iconst 1, 1) := by decide +kernel
theorem dX9_fault_35 : decode cX9_fault 35 = .ok (.if_icmp .lt 11, 3) := by decide +kernel
theorem dX9_fault_38 : decode cX9_fault 38 = .ok (.iload 4, 2) := by decide +kernel
theorem dX9_fault_40 : decode cX9_fault 40 = .ok (.sipush 255, 3) := by decide +kernel
theorem dX9_fault_43 : decode cX9_fault 43 = .ok (.if_icmp .le 5, 3) := by decide +kernel
theorem dX9_fault_46 : decode cX9_fault 46 = .ok (.iconst (-1), 1) := by decide +kernel
theorem dX9_fault_47 : decode cX9_fault 47 = .ok (.ireturn, 1) := by decide +kernel
theorem dX9_fault_48 : decode cX9_fault 48 = .ok (.aload_n 0, 1) := by decide +kernel
theorem dX9_fault_49 : decode cX9_fault 49 = .ok (.getfield 10, 3) := by decide +kernel
theorem dX9_fault_52 : decode cX9_fault 52 = .ok (.iload_n 1, 1) := by decide +kernel
theorem dX9_fault_53 : decode cX9_fault 53 = .ok (.iload_n 2, 1) := by decide +kernel
theorem dX9_fault_54 : decode cX9_fault 54 = .ok (.iload_n 3, 1) := by decide +kernel
theorem dX9_fault_55 : decode cX9_fault 55 = .ok (.iload 4, 2) := by decide +kernel
theorem dX9_fault_57 : decode cX9_fault 57 = .ok (.invokevirtual 76, 3) := by decide +kernel
theorem dX9_fault_60 : decode cX9_fault 60 = .ok (.ireturn, 1) := by decide +kernel
theorem dX9_tick_0 : decode cX9_tick 0 = .ok (.iload_n 1, 1) := by decide +kernel
theorem dX9_tick_1 : decode cX9_tick 1 = .ok (.iconst 1, 1) := by decide +kernel
theorem dX9_tick_2 : decode cX9_tick 2 = .ok (.if_icmp .lt 9, 3) := by decide +kernel
theorem dX9_tick_5 : decode cX9_tick 5 = .ok (.iload_n 1, 1) := by decide +kernel
theorem dX9_tick_6 : decode cX9_tick 6 = .ok (.bipush 20, 2) := by decide +kernel
theorem dX9_tick_8 : decode cX9_tick 8 = .ok (.if_icmp .le 5, 3) := by decide +kernel
theorem dX9_tick_11 : decode cX9_tick 11 = .ok (.iconst (-1), 1) := by decide +kernel
theorem dX9_tick_12 : decode cX9_tick 12 = .ok (.ireturn, 1) := by decide +kernel
theorem dX9_tick_13 : decode cX9_tick 13 = .ok (.aload_n 0, 1) := by decide +kernel
theorem dX9_tick_14 : decode cX9_tick 14 = .ok (.getfield 10, 3) := by decide +kernel
theorem dX9_tick_17 : decode cX9_tick 17 = .ok (.getfield 80, 3) := by decide +kernel
theorem dX9_tick_20 : decode cX9_tick 20 = .ok (.iload_n 1, 1) := by decide +kernel
theorem dX9_tick_21 : decode cX9_tick 21 = .ok (.iadd, 1) := by decide +kernel
theorem dX9_tick_22 : decode cX9_tick 22 = .ok (.sipush 3000, 3) := by decide +kernel
theorem dX9_tick_25 : decode cX9_tick 25 = .ok (.if_icmp .le 6, 3) := by decide +kernel
theorem dX9_tick_28 : decode cX9_tick 28 = .ok (.bipush (-3), 2) := by decide +kernel
theorem dX9_tick_30 : decode cX9_tick 30 = .ok (.ireturn, 1) := by decide +kernel
theorem dX9_tick_31 : decode cX9_tick 31 = .ok (.iconst 0, 1) := by decide +kernel
theorem dX9_tick_32 : decode cX9_tick 32 = .ok (.istore_n 2, 1) := by decide +kernel
theorem dX9_tick_33 : decode cX9_tick 33 = .ok (.iload_n 2, 1) := by decide +kernel
theorem dX9_tick_34 : decode cX9_tick 34 = .ok (.iload_n 1, 1) := by decide +kernel
theorem dX9_tick_35 : decode cX9_tick 35 = .ok (.if_icmp .ge 57, 3) := by decide +kernel
theorem dX9_tick_38 : decode cX9_tick 38 = .ok (.aload_n 0, 1) := by decide +kernel
theorem dX9_tick_39 : decode cX9_tick 39 = .ok (.getfield 10, 3) := by decide +kernel
theorem dX9_tick_42 : decode cX9_tick 42 = .ok (.dup, 1) := by decide +kernel
theorem dX9_tick_43 : decode cX9_tick 43 = .ok (.getfield 80, 3) := by decide +kernel
theorem dX9_tick_46 : decode cX9_tick 46 = .ok (.iconst 1, 1) := by decide +kernel
theorem dX9_tick_47 : decode cX9_tick 47 = .ok (.iadd, 1) := by decide +kernel
theorem dX9_tick_48 : decode cX9_tick 48 = .ok (.putfield 80, 3) := by decide +kernel
theorem dX9_tick_51 : decode cX9_tick 51 = .ok (.aload_n 0, 1) := by decide +kernel
theorem dX9_tick_52 : decode cX9_tick 52 = .ok (.iconst 0, 1) := by decide +kernel
theorem dX9_tick_53 : decode cX9_tick 53 = .ok (.invokevirtual 83, 3) := by decide +kernel
theorem dX9_tick_56 : decode cX9_tick 56 = .ok (.aload_n 0, 1) := by decide +kernel
theorem dX9_tick_57 : decode cX9_tick 57 = .ok (.iconst 1, 1) := by decide +kernel
theorem dX9_tick_58 : decode cX9_tick 58 = .ok (.invokevirtual 83, 3) := by decide +kernel
theorem dX9_tick_61 : decode cX9_tick 61 = .ok (.aload_n 0, 1) := by decide +kernel
theorem dX9_tick_62 : decode cX9_tick 62 = .ok (.getfield 10, 3) := by decide +kernel
theorem dX9_tick_65 : decode cX9_tick 65 = .ok (.invokevirtual 87, 3) := by decide +kernel
theorem dX9_tick_68 : decode cX9_tick 68 = .ok (.aload_n 0, 1) := by decide +kernel
theorem dX9_tick_69 : decode cX9_tick 69 = .ok (.getfield 21, 3) := by decide +kernel
theorem dX9_tick_72 : decode cX9_tick 72 = .ok (.iconst 0, 1) := by decide +kernel
theorem dX9_tick_73 : decode cX9_tick 73 = .ok (.aaload, 1) := by decide +kernel
theorem dX9_tick_74 : decode cX9_tick 74 = .ok (.invokevirtual 90, 3) := by decide +kernel
theorem dX9_tick_77 : decode cX9_tick 77 = .ok (.aload_n 0, 1) := by decide +kernel
theorem dX9_tick_78 : decode cX9_tick 78 = .ok (.getfield 21, 3) := by decide +kernel
theorem dX9_tick_81 : decode cX9_tick 81 = .ok (.iconst 1, 1) := by decide +kernel
theorem dX9_tick_82 : decode cX9_tick 82 = .ok (.aaload, 1) := by decide +kernel
theorem dX9_tick_83 : decode cX9_tick 83 = .ok (.invokevirtual 90, 3) := by decide +kernel
theorem dX9_tick_86 : decode cX9_tick 86 = .ok (.iinc 2 1, 3) := by decide +kernel
theorem dX9_tick_89 : decode cX9_tick 89 = .ok (.goto (-56), 3) := by decide +kernel
theorem dX9_tick_92 : decode cX9_tick 92 = .ok (.aload_n 0, 1) := by decide +kernel
theorem dX9_tick_93 : decode cX9_tick 93 = .ok (.getfield 10, 3) := by decide +kernel
theorem dX9_tick_96 : decode cX9_tick 96 = .ok (.getfield 80, 3) := by decide +kernel
theorem dX9_tick_99 : decode cX9_tick 99 = .ok (.ireturn, 1) := by decide +kernel
theorem dX9_told_0 : decode cX9_told 0 = .ok (.iload_n 1, 1) := by decide +kernel
theorem dX9_told_1 : decode cX9_told 1 = .ok (.invokestatic 29, 3) := by decide +kernel
theorem dX9_told_4 : decode cX9_told 4 = .ok (.ifCond .eq 5, 3) := by decide +kernel
theorem dX9_told_7 : decode cX9_told 7 = .ok (.iconst (-1), 1) := by decide +kernel
theorem dX9_told_8 : decode cX9_told 8 = .ok (.ireturn, 1) := by decide +kernel
theorem dX9_told_9 : decode cX9_told 9 = .ok (.aload_n 0, 1) := by decide +kernel
theorem dX9_told_10 : decode cX9_told 10 = .ok (.getfield 21, 3) := by decide +kernel
theorem dX9_told_13 : decode cX9_told 13 = .ok (.iload_n 1, 1) := by decide +kernel
theorem dX9_told_14 : decode cX9_told 14 = .ok (.aaload, 1) := by decide +kernel
theorem dX9_told_15 : decode cX9_told 15 = .ok (.iload_n 2, 1) := by decide +kernel
theorem dX9_told_16 : decode cX9_told 16 = .ok (.invokevirtual 93, 3) := by decide +kernel
theorem dX9_told_19 : decode cX9_told 19 = .ok (.ireturn, 1) := by decide +kernel
theorem dX9_sent_0 : decode cX9_sent 0 = .ok (.aload_n 0, 1) := by decide +kernel
theorem dX9_sent_1 : decode cX9_sent 1 = .ok (.getfield 10, 3) := by decide +kernel
theorem dX9_sent_4 : decode cX9_sent 4 = .ok (.getfield 73, 3) := by decide +kernel
theorem dX9_sent_7 : decode cX9_sent 7 = .ok (.ireturn, 1) := by decide +kernel
theorem dX9_byteOf_0 : decode cX9_byteOf 0 = .ok (.aload_n 0, 1) := by decide +kernel
theorem dX9_byteOf_1 : decode cX9_byteOf 1 = .ok (.getfield 10, 3) := by decide +kernel
theorem dX9_byteOf_4 : decode cX9_byteOf 4 = .ok (.iload_n 1, 1) := by decide +kernel
theorem dX9_byteOf_5 : decode cX9_byteOf 5 = .ok (.iload_n 2, 1) := by decide +kernel
theorem dX9_byteOf_6 : decode cX9_byteOf 6 = .ok (.invokevirtual 96, 3) := by decide +kernel
theorem dX9_byteOf_9 : decode cX9_byteOf 9 = .ok (.ireturn, 1) := by decide +kernel
theorem dX9_clock_0 : decode cX9_clock 0 = .ok (.aload_n 0, 1) := by decide +kernel
theorem dX9_clock_1 : decode cX9_clock 1 = .ok (.getfield 10, 3) := by decide +kernel
theorem dX9_clock_4 : decode cX9_clock 4 = .ok (.getfield 80, 3) := by decide +kernel
theorem dX9_clock_7 : decode cX9_clock 7 = .ok (.ireturn, 1) := by decide +kernel
theorem dX9_isNoEnd_0 : decode cX9_isNoEnd 0 = .ok (.iload_n 0, 1) := by decide +kernel
theorem dX9_isNoEnd_1 : decode cX9_isNoEnd 1 = .ok (.ifCond .eq 12, 3) := by decide +kernel
theorem dX9_isNoEnd_4 : decode cX9_isNoEnd 4 = .ok (.iload_n 0, 1) := by decide +kernel
theorem dX9_isNoEnd_5 : decode cX9_isNoEnd 5 = .ok (.iconst 1, 1) := by decide +kernel
theorem dX9_isNoEnd_6 : decode cX9_isNoEnd 6 = .ok (.if_icmp .eq 7, 3) := by decide +kernel
theorem dX9_isNoEnd_9 : decode cX9_isNoEnd 9 = .ok (.iconst 1, 1) := by decide +kernel
theorem dX9_isNoEnd_10 : decode cX9_isNoEnd 10 = .ok (.goto 4, 3) := by decide +kernel
theorem dX9_isNoEnd_13 : decode cX9_isNoEnd 13 = .ok (.iconst 0, 1) := by decide +kernel
theorem dX9_isNoEnd_14 : decode cX9_isNoEnd 14 = .ok (.ireturn, 1) := by decide +kernel
theorem dX9_deliver_0 : decode cX9_deliver 0 = .ok (.aload_n 0, 1) := by decide +kernel
theorem dX9_deliver_1 : decode cX9_deliver 1 = .ok (.getfield 10, 3) := by decide +kernel
theorem dX9_deliver_4 : decode cX9_deliver 4 = .ok (.getfield 73, 3) := by decide +kernel
theorem dX9_deliver_7 : decode cX9_deliver 7 = .ok (.istore_n 2, 1) := by decide +kernel
theorem dX9_deliver_8 : decode cX9_deliver 8 = .ok (.aload_n 0, 1) := by decide +kernel
theorem dX9_deliver_9 : decode cX9_deliver 9 = .ok (.getfield 10, 3) := by decide +kernel
theorem dX9_deliver_12 : decode cX9_deliver 12 = .ok (.getfield 100, 3) := by decide +kernel
theorem dX9_deliver_15 : decode cX9_deliver 15 = .ok (.istore_n 3, 1) := by decide +kernel
theorem dX9_deliver_16 : decode cX9_deliver 16 = .ok (.iload_n 3, 1) := by decide +kernel
theorem dX9_deliver_17 : decode cX9_deliver 17 = .ok (.iload_n 2, 1) := by decide +kernel
theorem dX9_deliver_18 : decode cX9_deliver 18 = .ok (.if_icmp .ge 56, 3) := by decide +kernel
theorem dX9_deliver_21 : decode cX9_deliver 21 = .ok (.aload_n 0, 1) := by decide +kernel
theorem dX9_deliver_22 : decode cX9_deliver 22 = .ok (.getfield 10, 3) := by decide +kernel
theorem dX9_deliver_25 : decode cX9_deliver 25 = .ok (.iload_n 3, 1) := by decide +kernel
theorem dX9_deliver_26 : decode cX9_deliver 26 = .ok (.iload_n 1, 1) := by decide +kernel
theorem dX9_deliver_27 : decode cX9_deliver 27 = .ok (.invokevirtual 103, 3) := by decide +kernel
theorem dX9_deliver_30 : decode cX9_deliver 30 = .ok (.ifCond .eq 38, 3) := by decide +kernel
theorem dX9_deliver_33 : decode cX9_deliver 33 = .ok (.aload_n 0, 1) := by decide +kernel
theorem dX9_deliver_34 : decode cX9_deliver 34 = .ok (.getfield 10, 3) := by decide +kernel
theorem dX9_deliver_37 : decode cX9_deliver 37 = .ok (.iload_n 3, 1) := by decide +kernel
theorem dX9_deliver_38 : decode cX9_deliver 38 = .ok (.invokevirtual 107, 3) := by decide +kernel
theorem dX9_deliver_41 : decode cX9_deliver 41 = .ok (.astore 4, 2) := by decide +kernel
theorem dX9_deliver_43 : decode cX9_deliver 43 = .ok (.aload 4, 2) := by decide +kernel
theorem dX9_deliver_45 : decode cX9_deliver 45 = .ok (.invokevirtual 111, 3) := by decide +kernel
theorem dX9_deliver_48 : decode cX9_deliver 48 = .ok (.ifCond .eq 20, 3) := by decide +kernel
theorem dX9_deliver_51 : decode cX9_deliver 51 = .ok (.aload_n 0, 1) := by decide +kernel
theorem dX9_deliver_52 : decode cX9_deliver 52 = .ok (.getfield 21, 3) := by decide +kernel
theorem dX9_deliver_55 : decode cX9_deliver 55 = .ok (.iconst 1, 1) := by decide +kernel
theorem dX9_deliver_56 : decode cX9_deliver 56 = .ok (.aload 4, 2) := by decide +kernel
theorem dX9_deliver_58 : decode cX9_deliver 58 = .ok (.getfield 117, 3) := by decide +kernel
theorem dX9_deliver_61 : decode cX9_deliver 61 = .ok (.isub, 1) := by decide +kernel
theorem dX9_deliver_62 : decode cX9_deliver 62 = .ok (.aaload, 1) := by decide +kernel
theorem dX9_deliver_63 : decode cX9_deliver 63 = .ok (.aload 4, 2) := by decide +kernel
theorem dX9_deliver_65 : decode cX9_deliver 65 = .ok (.invokevirtual 120, 3) := by decide +kernel
theorem dX9_deliver_68 : decode cX9_deliver 68 = .ok (.iinc 3 1, 3) := by decide +kernel
theorem dX9_deliver_71 : decode cX9_deliver 71 = .ok (.goto (-55), 3) := by decide +kernel
theorem dX9_deliver_74 : decode cX9_deliver 74 = .ok (.return_, 1) := by decide +kernel
