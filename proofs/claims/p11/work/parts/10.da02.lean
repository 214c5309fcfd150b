theorem dX5_plainSum_24 : decode cX5_plainSum 24 = .ok (.goto (-20), 3) := by decide +kernel
theorem dX5_plainSum_27 : decode cX5_plainSum 27 = .ok (.iload_n 1, 1) := by decide +kernel
theorem dX5_plainSum_28 : decode cX5_plainSum 28 = .ok (.ireturn, 1) := by decide +kernel
theorem dX5_weightedSum_0 : decode cX5_weightedSum 0 = .ok (.iconst 0, 1) := by decide +kernel
theorem dX5_weightedSum_1 : decode cX5_weightedSum 1 = .ok (.istore_n 1, 1) := by decide +kernel
theorem dX5_weightedSum_2 : decode cX5_weightedSum 2 = .ok (.iconst 0, 1) := by decide +kernel
theorem dX5_weightedSum_3 : decode cX5_weightedSum 3 = .ok (.istore_n 2, 1) := by decide +kernel
theorem dX5_weightedSum_4 : decode cX5_weightedSum 4 = .ok (.iload_n 2, 1) := by decide +kernel
theorem dX5_weightedSum_5 : decode cX5_weightedSum 5 = .ok (.aload_n 0, 1) := by decide +kernel
theorem dX5_weightedSum_6 : decode cX5_weightedSum 6 = .ok (.getfield 19, 3) := by decide +kernel
theorem dX5_weightedSum_9 : decode cX5_weightedSum 9 = .ok (.if_icmp .ge 25, 3) := by decide +kernel
theorem dX5_weightedSum_12 : decode cX5_weightedSum 12 = .ok (.iload_n 1, 1) := by decide +kernel
theorem dX5_weightedSum_13 : decode cX5_weightedSum 13 = .ok (.aload_n 0, 1) := by decide +kernel
theorem dX5_weightedSum_14 : decode cX5_weightedSum 14 = .ok (.getfield 19, 3) := by decide +kernel
theorem dX5_weightedSum_17 : decode cX5_weightedSum 17 = .ok (.iload_n 2, 1) := by decide +kernel
theorem dX5_weightedSum_18 : decode cX5_weightedSum 18 = .ok (.isub, 1) := by decide +kernel
theorem dX5_weightedSum_19 : decode cX5_weightedSum 19 = .ok (.aload_n 0, 1) := by decide +kernel
theorem dX5_weightedSum_20 : decode cX5_weightedSum 20 = .ok (.getfield 9, 3) := by decide +kernel
theorem dX5_weightedSum_23 : decode cX5_weightedSum 23 = .ok (.iload_n 2, 1) := by decide +kernel
theorem dX5_weightedSum_24 : decode cX5_weightedSum 24 = .ok (.iaload, 1) := by decide +kernel
theorem dX5_weightedSum_25 : decode cX5_weightedSum 25 = .ok (.imul, 1) := by decide +kernel
theorem dX5_weightedSum_26 : decode cX5_weightedSum 26 = .ok (.iadd, 1) := by decide +kernel
theorem dX5_weightedSum_27 : decode cX5_weightedSum 27 = .ok (.istore_n 1, 1) := by decide +kernel
theorem dX5_weightedSum_28 : decode cX5_weightedSum 28 = .ok (.iinc 2 1, 3) := by decide +kernel
theorem dX5_weightedSum_31 : decode cX5_weightedSum 31 = .ok (.goto (-27), 3) := by decide +kernel
theorem dX5_weightedSum_34 : decode cX5_weightedSum 34 = .ok (.iload_n 1, 1) := by decide +kernel
theorem dX5_weightedSum_35 : decode cX5_weightedSum 35 = .ok (.ireturn, 1) := by decide +kernel
theorem dX5_fillChecks_0 : decode cX5_fillChecks 0 = .ok (.aload_n 0, 1) := by decide +kernel
theorem dX5_fillChecks_1 : decode cX5_fillChecks 1 = .ok (.getfield 9, 3) := by decide +kernel
theorem dX5_fillChecks_4 : decode cX5_fillChecks 4 = .ok (.iconst 0, 1) := by decide +kernel
theorem dX5_fillChecks_5 : decode cX5_fillChecks 5 = .ok (.iaload, 1) := by decide +kernel
theorem dX5_fillChecks_6 : decode cX5_fillChecks 6 = .ok (.istore_n 3, 1) := by decide +kernel
theorem dX5_fillChecks_7 : decode cX5_fillChecks 7 = .ok (.aload_n 0, 1) := by decide +kernel
theorem dX5_fillChecks_8 : decode cX5_fillChecks 8 = .ok (.getfield 19, 3) := by decide +kernel
theorem dX5_fillChecks_11 : decode cX5_fillChecks 11 = .ok (.iload_n 3, 1) := by decide +kernel
theorem dX5_fillChecks_12 : decode cX5_fillChecks 12 = .ok (.isub, 1) := by decide +kernel
theorem dX5_fillChecks_13 : decode cX5_fillChecks 13 = .ok (.istore 4, 2) := by decide +kernel
theorem dX5_fillChecks_15 : decode cX5_fillChecks 15 = .ok (.iload 4, 2) := by decide +kernel
theorem dX5_fillChecks_17 : decode cX5_fillChecks 17 = .ok (.iload_n 1, 1) := by decide +kernel
theorem dX5_fillChecks_18 : decode cX5_fillChecks 18 = .ok (.imul, 1) := by decide +kernel
theorem dX5_fillChecks_19 : decode cX5_fillChecks 19 = .ok (.iload_n 2, 1) := by decide +kernel
theorem dX5_fillChecks_20 : decode cX5_fillChecks 20 = .ok (.isub, 1) := by decide +kernel
theorem dX5_fillChecks_21 : decode cX5_fillChecks 21 = .ok (.sipush 255, 3) := by decide +kernel
theorem dX5_fillChecks_24 : decode cX5_fillChecks 24 = .ok (.irem, 1) := by decide +kernel
theorem dX5_fillChecks_25 : decode cX5_fillChecks 25 = .ok (.istore 5, 2) := by decide +kernel
theorem dX5_fillChecks_27 : decode cX5_fillChecks 27 = .ok (.iload_n 2, 1) := by decide +kernel
theorem dX5_fillChecks_28 : decode cX5_fillChecks 28 = .ok (.iload 4, 2) := by decide +kernel
theorem dX5_fillChecks_30 : decode cX5_fillChecks 30 = .ok (.iconst 1, 1) := by decide +kernel
theorem dX5_fillChecks_31 : decode cX5_fillChecks 31 = .ok (.iadd, 1) := by decide +kernel
theorem dX5_fillChecks_32 : decode cX5_fillChecks 32 = .ok (.iload_n 1, 1) := by decide +kernel
theorem dX5_fillChecks_33 : decode cX5_fillChecks 33 = .ok (.imul, 1) := by decide +kernel
theorem dX5_fillChecks_34 : decode cX5_fillChecks 34 = .ok (.isub, 1) := by decide +kernel
theorem dX5_fillChecks_35 : decode cX5_fillChecks 35 = .ok (.sipush 255, 3) := by decide +kernel
theorem dX5_fillChecks_38 : decode cX5_fillChecks 38 = .ok (.irem, 1) := by decide +kernel
theorem dX5_fillChecks_39 : decode cX5_fillChecks 39 = .ok (.istore 6, 2) := by decide +kernel
theorem dX5_fillChecks_41 : decode cX5_fillChecks 41 = .ok (.iload_n 3, 1) := by decide +kernel
theorem dX5_fillChecks_42 : decode cX5_fillChecks 42 = .ok (.iconst 1, 1) := by decide +kernel
theorem dX5_fillChecks_43 : decode cX5_fillChecks 43 = .ok (.if_icmp .lt 57, 3) := by decide +kernel
theorem dX5_fillChecks_46 : decode cX5_fillChecks 46 = .ok (.iload_n 3, 1) := by decide +kernel
theorem dX5_fillChecks_47 : decode cX5_fillChecks 47 = .ok (.aload_n 0, 1) := by decide +kernel
theorem dX5_fillChecks_48 : decode cX5_fillChecks 48 = .ok (.getfield 19, 3) := by decide +kernel
theorem dX5_fillChecks_51 : decode cX5_fillChecks 51 = .ok (.if_icmp .ge 49, 3) := by decide +kernel
theorem dX5_fillChecks_54 : decode cX5_fillChecks 54 = .ok (.aload_n 0, 1) := by decide +kernel
theorem dX5_fillChecks_55 : decode cX5_fillChecks 55 = .ok (.getfield 9, 3) := by decide +kernel
theorem dX5_fillChecks_58 : decode cX5_fillChecks 58 = .ok (.iload_n 3, 1) := by decide +kernel
theorem dX5_fillChecks_59 : decode cX5_fillChecks 59 = .ok (.iconst 1, 1) := by decide +kernel
theorem dX5_fillChecks_60 : decode cX5_fillChecks 60 = .ok (.isub, 1) := by decide +kernel
theorem dX5_fillChecks_61 : decode cX5_fillChecks 61 = .ok (.iload 5, 2) := by decide +kernel
theorem dX5_fillChecks_63 : decode cX5_fillChecks 63 = .ok (.ifCond .ge 12, 3) := by decide +kernel
theorem dX5_fillChecks_66 : decode cX5_fillChecks 66 = .ok (.iload 5, 2) := by decide +kernel
theorem dX5_fillChecks_68 : decode cX5_fillChecks 68 = .ok (.sipush 255, 3) := by decide +kernel
theorem dX5_fillChecks_71 : decode cX5_fillChecks 71 = .ok (.iadd, 1) := by decide +kernel
theorem dX5_fillChecks_72 : decode cX5_fillChecks 72 = .ok (.goto 5, 3) := by decide +kernel
theorem dX5_fillChecks_75 : decode cX5_fillChecks 75 = .ok (.iload 5, 2) := by decide +kernel
theorem dX5_fillChecks_77 : decode cX5_fillChecks 77 = .ok (.iastore, 1) := by decide +kernel
theorem dX5_fillChecks_78 : decode cX5_fillChecks 78 = .ok (.aload_n 0, 1) := by decide +kernel
theorem dX5_fillChecks_79 : decode cX5_fillChecks 79 = .ok (.getfield 9, 3) := by decide +kernel
theorem dX5_fillChecks_82 : decode cX5_fillChecks 82 = .ok (.iload_n 3, 1) := by decide +kernel
theorem dX5_fillChecks_83 : decode cX5_fillChecks 83 = .ok (.iload 6, 2) := by decide +kernel
theorem dX5_fillChecks_85 : decode cX5_fillChecks 85 = .ok (.ifCond .ge 12, 3) := by decide +kernel
theorem dX5_fillChecks_88 : decode cX5_fillChecks 88 = .ok (.iload 6, 2) := by decide +kernel
theorem dX5_fillChecks_90 : decode cX5_fillChecks 90 = .ok (.sipush 255, 3) := by decide +kernel
theorem dX5_fillChecks_93 : decode cX5_fillChecks 93 = .ok (.iadd, 1) := by decide +kernel
theorem dX5_fillChecks_94 : decode cX5_fillChecks 94 = .ok (.goto 5, 3) := by decide +kernel
theorem dX5_fillChecks_97 : decode cX5_fillChecks 97 = .ok (.iload 6, 2) := by decide +kernel
theorem dX5_fillChecks_99 : decode cX5_fillChecks 99 = .ok (.iastore, 1) := by decide +kernel
theorem dX5_fillChecks_100 : decode cX5_fillChecks 100 = .ok (.return_, 1) := by decide +kernel
theorem dX5_kind_0 : decode cX5_kind 0 = .ok (.aload_n 0, 1) := by decide +kernel
theorem dX5_kind_1 : decode cX5_kind 1 = .ok (.getfield 9, 3) := by decide +kernel
theorem dX5_kind_4 : decode cX5_kind 4 = .ok (.iconst 1, 1) := by decide +kernel
theorem dX5_kind_5 : decode cX5_kind 5 = .ok (.iaload, 1) := by decide +kernel
theorem dX5_kind_6 : decode cX5_kind 6 = .ok (.sipush 240, 3) := by decide +kernel
theorem dX5_kind_9 : decode cX5_kind 9 = .ok (.iand, 1) := by decide +kernel
theorem dX5_kind_10 : decode cX5_kind 10 = .ok (.istore_n 1, 1) := by decide +kernel
theorem dX5_kind_11 : decode cX5_kind 11 = .ok (.iload_n 1, 1) := by decide +kernel
theorem dX5_kind_12 : decode cX5_kind 12 = .ok (.sipush 224, 3) := by decide +kernel
theorem dX5_kind_15 : decode cX5_kind 15 = .ok (.if_icmp .eq 16, 3) := by decide +kernel
theorem dX5_kind_18 : decode cX5_kind 18 = .ok (.iload_n 1, 1) := by decide +kernel
theorem dX5_kind_19 : decode cX5_kind 19 = .ok (.sipush 208, 3) := by decide +kernel
theorem dX5_kind_22 : decode cX5_kind 22 = .ok (.if_icmp .eq 9, 3) := by decide +kernel
theorem dX5_kind_25 : decode cX5_kind 25 = .ok (.iload_n 1, 1) := by decide +kernel
theorem dX5_kind_26 : decode cX5_kind 26 = .ok (.bipush 96, 2) := by decide +kernel
theorem dX5_kind_28 : decode cX5_kind 28 = .ok (.if_icmp .ne 7, 3) := by decide +kernel
theorem dX5_kind_31 : decode cX5_kind 31 = .ok (.iconst 1, 1) := by decide +kernel
theorem dX5_kind_32 : decode cX5_kind 32 = .ok (.goto 4, 3) := by decide +kernel
theorem dX5_kind_35 : decode cX5_kind 35 = .ok (.iconst 0, 1) := by decide +kernel
theorem dX5_kind_36 : decode cX5_kind 36 = .ok (.istore_n 2, 1) := by decide +kernel
theorem dX5_kind_37 : decode cX5_kind 37 = .ok (.iload_n 2, 1) := by decide +kernel
theorem dX5_kind_38 : decode cX5_kind 38 = .ok (.ifCond .eq 7, 3) := by decide +kernel
theorem dX5_kind_41 : decode cX5_kind 41 = .ok (.iload_n 1, 1) := by decide +kernel
theorem dX5_kind_42 : decode cX5_kind 42 = .ok (.goto 9, 3) := by decide +kernel
theorem dX5_kind_45 : decode cX5_kind 45 = .ok (.aload_n 0, 1) := by decide +kernel
theorem dX5_kind_46 : decode cX5_kind 46 = .ok (.getfield 9, 3) := by decide +kernel
theorem dX5_kind_49 : decode cX5_kind 49 = .ok (.iconst 1, 1) := by decide +kernel
theorem dX5_kind_50 : decode cX5_kind 50 = .ok (.iaload, 1) := by decide +kernel
theorem dX5_kind_51 : decode cX5_kind 51 = .ok (.ireturn, 1) := by decide +kernel
theorem dX5_headLengthOfKind_0 : decode cX5_headLengthOfKind 0 = .ok (.aload_n 0, 1) := by decide +kernel
theorem dX5_headLengthOfKind_1 : decode cX5_headLengthOfKind 1 = .ok (.invokevirtual 23, 3) := by decide +kernel
theorem dX5_headLengthOfKind_4 : decode cX5_headLengthOfKind 4 = .ok (.lookupswitch 85 #[(16, 82), (32, 82), (96, 82), (128, 76), (192, 79), (208, 76), (224, 76), (240, 82)], 76) := by decide +kernel
theorem dX5_headLengthOfKind_80 : decode cX5_headLengthOfKind 80 = .ok (.bipush 11, 2) := by decide +kernel
theorem dX5_headLengthOfKind_82 : decode cX5_headLengthOfKind 82 = .ok (.ireturn, 1) := by decide +kernel
theorem dX5_headLengthOfKind_83 : decode cX5_headLengthOfKind 83 = .ok (.bipush 10, 2) := by decide +kernel
theorem dX5_headLengthOfKind_85 : decode cX5_headLengthOfKind 85 = .ok (.ireturn, 1) := by decide +kernel
theorem dX5_headLengthOfKind_86 : decode cX5_headLengthOfKind 86 = .ok (.bipush 9, 2) := by decide +kernel
theorem dX5_headLengthOfKind_88 : decode cX5_headLengthOfKind 88 = .ok (.ireturn, 1) := by decide +kernel
theorem dX5_headLengthOfKind_89 : decode cX5_headLengthOfKind 89 = .ok (.iconst 0, 1) := by decide +kernel
theorem dX5_headLengthOfKind_90 : decode cX5_headLengthOfKind 90 = .ok (.ireturn, 1) := by decide +kernel
theorem dX5_isGood_0 : decode cX5_isGood 0 = .ok (.aload_n 0, 1) := by decide +kernel
theorem dX5_isGood_1 : decode cX5_isGood 1 = .ok (.invokevirtual 27, 3) := by decide +kernel
theorem dX5_isGood_4 : decode cX5_isGood 4 = .ok (.istore_n 1, 1) := by decide +kernel
theorem dX5_isGood_5 : decode cX5_isGood 5 = .ok (.iload_n 1, 1) := by decide +kernel
theorem dX5_isGood_6 : decode cX5_isGood 6 = .ok (.ifCond .eq 23, 3) := by decide +kernel
theorem dX5_isGood_9 : decode cX5_isGood 9 = .ok (.aload_n 0, 1) := by decide +kernel
theorem dX5_isGood_10 : decode cX5_isGood 10 = .ok (.getfield 19, 3) := by decide +kernel
theorem dX5_isGood_13 : decode cX5_isGood 13 = .ok (.iload_n 1, 1) := by decide +kernel
theorem dX5_isGood_14 : decode cX5_isGood 14 = .ok (.if_icmp .lt 15, 3) := by decide +kernel
theorem dX5_isGood_17 : decode cX5_isGood 17 = .ok (.aload_n 0, 1) := by decide +kernel
theorem dX5_isGood_18 : decode cX5_isGood 18 = .ok (.getfield 9, 3) := by decide +kernel
theorem dX5_isGood_21 : decode cX5_isGood 21 = .ok (.iconst 0, 1) := by decide +kernel
theorem dX5_isGood_22 : decode cX5_isGood 22 = .ok (.iaload, 1) := by decide +kernel
theorem dX5_isGood_23 : decode cX5_isGood 23 = .ok (.iload_n 1, 1) := by decide +kernel
theorem dX5_isGood_24 : decode cX5_isGood 24 = .ok (.iconst 1, 1) := by decide +kernel
theorem dX5_isGood_25 : decode cX5_isGood 25 = .ok (.isub, 1) := by decide +kernel
theorem dX5_isGood_26 : decode cX5_isGood 26 = .ok (.if_icmp .eq 5, 3) := by decide +kernel
theorem dX5_isGood_29 : decode cX5_isGood 29 = .ok (.iconst 0, 1) := by decide +kernel
theorem dX5_isGood_30 : decode cX5_isGood 30 = .ok (.ireturn, 1) := by decide +kernel
theorem dX5_isGood_31 : decode cX5_isGood 31 = .ok (.aload_n 0, 1) := by decide +kernel
theorem dX5_isGood_32 : decode cX5_isGood 32 = .ok (.getfield 9, 3) := by decide +kernel
theorem dX5_isGood_35 : decode cX5_isGood 35 = .ok (.iload_n 1, 1) := by decide +kernel
theorem dX5_isGood_36 : decode cX5_isGood 36 = .ok (.iconst 4, 1) := by decide +kernel
theorem dX5_isGood_37 : decode cX5_isGood 37 = .ok (.isub, 1) := by decide +kernel
theorem dX5_isGood_38 : decode cX5_isGood 38 = .ok (.iaload, 1) := by decide +kernel
theorem dX5_isGood_39 : decode cX5_isGood 39 = .ok (.sipush 195, 3) := by decide +kernel
theorem dX5_isGood_42 : decode cX5_isGood 42 = .ok (.if_icmp .ne 15, 3) := by decide +kernel
theorem dX5_isGood_45 : decode cX5_isGood 45 = .ok (.aload_n 0, 1) := by decide +kernel
theorem dX5_isGood_46 : decode cX5_isGood 46 = .ok (.getfield 9, 3) := by decide +kernel
theorem dX5_isGood_49 : decode cX5_isGood 49 = .ok (.iload_n 1, 1) := by decide +kernel
theorem dX5_isGood_50 : decode cX5_isGood 50 = .ok (.iconst 3, 1) := by decide +kernel
theorem dX5_isGood_51 : decode cX5_isGood 51 = .ok (.isub, 1) := by decide +kernel
theorem dX5_isGood_52 : decode cX5_isGood 52 = .ok (.iaload, 1) := by decide +kernel
theorem dX5_isGood_53 : decode cX5_isGood 53 = .ok (.iconst 2, 1) := by decide +kernel
theorem dX5_isGood_54 : decode cX5_isGood 54 = .ok (.if_icmp .eq 5, 3) := by decide +kernel
theorem dX5_isGood_57 : decode cX5_isGood 57 = .ok (.iconst 0, 1) := by decide +kernel
theorem dX5_isGood_58 : decode cX5_isGood 58 = .ok (.ireturn, 1) := by decide +kernel
theorem dX5_isGood_59 : decode cX5_isGood 59 = .ok (.aload_n 0, 1) := by decide +kernel
theorem dX5_isGood_60 : decode cX5_isGood 60 = .ok (.invokevirtual 30, 3) := by decide +kernel
theorem dX5_isGood_63 : decode cX5_isGood 63 = .ok (.sipush 255, 3) := by decide +kernel
theorem dX5_isGood_66 : decode cX5_isGood 66 = .ok (.irem, 1) := by decide +kernel
theorem dX5_isGood_67 : decode cX5_isGood 67 = .ok (.ifCond .ne 14, 3) := by decide +kernel
theorem dX5_isGood_70 : decode cX5_isGood 70 = .ok (.aload_n 0, 1) := by decide +kernel
theorem dX5_isGood_71 : decode cX5_isGood 71 = .ok (.invokevirtual 33, 3) := by decide +kernel
theorem dX5_isGood_74 : decode cX5_isGood 74 = .ok (.sipush 255, 3) := by decide +kernel
theorem dX5_isGood_77 : decode cX5_isGood 77 = .ok (.irem, 1) := by decide +kernel
theorem dX5_isGood_78 : decode cX5_isGood 78 = .ok (.ifCond .eq 5, 3) := by decide +kernel
theorem dX5_isGood_81 : decode cX5_isGood 81 = .ok (.iconst 0, 1) := by decide +kernel
theorem dX5_isGood_82 : decode cX5_isGood 82 = .ok (.ireturn, 1) := by decide +kernel
theorem dX5_isGood_83 : decode cX5_isGood 83 = .ok (.aload_n 0, 1) := by decide +kernel
theorem dX5_isGood_84 : decode cX5_isGood 84 = .ok (.aload_n 0, 1) := by decide +kernel
theorem dX5_isGood_85 : decode cX5_isGood 85 = .ok (.getfield 19, 3) := by decide +kernel
theorem dX5_isGood_88 : decode cX5_isGood 88 = .ok (.iload_n 1, 1) := by decide +kernel
theorem dX5_isGood_89 : decode cX5_isGood 89 = .ok (.isub, 1) := by decide +kernel
theorem dX5_isGood_90 : decode cX5_isGood 90 = .ok (.invokevirtual 36, 3) := by decide +kernel
theorem dX5_isGood_93 : decode cX5_isGood 93 = .ok (.ireturn, 1) := by decide +kernel
theorem dX5_hasBodyOfKind_0 : decode cX5_hasBodyOfKind 0 = .ok (.aload_n 0, 1) := by decide +kernel
theorem dX5_hasBodyOfKind_1 : decode cX5_hasBodyOfKind 1 = .ok (.invokevirtual 23, 3) := by decide +kernel
theorem dX5_hasBodyOfKind_4 : decode cX5_hasBodyOfKind 4 = .ok (.lookupswitch 51 #[(16, 40), (240, 28)], 28) := by decide +kernel
theorem dX5_hasBodyOfKind_32 : decode cX5_hasBodyOfKind 32 = .ok (.iload_n 1, 1) := by decide +kernel
theorem dX5_hasBodyOfKind_33 : decode cX5_hasBodyOfKind 33 = .ok (.bipush 8, 2) := by decide +kernel
theorem dX5_hasBodyOfKind_35 : decode cX5_hasBodyOfKind 35 = .ok (.if_icmp .gt 7, 3) := by decide +kernel
theorem dX5_hasBodyOfKind_38 : decode cX5_hasBodyOfKind 38 = .ok (.iconst 1, 1) := by decide +kernel
theorem dX5_hasBodyOfKind_39 : decode cX5_hasBodyOfKind 39 = .ok (.goto 4, 3) := by decide +kernel
theorem dX5_hasBodyOfKind_42 : decode cX5_hasBodyOfKind 42 = .ok (.iconst 0, 1) := by decide +kernel
theorem dX5_hasBodyOfKind_43 : decode cX5_hasBodyOfKind 43 = .ok (.ireturn, 1) := by decide +kernel
theorem dX5_hasBodyOfKind_44 : decode cX5_hasBodyOfKind 44 = .ok (.iload_n 1, 1) := by decide +kernel
theorem dX5_hasBodyOfKind_45 : decode cX5_hasBodyOfKind 45 = .ok (.iconst 1, 1) := by decide +kernel
theorem dX5_hasBodyOfKind_46 : decode cX5_hasBodyOfKind 46 = .ok (.if_icmp .ne 7, 3) := by decide +kernel
theorem dX5_hasBodyOfKind_49 : decode cX5_hasBodyOfKind 49 = .ok (.iconst 1, 1) := by decide +kernel
theorem dX5_hasBodyOfKind_50 : decode cX5_hasBodyOfKind 50 = .ok (.goto 4, 3) := by decide +kernel
theorem dX5_hasBodyOfKind_53 : decode cX5_hasBodyOfKind 53 = .ok (.iconst 0, 1) := by decide +kernel
theorem dX5_hasBodyOfKind_54 : decode cX5_hasBodyOfKind 54 = .ok (.ireturn, 1) := by decide +kernel
theorem dX5_hasBodyOfKind_55 : decode cX5_hasBodyOfKind 55 = .ok (.iload_n 1, 1) := by decide +kernel
theorem dX5_hasBodyOfKind_56 : decode cX5_hasBodyOfKind 56 = .ok (.ifCond .ne 7, 3) := by decide +kernel
theorem dX5_hasBodyOfKind_59 : decode cX5_hasBodyOfKind 59 = .ok (.iconst 1, 1) := by decide +kernel
theorem dX5_hasBodyOfKind_60 : decode cX5_hasBodyOfKind 60 = .ok (.goto 4, 3) := by decide +kernel
theorem dX5_hasBodyOfKind_63 : decode cX5_hasBodyOfKind 63 = .ok (.iconst 0, 1) := by decide +kernel
theorem dX5_hasBodyOfKind_64 : decode cX5_hasBodyOfKind 64 = .ok (.ireturn, 1) := by decide +kernel
theorem dX5_pairAt_0 : decode cX5_pairAt 0 = .ok (.aload_n 0, 1) := by decide +kernel
theorem dX5_pairAt_1 : decode cX5_pairAt 1 = .ok (.getfield 9, 3) := by decide +kernel
theorem dX5_pairAt_4 : decode cX5_pairAt 4 = .ok (.iload_n 1, 1) := by decide +kernel
theorem dX5_pairAt_5 : decode cX5_pairAt 5 = .ok (.iaload, 1) := by decide +kernel
theorem dX5_pairAt_6 : decode cX5_pairAt 6 = .ok (.sipush 256, 3) := by decide +kernel
theorem dX5_pairAt_9 : decode cX5_pairAt 9 = .ok (.imul, 1) := by decide +kernel
theorem dX5_pairAt_10 : decode cX5_pairAt 10 = .ok (.aload_n 0, 1) := by decide +kernel
theorem dX5_pairAt_11 : decode cX5_pairAt 11 = .ok (.getfield 9, 3) := by decide +kernel
theorem dX5_pairAt_14 : decode cX5_pairAt 14 = .ok (.iload_n 1, 1) := by decide +kernel
theorem dX5_pairAt_15 : decode cX5_pairAt 15 = .ok (.iconst 1, 1) := by decide +kernel
theorem dX5_pairAt_16 : decode cX5_pairAt 16 = .ok (.iadd, 1) := by decide +kernel
theorem dX5_pairAt_17 : decode cX5_pairAt 17 = .ok (.iaload, 1) := by decide +kernel
theorem dX5_pairAt_18 : decode cX5_pairAt 18 = .ok (.iadd, 1) := by decide +kernel
theorem dX5_pairAt_19 : decode cX5_pairAt 19 = .ok (.ireturn, 1) := by decide +kernel
theorem dX5_to_0 : decode cX5_to 0 = .ok (.aload_n 0, 1) := by decide +kernel
theorem dX5_to_1 : decode cX5_to 1 = .ok (.iconst 2, 1) := by decide +kernel
theorem dX5_to_2 : decode cX5_to 2 = .ok (.invokevirtual 40, 3) := by decide +kernel
theorem dX5_to_5 : decode cX5_to 5 = .ok (.ireturn, 1) := by decide +kernel
theorem dX5_from_0 : decode cX5_from 0 = .ok (.aload_n 0, 1) := by decide +kernel
theorem dX5_from_1 : decode cX5_from 1 = .ok (.iconst 4, 1) := by decide +kernel
theorem dX5_from_2 : decode cX5_from 2 = .ok (.invokevirtual 40, 3) := by decide +kernel
theorem dX5_from_5 : decode cX5_from 5 = .ok (.ireturn, 1) := by decide +kernel
theorem dX5_credit_0 : decode cX5_credit 0 = .ok (.aload_n 0, 1) := by decide +kernel
theorem dX5_credit_1 : decode cX5_credit 1 = .ok (.getfield 9, 3) := by decide +kernel
theorem dX5_credit_4 : decode cX5_credit 4 = .ok (.iconst 1, 1) := by decide +kernel
theorem dX5_credit_5 : decode cX5_credit 5 = .ok (.iaload, 1) := by decide +kernel
theorem dX5_credit_6 : decode cX5_credit 6 = .ok (.bipush 15, 2) := by decide +kernel
theorem dX5_credit_8 : decode cX5_credit 8 = .ok (.iand, 1) := by decide +kernel
theorem dX5_credit_9 : decode cX5_credit 9 = .ok (.ireturn, 1) := by decide +kernel
theorem dX5_number_0 : decode cX5_number 0 = .ok (.aload_n 0, 1) := by decide +kernel
theorem dX5_number_1 : decode cX5_number 1 = .ok (.getfield 9, 3) := by decide +kernel
theorem dX5_number_4 : decode cX5_number 4 = .ok (.iconst 4, 1) := by decide +kernel
theorem dX5_number_5 : decode cX5_number 5 = .ok (.iaload, 1) := by decide +kernel
theorem dX5_number_6 : decode cX5_number 6 = .ok (.bipush 127, 2) := by decide +kernel
theorem dX5_number_8 : decode cX5_number 8 = .ok (.iand, 1) := by decide +kernel
theorem dX5_number_9 : decode cX5_number 9 = .ok (.ireturn, 1) := by decide +kernel
theorem dX5_isLast_0 : decode cX5_isLast 0 = .ok (.aload_n 0, 1) := by decide +kernel
theorem dX5_isLast_1 : decode cX5_isLast 1 = .ok (.getfield 9, 3) := by decide +kernel
theorem dX5_isLast_4 : decode cX5_isLast 4 = .ok (.iconst 4, 1) := by decide +kernel
theorem dX5_isLast_5 : decode cX5_isLast 5 = .ok (.iaload, 1) := by decide +kernel
theorem dX5_isLast_6 : decode cX5_isLast 6 = .ok (.sipush 128, 3) := by decide +kernel
theorem dX5_isLast_9 : decode cX5_isLast 9 = .ok (.iand, 1) := by decide +kernel
theorem dX5_isLast_10 : decode cX5_isLast 10 = .ok (.ifCond .eq 7, 3) := by decide +kernel
theorem dX5_isLast_13 : decode cX5_isLast 13 = .ok (.iconst 1, 1) := by decide +kernel
theorem dX5_isLast_14 : decode cX5_isLast 14 = .ok (.goto 4, 3) := by decide +kernel
theorem dX5_isLast_17 : decode cX5_isLast 17 = .ok (.iconst 0, 1) := by decide +kernel
theorem dX5_isLast_18 : decode cX5_isLast 18 = .ok (.ireturn, 1) := by decide +kernel
theorem dX5_reason_0 : decode cX5_reason 0 = .ok (.aload_n 0, 1) := by decide +kernel
theorem dX5_reason_1 : decode cX5_reason 1 = .ok (.getfield 9, 3) := by decide +kernel
theorem dX5_reason_4 : decode cX5_reason 4 = .ok (.bipush 6, 2) := by decide +kernel
theorem dX5_reason_6 : decode cX5_reason 6 = .ok (.iaload, 1) := by decide +kernel
theorem dX5_reason_7 : decode cX5_reason 7 = .ok (.ireturn, 1) := by decide +kernel
theorem dX6_init_0 : decode cX6_init 0 = .ok (.aload_n 0, 1) := by decide +kernel
theorem dX6_init_1 : decode cX6_init 1 = .ok (.invokespecial 3, 3) := by decide +kernel
theorem dX6_init_4 : decode cX6_init 4 = .ok (.aload_n 0, 1) := by decide +kernel
theorem dX6_init_5 : decode cX6_init 5 = .ok (.sipush 512, 3) := by decide +kernel
theorem dX6_init_8 : decode cX6_init 8 = .ok (.newarray .int, 2) := by decide +kernel
theorem dX6_init_10 : decode cX6_init 10 = .ok (.putfield 9, 3) := by decide +kernel
theorem dX6_init_13 : decode cX6_init 13 = .ok (.return_, 1) := by decide +kernel
theorem dX6_clear_0 : decode cX6_clear 0 = .ok (.aload_n 0, 1) := by decide +kernel
theorem dX6_clear_1 : decode cX6_clear 1 = .ok (.iconst 0, 1) := by decide +kernel
theorem dX6_clear_2 : decode cX6_clear 2 = .ok (.putfield 15, 3) := by decide +kernel
theorem dX6_clear_5 : decode cX6_clear 5 = .ok (.aload_n 0, 1) := by decide +kernel
theorem dX6_clear_6 : decode cX6_clear 6 = .ok (.iconst 0, 1) := by decide +kernel
theorem dX6_clear_7 : decode cX6_clear 7 = .ok (.putfield 19, 3) := by decide +kernel
theorem dX6_clear_10 : decode cX6_clear 10 = .ok (.return_, 1) := by decide +kernel
theorem dX6_accept_0 : decode cX6_accept 0 = .ok (.iload_n 1, 1) := by decide +kernel
theorem dX6_accept_1 : decode cX6_accept 1 = .ok (.aload_n 0, 1) := by decide +kernel
theorem dX6_accept_2 : decode cX6_accept 2 = .ok (.getfield 19, 3) := by decide +kernel
theorem dX6_accept_5 : decode cX6_accept 5 = .ok (.if_icmp .ne 13, 3) := by decide +kernel
theorem dX6_accept_8 : decode cX6_accept 8 = .ok (.aload_n 0, 1) := by decide +kernel
theorem dX6_accept_9 : decode cX6_accept 9 = .ok (.getfield 15, 3) := by decide +kernel
theorem dX6_accept_12 : decode cX6_accept 12 = .ok (.sipush 512, 3) := by decide +kernel
theorem dX6_accept_15 : decode cX6_accept 15 = .ok (.if_icmp .lt 4, 3) := by decide +kernel
theorem dX6_accept_18 : decode cX6_accept 18 = .ok (.return_, 1) := by decide +kernel
theorem dX6_accept_19 : decode cX6_accept 19 = .ok (.aload_n 0, 1) := by decide +kernel
theorem dX6_accept_20 : decode cX6_accept 20 = .ok (.getfield 9, 3) := by decide +kernel
theorem dX6_accept_23 : decode cX6_accept 23 = .ok (.aload_n 0, 1) := by decide +kernel
theorem dX6_accept_24 : decode cX6_accept 24 = .ok (.getfield 22, 3) := by decide +kernel
theorem dX6_accept_27 : decode cX6_accept 27 = .ok (.aload_n 0, 1) := by decide +kernel
theorem dX6_accept_28 : decode cX6_accept 28 = .ok (.getfield 15, 3) := by decide +kernel
theorem dX6_accept_31 : decode cX6_accept 31 = .ok (.iadd, 1) := by decide +kernel
theorem dX6_accept_32 : decode cX6_accept 32 = .ok (.sipush 512, 3) := by decide +kernel
theorem dX6_accept_35 : decode cX6_accept 35 = .ok (.irem, 1) := by decide +kernel
theorem dX6_accept_36 : decode cX6_accept 36 = .ok (.iload_n 2, 1) := by decide +kernel
theorem dX6_accept_37 : decode cX6_accept 37 = .ok (.iastore, 1) := by decide +kernel
theorem dX6_accept_38 : decode cX6_accept 38 = .ok (.aload_n 0, 1) := by decide +kernel
theorem dX6_accept_39 : decode cX6_accept 39 = .ok (.dup, 1) := by decide +kernel
theorem dX6_accept_40 : decode cX6_accept 40 = .ok (.getfield 15, 3) := by decide +kernel
theorem dX6_accept_43 : decode cX6_accept 43 = .ok (.iconst 1, 1) := by decide +kernel
theorem dX6_accept_44 : decode cX6_accept 44 = .ok (.iadd, 1) := by decide +kernel
theorem dX6_accept_45 : decode cX6_accept 45 = .ok (.putfield 15, 3) := by decide +kernel
theorem dX6_accept_48 : decode cX6_accept 48 = .ok (.aload_n 0, 1) := by decide +kernel
theorem dX6_accept_49 : decode cX6_accept 49 = .ok (.aload_n 0, 1) := by decide +kernel
theorem dX6_accept_50 : decode cX6_accept 50 = .ok (.getfield 19, 3) := by decide +kernel
theorem dX6_accept_53 : decode cX6_accept 53 = .ok (.iconst 1, 1) := by decide +kernel
theorem dX6_accept_54 : decode cX6_accept 54 = .ok (.iadd, 1) := by decide +kernel
theorem dX6_accept_55 : decode cX6_accept 55 = .ok (.bipush 127, 2) := by decide +kernel
theorem dX6_accept_57 : decode cX6_accept 57 = .ok (.iand, 1) := by decide +kernel
theorem dX6_accept_58 : decode cX6_accept 58 = .ok (.putfield 19, 3) := by decide +kernel
theorem dX6_accept_61 : decode cX6_accept 61 = .ok (.return_, 1) := by decide +kernel
theorem dX6_takeByte_0 : decode cX6_takeByte 0 = .ok (.aload_n 0, 1) := by decide +kernel
theorem dX6_takeByte_1 : decode cX6_takeByte 1 = .ok (.getfield 15, 3) := by decide +kernel
theorem dX6_takeByte_4 : decode cX6_takeByte 4 = .ok (.ifCond .ne 6, 3) := by decide +kernel
theorem dX6_takeByte_7 : decode cX6_takeByte 7 = .ok (.bipush (-2), 2) := by decide +kernel
theorem dX6_takeByte_9 : decode cX6_takeByte 9 = .ok (.ireturn, 1) := by decide +kernel
theorem dX6_takeByte_10 : decode cX6_takeByte 10 = .ok (.aload_n 0, 1) := by decide +kernel
theorem dX6_takeByte_11 : decode cX6_takeByte 11 = .ok (.getfield 9, 3) := by decide +kernel
theorem dX6_takeByte_14 : decode cX6_takeByte 14 = .ok (.aload_n 0, 1) := by decide +kernel
theorem dX6_takeByte_15 : decode cX6_takeByte 15 = .ok (.getfield 22, 3) := by decide +kernel
theorem dX6_takeByte_18 : decode cX6_takeByte 18 = .ok (.iaload, 1) := by decide +kernel
theorem dX6_takeByte_19 : decode cX6_takeByte 19 = .ok (.istore_n 1, 1) := by decide +kernel
theorem dX6_takeByte_20 : decode cX6_takeByte 20 = .ok (.aload_n 0, 1) := by decide +kernel
theorem dX6_takeByte_21 : decode cX6_takeByte 21 = .ok (.aload_n 0, 1) := by decide +kernel
theorem dX6_takeByte_22 : decode cX6_takeByte 22 = .ok (.getfield 22, 3) := by decide +kernel
theorem dX6_takeByte_25 : decode cX6_takeByte 25 = .ok (.iconst 1, 1) := by decide +kernel
theorem dX6_takeByte_26 : decode cX6_takeByte 26 = .ok (.iadd, 1) := by decide +kernel
theorem dX6_takeByte_27 : decode cX6_takeByte 27 = .ok (.sipush 512, 3) := by decide +kernel
theorem dX6_takeByte_30 : decode cX6_takeByte 30 = .ok (.irem, 1) := by decide +kernel
theorem dX6_takeByte_31 : decode cX6_takeByte 31 = .ok (.putfield 22, 3) := by decide +kernel
theorem dX6_takeByte_34 : decode cX6_takeByte 34 = .ok (.aload_n 0, 1) := by decide +kernel
theorem dX6_takeByte_35 : decode cX6_takeByte 35 = .ok (.dup, 1) := by decide +kernel
theorem dX6_takeByte_36 : decode cX6_takeByte 36 = .ok (.getfield 15, 3) := by decide +kernel
theorem dX6_takeByte_39 : decode cX6_takeByte 39 = .ok (.iconst 1, 1) := by decide +kernel
theorem dX6_takeByte_40 : decode cX6_takeByte 40 = .ok (.isub, 1) := by decide +kernel
theorem dX6_takeByte_41 : decode cX6_takeByte 41 = .ok (.putfield 15, 3) := by decide +kernel
theorem dX6_takeByte_44 : decode cX6_takeByte 44 = .ok (.iload_n 1, 1) := by decide +kernel
theorem dX6_takeByte_45 : decode cX6_takeByte 45 = .ok (.ireturn, 1) := by decide +kernel
theorem dX7_init_0 : decode cX7_init 0 = .ok (.aload_n 0, 1) := by decide +kernel
theorem dX7_init_1 : decode cX7_init 1 = .ok (.invokespecial 3, 3) := by decide +kernel
theorem dX7_init_4 : decode cX7_init 4 = .ok (.aload_n 0, 1) := by decide +kernel
theorem dX7_init_5 : decode cX7_init 5 = .ok (.bipush 8, 2) := by decide +kernel
theorem dX7_init_7 : decode cX7_init 7 = .ok (.newarray .int, 2) := by decide +kernel
theorem dX7_init_9 : decode cX7_init 9 = .ok (.putfield 9, 3) := by decide +kernel
theorem dX7_init_12 : decode cX7_init 12 = .ok (.aload_n 0, 1) := by decide +kernel
theorem dX7_init_13 : decode cX7_init 13 = .ok (.new 15, 3) := by decide +kernel
theorem dX7_init_16 : decode cX7_init 16 = .ok (.dup, 1) := by decide +kernel
theorem dX7_init_17 : decode cX7_init 17 = .ok (.invokespecial 17, 3) := by decide +kernel
theorem dX7_init_20 : decode cX7_init 20 = .ok (.putfield 18, 3) := by decide +kernel
theorem dX7_init_23 : decode cX7_init 23 = .ok (.return_, 1) := by decide +kernel
theorem dX7_clear_0 : decode cX7_clear 0 = .ok (.aload_n 0, 1) := by decide +kernel
theorem dX7_clear_1 : decode cX7_clear 1 = .ok (.iconst 0, 1) := by decide +kernel
theorem dX7_clear_2 : decode cX7_clear 2 = .ok (.putfield 22, 3) := by decide +kernel
theorem dX7_clear_5 : decode cX7_clear 5 = .ok (.aload_n 0, 1) := by decide +kernel
theorem dX7_clear_6 : decode cX7_clear 6 = .ok (.iconst 0, 1) := by decide +kernel
theorem dX7_clear_7 : decode cX7_clear 7 = .ok (.putfield 26, 3) := by decide +kernel
theorem dX7_clear_10 : decode cX7_clear 10 = .ok (.aload_n 0, 1) := by decide +kernel
theorem dX7_clear_11 : decode cX7_clear 11 = .ok (.getfield 18, 3) := by decide +kernel
theorem dX7_clear_14 : decode cX7_clear 14 = .ok (.invokevirtual 29, 3) := by decide +kernel
theorem dX7_clear_17 : decode cX7_clear 17 = .ok (.return_, 1) := by decide +kernel
theorem dX7_add_0 : decode cX7_add 0 = .ok (.aload_n 0, 1) := by decide +kernel
theorem dX7_add_1 : decode cX7_add 1 = .ok (.getfield 22, 3) := by decide +kernel
theorem dX7_add_4 : decode cX7_add 4 = .ok (.bipush 8, 2) := by decide +kernel
theorem dX7_add_6 : decode cX7_add 6 = .ok (.if_icmp .lt 6, 3) := by decide +kernel
theorem dX7_add_9 : decode cX7_add 9 = .ok (.bipush (-3), 2) := by decide +kernel
theorem dX7_add_11 : decode cX7_add 11 = .ok (.ireturn, 1) := by decide +kernel
theorem dX7_add_12 : decode cX7_add 12 = .ok (.aload_n 0, 1) := by decide +kernel
theorem dX7_add_13 : decode cX7_add 13 = .ok (.getfield 9, 3) := by decide +kernel
theorem dX7_add_16 : decode cX7_add 16 = .ok (.aload_n 0, 1) := by decide +kernel
theorem dX7_add_17 : decode cX7_add 17 = .ok (.getfield 22, 3) := by decide +kernel
theorem dX7_add_20 : decode cX7_add 20 = .ok (.iload_n 1, 1) := by decide +kernel
theorem dX7_add_21 : decode cX7_add 21 = .ok (.iastore, 1) := by decide +kernel
theorem dX7_add_22 : decode cX7_add 22 = .ok (.aload_n 0, 1) := by decide +kernel
theorem dX7_add_23 : decode cX7_add 23 = .ok (.dup, 1) := by decide +kernel
theorem dX7_add_24 : decode cX7_add 24 = .ok (.getfield 22, 3) := by decide +kernel
theorem dX7_add_27 : decode cX7_add 27 = .ok (.iconst 1, 1) := by decide +kernel
theorem dX7_add_28 : decode cX7_add 28 = .ok (.iadd, 1) := by decide +kernel
theorem dX7_add_29 : decode cX7_add 29 = .ok (.putfield 22, 3) := by decide +kernel
theorem dX7_add_32 : decode cX7_add 32 = .ok (.aload_n 0, 1) := by decide +kernel
theorem dX7_add_33 : decode cX7_add 33 = .ok (.getfield 22, 3) := by decide +kernel
theorem dX7_add_36 : decode cX7_add 36 = .ok (.ireturn, 1) := by decide +kernel
theorem dX7_maySendNext_0 : decode cX7_maySendNext 0 = .ok (.aload_n 0, 1) := by decide +kernel
theorem dX7_maySendNext_1 : decode cX7_maySendNext 1 = .ok (.getfield 22, 3) := by decide +kernel
theorem dX7_maySendNext_4 : decode cX7_maySendNext 4 = .ok (.ifCond .le 17, 3) := by decide +kernel
theorem dX7_maySendNext_7 : decode cX7_maySendNext 7 = .ok (.aload_n 0, 1) := by decide +kernel
theorem dX7_maySendNext_8 : decode cX7_maySendNext 8 = .ok (.getfield 18, 3) := by decide +kernel
theorem dX7_maySendNext_11 : decode cX7_maySendNext 11 = .ok (.getfield 32, 3) := by decide +kernel
theorem dX7_maySendNext_14 : decode cX7_maySendNext 14 = .ok (.ifCond .ne 7, 3) := by decide +kernel
theorem dX7_maySendNext_17 : decode cX7_maySendNext 17 = .ok (.iconst 1, 1) := by decide +kernel
theorem dX7_maySendNext_18 : decode cX7_maySendNext 18 = .ok (.goto 4, 3) := by decide +kernel
theorem dX7_maySendNext_21 : decode cX7_maySendNext 21 = .ok (.iconst 0, 1) := by decide +kernel
theorem dX7_maySendNext_22 : decode cX7_maySendNext 22 = .ok (.ireturn, 1) := by decide +kernel
theorem dX7_dropUnsent_0 : decode cX7_dropUnsent 0 = .ok (.aload_n 0, 1) := by decide +kernel
theorem dX7_dropUnsent_1 : decode cX7_dropUnsent 1 = .ok (.aload_n 0, 1) := by decide +kernel
theorem dX7_dropUnsent_2 : decode cX7_dropUnsent 2 = .ok (.getfield 18, 3) := by decide +kernel
theorem dX7_dropUnsent_5 : decode cX7_dropUnsent 5 = .ok (.getfield 32, 3) := by decide +kernel
theorem dX7_dropUnsent_8 : decode cX7_dropUnsent 8 = .ok (.ifCond .le 7, 3) := by decide +kernel
theorem dX7_dropUnsent_11 : decode cX7_dropUnsent 11 = .ok (.iconst 1, 1) := by decide +kernel
theorem dX7_dropUnsent_12 : decode cX7_dropUnsent 12 = .ok (.goto 4, 3) := by decide +kernel
theorem dX7_dropUnsent_15 : decode cX7_dropUnsent 15 = .ok (.iconst 0, 1) := by decide +kernel
theorem dX7_dropUnsent_16 : decode cX7_dropUnsent 16 = .ok (.putfield 22, 3) := by decide +kernel
theorem dX7_dropUnsent_19 : decode cX7_dropUnsent 19 = .ok (.return_, 1) := by decide +kernel
theorem dX7_readReceipt_0 : decode cX7_readReceipt 0 = .ok (.aload_n 0, 1) := by decide +kernel
theorem dX7_readReceipt_1 : decode cX7_readReceipt 1 = .ok (.getfield 26, 3) := by decide +kernel
theorem dX7_readReceipt_4 : decode cX7_readReceipt 4 = .ok (.iconst 1, 1) := by decide +kernel
theorem dX7_readReceipt_5 : decode cX7_readReceipt 5 = .ok (.iadd, 1) := by decide +kernel
theorem dX7_readReceipt_6 : decode cX7_readReceipt 6 = .ok (.bipush 127, 2) := by decide +kernel
theorem dX7_readReceipt_8 : decode cX7_readReceipt 8 = .ok (.iand, 1) := by decide +kernel
theorem dX7_readReceipt_9 : decode cX7_readReceipt 9 = .ok (.istore_n 2, 1) := by decide +kernel
theorem dX7_readReceipt_10 : decode cX7_readReceipt 10 = .ok (.aload_n 0, 1) := by decide +kernel
theorem dX7_readReceipt_11 : decode cX7_readReceipt 11 = .ok (.getfield 22, 3) := by decide +kernel
theorem dX7_readReceipt_14 : decode cX7_readReceipt 14 = .ok (.ifCond .eq 18, 3) := by decide +kernel
theorem dX7_readReceipt_17 : decode cX7_readReceipt 17 = .ok (.aload_n 0, 1) := by decide +kernel
theorem dX7_readReceipt_18 : decode cX7_readReceipt 18 = .ok (.getfield 18, 3) := by decide +kernel
theorem dX7_readReceipt_21 : decode cX7_readReceipt 21 = .ok (.getfield 32, 3) := by decide +kernel
theorem dX7_readReceipt_24 : decode cX7_readReceipt 24 = .ok (.ifCond .eq 8, 3) := by decide +kernel
theorem dX7_readReceipt_27 : decode cX7_readReceipt 27 = .ok (.iload_n 1, 1) := by decide +kernel
theorem dX7_readReceipt_28 : decode cX7_readReceipt 28 = .ok (.iload_n 2, 1) := by decide +kernel
theorem dX7_readReceipt_29 : decode cX7_readReceipt 29 = .ok (.if_icmp .eq 4, 3) := by decide +kernel
theorem dX7_readReceipt_32 : decode cX7_readReceipt 32 = .ok (.return_, 1) := by decide +kernel
theorem dX7_readReceipt_33 : decode cX7_readReceipt 33 = .ok (.aload_n 0, 1) := by decide +kernel
theorem dX7_readReceipt_34 : decode cX7_readReceipt 34 = .ok (.dup, 1) := by decide +kernel
theorem dX7_readReceipt_35 : decode cX7_readReceipt 35 = .ok (.getfield 22, 3) := by decide +kernel
theorem dX7_readReceipt_38 : decode cX7_readReceipt 38 = .ok (.iconst 1, 1) := by decide +kernel
theorem dX7_readReceipt_39 : decode cX7_readReceipt 39 = .ok (.isub, 1) := by decide +kernel
theorem dX7_readReceipt_40 : decode cX7_readReceipt 40 = .ok (.putfield 22, 3) := by decide +kernel
theorem dX7_readReceipt_43 : decode cX7_readReceipt 43 = .ok (.aload_n 0, 1) := by decide +kernel
theorem dX7_readReceipt_44 : decode cX7_readReceipt 44 = .ok (.getfield 9, 3) := by decide +kernel
theorem dX7_readReceipt_47 : decode cX7_readReceipt 47 = .ok (.iconst 1, 1) := by decide +kernel
