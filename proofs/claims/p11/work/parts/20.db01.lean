theorem dX0_hearCall_79 : decode cX0_hearCall 79 = .ok (.aload_n 1, 1) := by decide +kernel
theorem dX0_hearCall_80 : decode cX0_hearCall 80 = .ok (.invokevirtual 178, 3) := by decide +kernel
theorem dX0_hearCall_83 : decode cX0_hearCall 83 = .ok (.iconst 0, 1) := by decide +kernel
theorem dX0_hearCall_84 : decode cX0_hearCall 84 = .ok (.iconst 2, 1) := by decide +kernel
theorem dX0_hearCall_85 : decode cX0_hearCall 85 = .ok (.invokevirtual 181, 3) := by decide +kernel
theorem dX0_hearCall_88 : decode cX0_hearCall 88 = .ok (.return_, 1) := by decide +kernel
theorem dX0_hearForConnection_0 : decode cX0_hearForConnection 0 = .ok (.iload_n 2, 1) := by decide +kernel
theorem dX0_hearForConnection_1 : decode cX0_hearForConnection 1 = .ok (.lookupswitch 212 #[(16, 97), (32, 163), (96, 133), (128, 189), (192, 197), (208, 67), (240, 82)], 67) := by decide +kernel
theorem dX0_hearForConnection_68 : decode cX0_hearForConnection 68 = .ok (.aload_n 0, 1) := by decide +kernel
theorem dX0_hearForConnection_69 : decode cX0_hearForConnection 69 = .ok (.aload_n 1, 1) := by decide +kernel
theorem dX0_hearForConnection_70 : decode cX0_hearForConnection 70 = .ok (.invokevirtual 186, 3) := by decide +kernel
theorem dX0_hearForConnection_73 : decode cX0_hearForConnection 73 = .ok (.ifCond .eq 140, 3) := by decide +kernel
theorem dX0_hearForConnection_76 : decode cX0_hearForConnection 76 = .ok (.aload_n 0, 1) := by decide +kernel
theorem dX0_hearForConnection_77 : decode cX0_hearForConnection 77 = .ok (.invokevirtual 131, 3) := by decide +kernel
theorem dX0_hearForConnection_80 : decode cX0_hearForConnection 80 = .ok (.goto 133, 3) := by decide +kernel
theorem dX0_hearForConnection_83 : decode cX0_hearForConnection 83 = .ok (.aload_n 0, 1) := by decide +kernel
theorem dX0_hearForConnection_84 : decode cX0_hearForConnection 84 = .ok (.getfield 21, 3) := by decide +kernel
theorem dX0_hearForConnection_87 : decode cX0_hearForConnection 87 = .ok (.aload_n 1, 1) := by decide +kernel
theorem dX0_hearForConnection_88 : decode cX0_hearForConnection 88 = .ok (.invokevirtual 190, 3) := by decide +kernel
theorem dX0_hearForConnection_91 : decode cX0_hearForConnection 91 = .ok (.aload_n 0, 1) := by decide +kernel
theorem dX0_hearForConnection_92 : decode cX0_hearForConnection 92 = .ok (.invokevirtual 131, 3) := by decide +kernel
theorem dX0_hearForConnection_95 : decode cX0_hearForConnection 95 = .ok (.goto 118, 3) := by decide +kernel
theorem dX0_hearForConnection_98 : decode cX0_hearForConnection 98 = .ok (.aload_n 0, 1) := by decide +kernel
theorem dX0_hearForConnection_99 : decode cX0_hearForConnection 99 = .ok (.getfield 35, 3) := by decide +kernel
theorem dX0_hearForConnection_102 : decode cX0_hearForConnection 102 = .ok (.aload_n 1, 1) := by decide +kernel
theorem dX0_hearForConnection_103 : decode cX0_hearForConnection 103 = .ok (.invokevirtual 193, 3) := by decide +kernel
theorem dX0_hearForConnection_106 : decode cX0_hearForConnection 106 = .ok (.aload_n 1, 1) := by decide +kernel
theorem dX0_hearForConnection_107 : decode cX0_hearForConnection 107 = .ok (.getfield 196, 3) := by decide +kernel
theorem dX0_hearForConnection_110 : decode cX0_hearForConnection 110 = .ok (.aload_n 1, 1) := by decide +kernel
theorem dX0_hearForConnection_111 : decode cX0_hearForConnection 111 = .ok (.invokevirtual 200, 3) := by decide +kernel
theorem dX0_hearForConnection_114 : decode cX0_hearForConnection 114 = .ok (.iaload, 1) := by decide +kernel
theorem dX0_hearForConnection_115 : decode cX0_hearForConnection 115 = .ok (.invokevirtual 203, 3) := by decide +kernel
theorem dX0_hearForConnection_118 : decode cX0_hearForConnection 118 = .ok (.aload_n 0, 1) := by decide +kernel
theorem dX0_hearForConnection_119 : decode cX0_hearForConnection 119 = .ok (.bipush 32, 2) := by decide +kernel
theorem dX0_hearForConnection_121 : decode cX0_hearForConnection 121 = .ok (.aload_n 0, 1) := by decide +kernel
theorem dX0_hearForConnection_122 : decode cX0_hearForConnection 122 = .ok (.getfield 35, 3) := by decide +kernel
theorem dX0_hearForConnection_125 : decode cX0_hearForConnection 125 = .ok (.getfield 205, 3) := by decide +kernel
theorem dX0_hearForConnection_128 : decode cX0_hearForConnection 128 = .ok (.invokevirtual 206, 3) := by decide +kernel
theorem dX0_hearForConnection_131 : decode cX0_hearForConnection 131 = .ok (.goto 82, 3) := by decide +kernel
theorem dX0_hearForConnection_134 : decode cX0_hearForConnection 134 = .ok (.aload_n 0, 1) := by decide +kernel
theorem dX0_hearForConnection_135 : decode cX0_hearForConnection 135 = .ok (.getfield 57, 3) := by decide +kernel
theorem dX0_hearForConnection_138 : decode cX0_hearForConnection 138 = .ok (.iconst 2, 1) := by decide +kernel
theorem dX0_hearForConnection_139 : decode cX0_hearForConnection 139 = .ok (.if_icmp .ne 74, 3) := by decide +kernel
theorem dX0_hearForConnection_142 : decode cX0_hearForConnection 142 = .ok (.aload_n 0, 1) := by decide +kernel
theorem dX0_hearForConnection_143 : decode cX0_hearForConnection 143 = .ok (.getfield 12, 3) := by decide +kernel
theorem dX0_hearForConnection_146 : decode cX0_hearForConnection 146 = .ok (.aload_n 1, 1) := by decide +kernel
theorem dX0_hearForConnection_147 : decode cX0_hearForConnection 147 = .ok (.invokevirtual 193, 3) := by decide +kernel
theorem dX0_hearForConnection_150 : decode cX0_hearForConnection 150 = .ok (.aload_n 1, 1) := by decide +kernel
theorem dX0_hearForConnection_151 : decode cX0_hearForConnection 151 = .ok (.invokevirtual 185, 3) := by decide +kernel
theorem dX0_hearForConnection_154 : decode cX0_hearForConnection 154 = .ok (.invokevirtual 209, 3) := by decide +kernel
theorem dX0_hearForConnection_157 : decode cX0_hearForConnection 157 = .ok (.aload_n 0, 1) := by decide +kernel
theorem dX0_hearForConnection_158 : decode cX0_hearForConnection 158 = .ok (.invokevirtual 104, 3) := by decide +kernel
theorem dX0_hearForConnection_161 : decode cX0_hearForConnection 161 = .ok (.goto 52, 3) := by decide +kernel
theorem dX0_hearForConnection_164 : decode cX0_hearForConnection 164 = .ok (.aload_n 0, 1) := by decide +kernel
theorem dX0_hearForConnection_165 : decode cX0_hearForConnection 165 = .ok (.getfield 57, 3) := by decide +kernel
theorem dX0_hearForConnection_168 : decode cX0_hearForConnection 168 = .ok (.iconst 2, 1) := by decide +kernel
theorem dX0_hearForConnection_169 : decode cX0_hearForConnection 169 = .ok (.if_icmp .ne 44, 3) := by decide +kernel
theorem dX0_hearForConnection_172 : decode cX0_hearForConnection 172 = .ok (.aload_n 0, 1) := by decide +kernel
theorem dX0_hearForConnection_173 : decode cX0_hearForConnection 173 = .ok (.getfield 28, 3) := by decide +kernel
theorem dX0_hearForConnection_176 : decode cX0_hearForConnection 176 = .ok (.aload_n 1, 1) := by decide +kernel
theorem dX0_hearForConnection_177 : decode cX0_hearForConnection 177 = .ok (.invokevirtual 193, 3) := by decide +kernel
theorem dX0_hearForConnection_180 : decode cX0_hearForConnection 180 = .ok (.invokevirtual 212, 3) := by decide +kernel
theorem dX0_hearForConnection_183 : decode cX0_hearForConnection 183 = .ok (.aload_n 0, 1) := by decide +kernel
theorem dX0_hearForConnection_184 : decode cX0_hearForConnection 184 = .ok (.invokevirtual 114, 3) := by decide +kernel
theorem dX0_hearForConnection_187 : decode cX0_hearForConnection 187 = .ok (.goto 26, 3) := by decide +kernel
theorem dX0_hearForConnection_190 : decode cX0_hearForConnection 190 = .ok (.aload_n 0, 1) := by decide +kernel
theorem dX0_hearForConnection_191 : decode cX0_hearForConnection 191 = .ok (.aload_n 1, 1) := by decide +kernel
theorem dX0_hearForConnection_192 : decode cX0_hearForConnection 192 = .ok (.invokevirtual 214, 3) := by decide +kernel
theorem dX0_hearForConnection_195 : decode cX0_hearForConnection 195 = .ok (.goto 18, 3) := by decide +kernel
theorem dX0_hearForConnection_198 : decode cX0_hearForConnection 198 = .ok (.aload_n 0, 1) := by decide +kernel
theorem dX0_hearForConnection_199 : decode cX0_hearForConnection 199 = .ok (.getfield 57, 3) := by decide +kernel
theorem dX0_hearForConnection_202 : decode cX0_hearForConnection 202 = .ok (.iconst 3, 1) := by decide +kernel
theorem dX0_hearForConnection_203 : decode cX0_hearForConnection 203 = .ok (.if_icmp .ne 10, 3) := by decide +kernel
theorem dX0_hearForConnection_206 : decode cX0_hearForConnection 206 = .ok (.aload_n 0, 1) := by decide +kernel
theorem dX0_hearForConnection_207 : decode cX0_hearForConnection 207 = .ok (.invokevirtual 217, 3) := by decide +kernel
theorem dX0_hearForConnection_210 : decode cX0_hearForConnection 210 = .ok (.goto 3, 3) := by decide +kernel
theorem dX0_hearForConnection_213 : decode cX0_hearForConnection 213 = .ok (.return_, 1) := by decide +kernel
theorem dX0_acceptsAnswer_0 : decode cX0_acceptsAnswer 0 = .ok (.aload_n 0, 1) := by decide +kernel
theorem dX0_acceptsAnswer_1 : decode cX0_acceptsAnswer 1 = .ok (.getfield 57, 3) := by decide +kernel
theorem dX0_acceptsAnswer_4 : decode cX0_acceptsAnswer 4 = .ok (.iconst 1, 1) := by decide +kernel
theorem dX0_acceptsAnswer_5 : decode cX0_acceptsAnswer 5 = .ok (.if_icmp .ne 36, 3) := by decide +kernel
theorem dX0_acceptsAnswer_8 : decode cX0_acceptsAnswer 8 = .ok (.aload_n 0, 1) := by decide +kernel
theorem dX0_acceptsAnswer_9 : decode cX0_acceptsAnswer 9 = .ok (.iconst 2, 1) := by decide +kernel
theorem dX0_acceptsAnswer_10 : decode cX0_acceptsAnswer 10 = .ok (.putfield 57, 3) := by decide +kernel
theorem dX0_acceptsAnswer_13 : decode cX0_acceptsAnswer 13 = .ok (.aload_n 0, 1) := by decide +kernel
theorem dX0_acceptsAnswer_14 : decode cX0_acceptsAnswer 14 = .ok (.aload_n 1, 1) := by decide +kernel
theorem dX0_acceptsAnswer_15 : decode cX0_acceptsAnswer 15 = .ok (.invokevirtual 178, 3) := by decide +kernel
theorem dX0_acceptsAnswer_18 : decode cX0_acceptsAnswer 18 = .ok (.putfield 81, 3) := by decide +kernel
theorem dX0_acceptsAnswer_21 : decode cX0_acceptsAnswer 21 = .ok (.aload_n 0, 1) := by decide +kernel
theorem dX0_acceptsAnswer_22 : decode cX0_acceptsAnswer 22 = .ok (.getfield 12, 3) := by decide +kernel
theorem dX0_acceptsAnswer_25 : decode cX0_acceptsAnswer 25 = .ok (.aload_n 1, 1) := by decide +kernel
theorem dX0_acceptsAnswer_26 : decode cX0_acceptsAnswer 26 = .ok (.invokevirtual 185, 3) := by decide +kernel
theorem dX0_acceptsAnswer_29 : decode cX0_acceptsAnswer 29 = .ok (.putfield 143, 3) := by decide +kernel
theorem dX0_acceptsAnswer_32 : decode cX0_acceptsAnswer 32 = .ok (.aload_n 0, 1) := by decide +kernel
theorem dX0_acceptsAnswer_33 : decode cX0_acceptsAnswer 33 = .ok (.sipush 230, 3) := by decide +kernel
theorem dX0_acceptsAnswer_36 : decode cX0_acceptsAnswer 36 = .ok (.invokevirtual 171, 3) := by decide +kernel
theorem dX0_acceptsAnswer_39 : decode cX0_acceptsAnswer 39 = .ok (.iconst 1, 1) := by decide +kernel
theorem dX0_acceptsAnswer_40 : decode cX0_acceptsAnswer 40 = .ok (.ireturn, 1) := by decide +kernel
theorem dX0_acceptsAnswer_41 : decode cX0_acceptsAnswer 41 = .ok (.aload_n 0, 1) := by decide +kernel
theorem dX0_acceptsAnswer_42 : decode cX0_acceptsAnswer 42 = .ok (.getfield 57, 3) := by decide +kernel
theorem dX0_acceptsAnswer_45 : decode cX0_acceptsAnswer 45 = .ok (.iconst 2, 1) := by decide +kernel
theorem dX0_acceptsAnswer_46 : decode cX0_acceptsAnswer 46 = .ok (.if_icmp .ne 18, 3) := by decide +kernel
theorem dX0_acceptsAnswer_49 : decode cX0_acceptsAnswer 49 = .ok (.aload_n 0, 1) := by decide +kernel
theorem dX0_acceptsAnswer_50 : decode cX0_acceptsAnswer 50 = .ok (.getfield 81, 3) := by decide +kernel
theorem dX0_acceptsAnswer_53 : decode cX0_acceptsAnswer 53 = .ok (.aload_n 1, 1) := by decide +kernel
theorem dX0_acceptsAnswer_54 : decode cX0_acceptsAnswer 54 = .ok (.invokevirtual 178, 3) := by decide +kernel
theorem dX0_acceptsAnswer_57 : decode cX0_acceptsAnswer 57 = .ok (.if_icmp .ne 7, 3) := by decide +kernel
theorem dX0_acceptsAnswer_60 : decode cX0_acceptsAnswer 60 = .ok (.iconst 1, 1) := by decide +kernel
theorem dX0_acceptsAnswer_61 : decode cX0_acceptsAnswer 61 = .ok (.goto 4, 3) := by decide +kernel
theorem dX0_acceptsAnswer_64 : decode cX0_acceptsAnswer 64 = .ok (.iconst 0, 1) := by decide +kernel
theorem dX0_acceptsAnswer_65 : decode cX0_acceptsAnswer 65 = .ok (.ireturn, 1) := by decide +kernel
theorem dX0_hearEnd_0 : decode cX0_hearEnd 0 = .ok (.aload_n 0, 1) := by decide +kernel
theorem dX0_hearEnd_1 : decode cX0_hearEnd 1 = .ok (.aload_n 1, 1) := by decide +kernel
theorem dX0_hearEnd_2 : decode cX0_hearEnd 2 = .ok (.invokevirtual 220, 3) := by decide +kernel
theorem dX0_hearEnd_5 : decode cX0_hearEnd 5 = .ok (.invokevirtual 121, 3) := by decide +kernel
theorem dX0_hearEnd_8 : decode cX0_hearEnd 8 = .ok (.aload_n 0, 1) := by decide +kernel
theorem dX0_hearEnd_9 : decode cX0_hearEnd 9 = .ok (.sipush 192, 3) := by decide +kernel
theorem dX0_hearEnd_12 : decode cX0_hearEnd 12 = .ok (.aload_n 1, 1) := by decide +kernel
theorem dX0_hearEnd_13 : decode cX0_hearEnd 13 = .ok (.invokevirtual 178, 3) := by decide +kernel
theorem dX0_hearEnd_16 : decode cX0_hearEnd 16 = .ok (.aload_n 0, 1) := by decide +kernel
theorem dX0_hearEnd_17 : decode cX0_hearEnd 17 = .ok (.getfield 71, 3) := by decide +kernel
theorem dX0_hearEnd_20 : decode cX0_hearEnd 20 = .ok (.iconst 0, 1) := by decide +kernel
theorem dX0_hearEnd_21 : decode cX0_hearEnd 21 = .ok (.invokevirtual 181, 3) := by decide +kernel
theorem dX0_hearEnd_24 : decode cX0_hearEnd 24 = .ok (.aload_n 0, 1) := by decide +kernel
theorem dX0_hearEnd_25 : decode cX0_hearEnd 25 = .ok (.getfield 57, 3) := by decide +kernel
theorem dX0_hearEnd_28 : decode cX0_hearEnd 28 = .ok (.iconst 1, 1) := by decide +kernel
theorem dX0_hearEnd_29 : decode cX0_hearEnd 29 = .ok (.if_icmp .ne 11, 3) := by decide +kernel
theorem dX0_hearEnd_32 : decode cX0_hearEnd 32 = .ok (.aload_n 0, 1) := by decide +kernel
theorem dX0_hearEnd_33 : decode cX0_hearEnd 33 = .ok (.iconst 0, 1) := by decide +kernel
theorem dX0_hearEnd_34 : decode cX0_hearEnd 34 = .ok (.putfield 57, 3) := by decide +kernel
theorem dX0_hearEnd_37 : decode cX0_hearEnd 37 = .ok (.goto 7, 3) := by decide +kernel
theorem dX0_hearEnd_40 : decode cX0_hearEnd 40 = .ok (.aload_n 0, 1) := by decide +kernel
theorem dX0_hearEnd_41 : decode cX0_hearEnd 41 = .ok (.invokevirtual 217, 3) := by decide +kernel
theorem dX0_hearEnd_44 : decode cX0_hearEnd 44 = .ok (.return_, 1) := by decide +kernel
theorem dX0_passTick_0 : decode cX0_passTick 0 = .ok (.aload_n 0, 1) := by decide +kernel
theorem dX0_passTick_1 : decode cX0_passTick 1 = .ok (.invokevirtual 164, 3) := by decide +kernel
theorem dX0_passTick_4 : decode cX0_passTick 4 = .ok (.ifCond .eq 58, 3) := by decide +kernel
theorem dX0_passTick_7 : decode cX0_passTick 7 = .ok (.aload_n 0, 1) := by decide +kernel
theorem dX0_passTick_8 : decode cX0_passTick 8 = .ok (.invokevirtual 222, 3) := by decide +kernel
theorem dX0_passTick_11 : decode cX0_passTick 11 = .ok (.aload_n 0, 1) := by decide +kernel
theorem dX0_passTick_12 : decode cX0_passTick 12 = .ok (.invokevirtual 225, 3) := by decide +kernel
theorem dX0_passTick_15 : decode cX0_passTick 15 = .ok (.ifCond .eq 10, 3) := by decide +kernel
theorem dX0_passTick_18 : decode cX0_passTick 18 = .ok (.aload_n 0, 1) := by decide +kernel
theorem dX0_passTick_19 : decode cX0_passTick 19 = .ok (.invokevirtual 228, 3) := by decide +kernel
theorem dX0_passTick_22 : decode cX0_passTick 22 = .ok (.goto 40, 3) := by decide +kernel
theorem dX0_passTick_25 : decode cX0_passTick 25 = .ok (.aload_n 0, 1) := by decide +kernel
theorem dX0_passTick_26 : decode cX0_passTick 26 = .ok (.getfield 57, 3) := by decide +kernel
theorem dX0_passTick_29 : decode cX0_passTick 29 = .ok (.iconst 2, 1) := by decide +kernel
theorem dX0_passTick_30 : decode cX0_passTick 30 = .ok (.if_icmp .ne 32, 3) := by decide +kernel
theorem dX0_passTick_33 : decode cX0_passTick 33 = .ok (.aload_n 0, 1) := by decide +kernel
theorem dX0_passTick_34 : decode cX0_passTick 34 = .ok (.getfield 53, 3) := by decide +kernel
theorem dX0_passTick_37 : decode cX0_passTick 37 = .ok (.getfield 88, 3) := by decide +kernel
theorem dX0_passTick_40 : decode cX0_passTick 40 = .ok (.aload_n 0, 1) := by decide +kernel
theorem dX0_passTick_41 : decode cX0_passTick 41 = .ok (.getfield 53, 3) := by decide +kernel
theorem dX0_passTick_44 : decode cX0_passTick 44 = .ok (.getfield 231, 3) := by decide +kernel
theorem dX0_passTick_47 : decode cX0_passTick 47 = .ok (.aload_n 0, 1) := by decide +kernel
theorem dX0_passTick_48 : decode cX0_passTick 48 = .ok (.getfield 50, 3) := by decide +kernel
theorem dX0_passTick_51 : decode cX0_passTick 51 = .ok (.iaload, 1) := by decide +kernel
theorem dX0_passTick_52 : decode cX0_passTick 52 = .ok (.isub, 1) := by decide +kernel
theorem dX0_passTick_53 : decode cX0_passTick 53 = .ok (.bipush 20, 2) := by decide +kernel
theorem dX0_passTick_55 : decode cX0_passTick 55 = .ok (.if_icmp .lt 7, 3) := by decide +kernel
theorem dX0_passTick_58 : decode cX0_passTick 58 = .ok (.aload_n 0, 1) := by decide +kernel
theorem dX0_passTick_59 : decode cX0_passTick 59 = .ok (.invokevirtual 131, 3) := by decide +kernel
theorem dX0_passTick_62 : decode cX0_passTick 62 = .ok (.aload_n 0, 1) := by decide +kernel
theorem dX0_passTick_63 : decode cX0_passTick 63 = .ok (.getfield 57, 3) := by decide +kernel
theorem dX0_passTick_66 : decode cX0_passTick 66 = .ok (.iconst 4, 1) := by decide +kernel
theorem dX0_passTick_67 : decode cX0_passTick 67 = .ok (.if_icmp .ne 25, 3) := by decide +kernel
theorem dX0_passTick_70 : decode cX0_passTick 70 = .ok (.aload_n 0, 1) := by decide +kernel
theorem dX0_passTick_71 : decode cX0_passTick 71 = .ok (.getfield 53, 3) := by decide +kernel
theorem dX0_passTick_74 : decode cX0_passTick 74 = .ok (.getfield 88, 3) := by decide +kernel
theorem dX0_passTick_77 : decode cX0_passTick 77 = .ok (.aload_n 0, 1) := by decide +kernel
theorem dX0_passTick_78 : decode cX0_passTick 78 = .ok (.getfield 152, 3) := by decide +kernel
theorem dX0_passTick_81 : decode cX0_passTick 81 = .ok (.isub, 1) := by decide +kernel
theorem dX0_passTick_82 : decode cX0_passTick 82 = .ok (.bipush 12, 2) := by decide +kernel
theorem dX0_passTick_84 : decode cX0_passTick 84 = .ok (.if_icmp .lt 8, 3) := by decide +kernel
theorem dX0_passTick_87 : decode cX0_passTick 87 = .ok (.aload_n 0, 1) := by decide +kernel
theorem dX0_passTick_88 : decode cX0_passTick 88 = .ok (.iconst 0, 1) := by decide +kernel
theorem dX0_passTick_89 : decode cX0_passTick 89 = .ok (.putfield 57, 3) := by decide +kernel
theorem dX0_passTick_92 : decode cX0_passTick 92 = .ok (.return_, 1) := by decide +kernel
theorem dX0_sendDueAgain_0 : decode cX0_sendDueAgain 0 = .ok (.aload_n 0, 1) := by decide +kernel
theorem dX0_sendDueAgain_1 : decode cX0_sendDueAgain 1 = .ok (.getfield 42, 3) := by decide +kernel
theorem dX0_sendDueAgain_4 : decode cX0_sendDueAgain 4 = .ok (.aload_n 0, 1) := by decide +kernel
theorem dX0_sendDueAgain_5 : decode cX0_sendDueAgain 5 = .ok (.getfield 53, 3) := by decide +kernel
theorem dX0_sendDueAgain_8 : decode cX0_sendDueAgain 8 = .ok (.getfield 88, 3) := by decide +kernel
theorem dX0_sendDueAgain_11 : decode cX0_sendDueAgain 11 = .ok (.invokevirtual 234, 3) := by decide +kernel
theorem dX0_sendDueAgain_14 : decode cX0_sendDueAgain 14 = .ok (.ifCond .eq 7, 3) := by decide +kernel
theorem dX0_sendDueAgain_17 : decode cX0_sendDueAgain 17 = .ok (.aload_n 0, 1) := by decide +kernel
theorem dX0_sendDueAgain_18 : decode cX0_sendDueAgain 18 = .ok (.invokevirtual 68, 3) := by decide +kernel
theorem dX0_sendDueAgain_21 : decode cX0_sendDueAgain 21 = .ok (.iconst 0, 1) := by decide +kernel
theorem dX0_sendDueAgain_22 : decode cX0_sendDueAgain 22 = .ok (.istore_n 1, 1) := by decide +kernel
theorem dX0_sendDueAgain_23 : decode cX0_sendDueAgain 23 = .ok (.iload_n 1, 1) := by decide +kernel
theorem dX0_sendDueAgain_24 : decode cX0_sendDueAgain 24 = .ok (.aload_n 0, 1) := by decide +kernel
theorem dX0_sendDueAgain_25 : decode cX0_sendDueAgain 25 = .ok (.getfield 12, 3) := by decide +kernel
theorem dX0_sendDueAgain_28 : decode cX0_sendDueAgain 28 = .ok (.getfield 134, 3) := by decide +kernel
theorem dX0_sendDueAgain_31 : decode cX0_sendDueAgain 31 = .ok (.if_icmp .ge 38, 3) := by decide +kernel
theorem dX0_sendDueAgain_34 : decode cX0_sendDueAgain 34 = .ok (.aload_n 0, 1) := by decide +kernel
theorem dX0_sendDueAgain_35 : decode cX0_sendDueAgain 35 = .ok (.getfield 12, 3) := by decide +kernel
theorem dX0_sendDueAgain_38 : decode cX0_sendDueAgain 38 = .ok (.iload_n 1, 1) := by decide +kernel
theorem dX0_sendDueAgain_39 : decode cX0_sendDueAgain 39 = .ok (.invokevirtual 237, 3) := by decide +kernel
theorem dX0_sendDueAgain_42 : decode cX0_sendDueAgain 42 = .ok (.getfield 241, 3) := by decide +kernel
theorem dX0_sendDueAgain_45 : decode cX0_sendDueAgain 45 = .ok (.aload_n 0, 1) := by decide +kernel
theorem dX0_sendDueAgain_46 : decode cX0_sendDueAgain 46 = .ok (.getfield 53, 3) := by decide +kernel
theorem dX0_sendDueAgain_49 : decode cX0_sendDueAgain 49 = .ok (.getfield 88, 3) := by decide +kernel
theorem dX0_sendDueAgain_52 : decode cX0_sendDueAgain 52 = .ok (.invokevirtual 234, 3) := by decide +kernel
theorem dX0_sendDueAgain_55 : decode cX0_sendDueAgain 55 = .ok (.ifCond .eq 8, 3) := by decide +kernel
theorem dX0_sendDueAgain_58 : decode cX0_sendDueAgain 58 = .ok (.aload_n 0, 1) := by decide +kernel
theorem dX0_sendDueAgain_59 : decode cX0_sendDueAgain 59 = .ok (.iload_n 1, 1) := by decide +kernel
theorem dX0_sendDueAgain_60 : decode cX0_sendDueAgain 60 = .ok (.invokevirtual 246, 3) := by decide +kernel
theorem dX0_sendDueAgain_63 : decode cX0_sendDueAgain 63 = .ok (.iinc 1 1, 3) := by decide +kernel
theorem dX0_sendDueAgain_66 : decode cX0_sendDueAgain 66 = .ok (.goto (-43), 3) := by decide +kernel
theorem dX0_sendDueAgain_69 : decode cX0_sendDueAgain 69 = .ok (.aload_n 0, 1) := by decide +kernel
theorem dX0_sendDueAgain_70 : decode cX0_sendDueAgain 70 = .ok (.getfield 28, 3) := by decide +kernel
theorem dX0_sendDueAgain_73 : decode cX0_sendDueAgain 73 = .ok (.getfield 249, 3) := by decide +kernel
theorem dX0_sendDueAgain_76 : decode cX0_sendDueAgain 76 = .ok (.aload_n 0, 1) := by decide +kernel
theorem dX0_sendDueAgain_77 : decode cX0_sendDueAgain 77 = .ok (.getfield 53, 3) := by decide +kernel
theorem dX0_sendDueAgain_80 : decode cX0_sendDueAgain 80 = .ok (.getfield 88, 3) := by decide +kernel
theorem dX0_sendDueAgain_83 : decode cX0_sendDueAgain 83 = .ok (.invokevirtual 234, 3) := by decide +kernel
theorem dX0_sendDueAgain_86 : decode cX0_sendDueAgain 86 = .ok (.ifCond .eq 7, 3) := by decide +kernel
theorem dX0_sendDueAgain_89 : decode cX0_sendDueAgain 89 = .ok (.aload_n 0, 1) := by decide +kernel
theorem dX0_sendDueAgain_90 : decode cX0_sendDueAgain 90 = .ok (.invokevirtual 250, 3) := by decide +kernel
theorem dX0_sendDueAgain_93 : decode cX0_sendDueAgain 93 = .ok (.return_, 1) := by decide +kernel
theorem dX0_mustGiveUp_0 : decode cX0_mustGiveUp 0 = .ok (.aload_n 0, 1) := by decide +kernel
theorem dX0_mustGiveUp_1 : decode cX0_mustGiveUp 1 = .ok (.getfield 53, 3) := by decide +kernel
theorem dX0_mustGiveUp_4 : decode cX0_mustGiveUp 4 = .ok (.getfield 88, 3) := by decide +kernel
theorem dX0_mustGiveUp_7 : decode cX0_mustGiveUp 7 = .ok (.istore_n 1, 1) := by decide +kernel
theorem dX0_mustGiveUp_8 : decode cX0_mustGiveUp 8 = .ok (.aload_n 0, 1) := by decide +kernel
theorem dX0_mustGiveUp_9 : decode cX0_mustGiveUp 9 = .ok (.getfield 42, 3) := by decide +kernel
theorem dX0_mustGiveUp_12 : decode cX0_mustGiveUp 12 = .ok (.iload_n 1, 1) := by decide +kernel
theorem dX0_mustGiveUp_13 : decode cX0_mustGiveUp 13 = .ok (.invokevirtual 253, 3) := by decide +kernel
theorem dX0_mustGiveUp_16 : decode cX0_mustGiveUp 16 = .ok (.ifCond .ne 28, 3) := by decide +kernel
theorem dX0_mustGiveUp_19 : decode cX0_mustGiveUp 19 = .ok (.aload_n 0, 1) := by decide +kernel
theorem dX0_mustGiveUp_20 : decode cX0_mustGiveUp 20 = .ok (.getfield 12, 3) := by decide +kernel
theorem dX0_mustGiveUp_23 : decode cX0_mustGiveUp 23 = .ok (.iload_n 1, 1) := by decide +kernel
theorem dX0_mustGiveUp_24 : decode cX0_mustGiveUp 24 = .ok (.invokevirtual 256, 3) := by decide +kernel
theorem dX0_mustGiveUp_27 : decode cX0_mustGiveUp 27 = .ok (.ifCond .ne 17, 3) := by decide +kernel
theorem dX0_mustGiveUp_30 : decode cX0_mustGiveUp 30 = .ok (.aload_n 0, 1) := by decide +kernel
theorem dX0_mustGiveUp_31 : decode cX0_mustGiveUp 31 = .ok (.getfield 28, 3) := by decide +kernel
theorem dX0_mustGiveUp_34 : decode cX0_mustGiveUp 34 = .ok (.getfield 249, 3) := by decide +kernel
theorem dX0_mustGiveUp_37 : decode cX0_mustGiveUp 37 = .ok (.iload_n 1, 1) := by decide +kernel
theorem dX0_mustGiveUp_38 : decode cX0_mustGiveUp 38 = .ok (.invokevirtual 253, 3) := by decide +kernel
theorem dX0_mustGiveUp_41 : decode cX0_mustGiveUp 41 = .ok (.ifCond .eq 7, 3) := by decide +kernel
theorem dX0_mustGiveUp_44 : decode cX0_mustGiveUp 44 = .ok (.iconst 1, 1) := by decide +kernel
theorem dX0_mustGiveUp_45 : decode cX0_mustGiveUp 45 = .ok (.goto 4, 3) := by decide +kernel
theorem dX0_mustGiveUp_48 : decode cX0_mustGiveUp 48 = .ok (.iconst 0, 1) := by decide +kernel
theorem dX0_mustGiveUp_49 : decode cX0_mustGiveUp 49 = .ok (.istore_n 2, 1) := by decide +kernel
theorem dX0_mustGiveUp_50 : decode cX0_mustGiveUp 50 = .ok (.iload_n 2, 1) := by decide +kernel
theorem dX0_mustGiveUp_51 : decode cX0_mustGiveUp 51 = .ok (.ifCond .ne 22, 3) := by decide +kernel
theorem dX0_mustGiveUp_54 : decode cX0_mustGiveUp 54 = .ok (.aload_n 0, 1) := by decide +kernel
theorem dX0_mustGiveUp_55 : decode cX0_mustGiveUp 55 = .ok (.getfield 57, 3) := by decide +kernel
theorem dX0_mustGiveUp_58 : decode cX0_mustGiveUp 58 = .ok (.iconst 2, 1) := by decide +kernel
theorem dX0_mustGiveUp_59 : decode cX0_mustGiveUp 59 = .ok (.if_icmp .ne 18, 3) := by decide +kernel
theorem dX0_mustGiveUp_62 : decode cX0_mustGiveUp 62 = .ok (.iload_n 1, 1) := by decide +kernel
theorem dX0_mustGiveUp_63 : decode cX0_mustGiveUp 63 = .ok (.aload_n 0, 1) := by decide +kernel
theorem dX0_mustGiveUp_64 : decode cX0_mustGiveUp 64 = .ok (.getfield 93, 3) := by decide +kernel
theorem dX0_mustGiveUp_67 : decode cX0_mustGiveUp 67 = .ok (.isub, 1) := by decide +kernel
