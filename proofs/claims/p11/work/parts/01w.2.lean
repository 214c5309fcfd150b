theorem ml_L_72 : Cond.methodLink "TransportFourLaw" 72 yX9_clock ∈ TB := mB (mT4 (List.mem_of_getElem? (i := 49) (by decide +kernel))) rfl
theorem mi_X9_clock : Cond.instanceMethod yX9_clock ∈ TB := mB (mT4 (List.mem_of_getElem? (i := 50) (by decide +kernel))) rfl
theorem mx_X9_clock : Cond.selects "TransportFour" yX9_clock yX9_clock ∈ TB := mB (mT4 (List.mem_of_getElem? (i := 51) (by decide +kernel))) rfl
theorem mo_X9_clock : Cond.code yX9_clock cX9_clock 1 (some FieldType.int) ∈ TB := mB (mT4 (List.mem_of_getElem? (i := 52) rfl)) rfl
theorem mc_L_10 : Cond.classLink "TransportFourLaw" 10 "TransportFourModel" ∈ TB := mB (mT4 (List.mem_of_getElem? (i := 53) (by decide +kernel))) rfl
theorem ms_X10 : Cond.instantiable "TransportFourModel" 64 ∈ TB := mB (mT4 (List.mem_of_getElem? (i := 54) (by decide +kernel))) rfl
theorem ml_L_12 : Cond.methodLink "TransportFourLaw" 12 yX10_init ∈ TB := mB (mT4 (List.mem_of_getElem? (i := 55) (by decide +kernel))) rfl
theorem mi_X10_init : Cond.instanceMethod yX10_init ∈ TB := mB (mT4 (List.mem_of_getElem? (i := 56) (by decide +kernel))) rfl
theorem mo_X10_init : Cond.code yX10_init cX10_init 2 none ∈ TB := mB (mT4 (List.mem_of_getElem? (i := 57) rfl)) rfl
theorem ml_X10_1 : Cond.methodLink "TransportFourModel" 1 objectInit ∈ TB := mB (mT4 (List.mem_of_getElem? (i := 58) (by decide +kernel))) rfl
theorem mk_X10_164 : Cond.constant "TransportFourModel" 164 (81920 : Int32) ∈ TB := mB (mT4 (List.mem_of_getElem? (i := 59) (by decide +kernel))) rfl
theorem mf_X10_198 : Cond.fieldLink "TransportFourModel" 198 "TransportFourModel" "now" "I" ∈ TB := mB (mT4 (List.mem_of_getElem? (i := 60) (by decide +kernel))) rfl
theorem mf_X10_7 : Cond.fieldLink "TransportFourModel" 7 "TransportFourModel" "state" "[I" ∈ TB := mB (mT4 (List.mem_of_getElem? (i := 61) (by decide +kernel))) rfl
theorem mf_X10_13 : Cond.fieldLink "TransportFourModel" 13 "TransportFourModel" "reference" "[I" ∈ TB := mB (mT4 (List.mem_of_getElem? (i := 62) (by decide +kernel))) rfl
theorem mf_X10_16 : Cond.fieldLink "TransportFourModel" 16 "TransportFourModel" "peer" "[I" ∈ TB := mB (mT4 (List.mem_of_getElem? (i := 63) (by decide +kernel))) rfl
theorem mf_X10_19 : Cond.fieldLink "TransportFourModel" 19 "TransportFourModel" "answered" "[Z" ∈ TB := mB (mT4 (List.mem_of_getElem? (i := 64) (by decide +kernel))) rfl
theorem mf_X10_23 : Cond.fieldLink "TransportFourModel" 23 "TransportFourModel" "reason" "[I" ∈ TB := mB (mT4 (List.mem_of_getElem? (i := 65) (by decide +kernel))) rfl
theorem mf_X10_26 : Cond.fieldLink "TransportFourModel" 26 "TransportFourModel" "frozen" "[I" ∈ TB := mB (mT4 (List.mem_of_getElem? (i := 66) (by decide +kernel))) rfl
theorem mf_X10_29 : Cond.fieldLink "TransportFourModel" 29 "TransportFourModel" "lastSent" "[I" ∈ TB := mB (mT4 (List.mem_of_getElem? (i := 67) (by decide +kernel))) rfl
theorem mf_X10_32 : Cond.fieldLink "TransportFourModel" 32 "TransportFourModel" "lastHeard" "[I" ∈ TB := mB (mT4 (List.mem_of_getElem? (i := 68) (by decide +kernel))) rfl
theorem mf_X10_35 : Cond.fieldLink "TransportFourModel" 35 "TransportFourModel" "waitTimes" "[I" ∈ TB := mB (mT4 (List.mem_of_getElem? (i := 69) (by decide +kernel))) rfl
theorem mf_X10_38 : Cond.fieldLink "TransportFourModel" 38 "TransportFourModel" "waitLatest" "[I" ∈ TB := mB (mT4 (List.mem_of_getElem? (i := 70) (by decide +kernel))) rfl
theorem mf_X10_41 : Cond.fieldLink "TransportFourModel" 41 "TransportFourModel" "waitUnit" "[I" ∈ TB := mB (mT4 (List.mem_of_getElem? (i := 71) (by decide +kernel))) rfl
theorem mf_X10_44 : Cond.fieldLink "TransportFourModel" 44 "TransportFourModel" "waitBytes" "[I" ∈ TB := mB (mT4 (List.mem_of_getElem? (i := 72) (by decide +kernel))) rfl
theorem mf_X10_47 : Cond.fieldLink "TransportFourModel" 47 "TransportFourModel" "waitSize" "[I" ∈ TB := mB (mT4 (List.mem_of_getElem? (i := 73) (by decide +kernel))) rfl
theorem mf_X10_50 : Cond.fieldLink "TransportFourModel" 50 "TransportFourModel" "queued" "[I" ∈ TB := mB (mT4 (List.mem_of_getElem? (i := 74) (by decide +kernel))) rfl
theorem mf_X10_53 : Cond.fieldLink "TransportFourModel" 53 "TransportFourModel" "flying" "[I" ∈ TB := mB (mT4 (List.mem_of_getElem? (i := 75) (by decide +kernel))) rfl
theorem mf_X10_56 : Cond.fieldLink "TransportFourModel" 56 "TransportFourModel" "pieceSize" "[I" ∈ TB := mB (mT4 (List.mem_of_getElem? (i := 76) (by decide +kernel))) rfl
theorem mf_X10_59 : Cond.fieldLink "TransportFourModel" 59 "TransportFourModel" "pieceLast" "[Z" ∈ TB := mB (mT4 (List.mem_of_getElem? (i := 77) (by decide +kernel))) rfl
theorem mf_X10_62 : Cond.fieldLink "TransportFourModel" 62 "TransportFourModel" "pieceNumber" "[I" ∈ TB := mB (mT4 (List.mem_of_getElem? (i := 78) (by decide +kernel))) rfl
theorem mf_X10_65 : Cond.fieldLink "TransportFourModel" 65 "TransportFourModel" "pieceTimes" "[I" ∈ TB := mB (mT4 (List.mem_of_getElem? (i := 79) (by decide +kernel))) rfl
theorem mf_X10_68 : Cond.fieldLink "TransportFourModel" 68 "TransportFourModel" "pieceLatest" "[I" ∈ TB := mB (mT4 (List.mem_of_getElem? (i := 80) (by decide +kernel))) rfl
theorem mf_X10_71 : Cond.fieldLink "TransportFourModel" 71 "TransportFourModel" "pieceBytes" "[I" ∈ TB := mB (mT4 (List.mem_of_getElem? (i := 81) (by decide +kernel))) rfl
theorem mf_X10_74 : Cond.fieldLink "TransportFourModel" 74 "TransportFourModel" "nextNumber" "[I" ∈ TB := mB (mT4 (List.mem_of_getElem? (i := 82) (by decide +kernel))) rfl
theorem mf_X10_77 : Cond.fieldLink "TransportFourModel" 77 "TransportFourModel" "peerExpects" "[I" ∈ TB := mB (mT4 (List.mem_of_getElem? (i := 83) (by decide +kernel))) rfl
theorem mf_X10_80 : Cond.fieldLink "TransportFourModel" 80 "TransportFourModel" "allowed" "[I" ∈ TB := mB (mT4 (List.mem_of_getElem? (i := 84) (by decide +kernel))) rfl
theorem mf_X10_83 : Cond.fieldLink "TransportFourModel" 83 "TransportFourModel" "urging" "[I" ∈ TB := mB (mT4 (List.mem_of_getElem? (i := 85) (by decide +kernel))) rfl
theorem mf_X10_86 : Cond.fieldLink "TransportFourModel" 86 "TransportFourModel" "urges" "[I" ∈ TB := mB (mT4 (List.mem_of_getElem? (i := 86) (by decide +kernel))) rfl
theorem mf_X10_89 : Cond.fieldLink "TransportFourModel" 89 "TransportFourModel" "urgeNumber" "[I" ∈ TB := mB (mT4 (List.mem_of_getElem? (i := 87) (by decide +kernel))) rfl
theorem mf_X10_92 : Cond.fieldLink "TransportFourModel" 92 "TransportFourModel" "urgeTimes" "[I" ∈ TB := mB (mT4 (List.mem_of_getElem? (i := 88) (by decide +kernel))) rfl
theorem mf_X10_95 : Cond.fieldLink "TransportFourModel" 95 "TransportFourModel" "urgeLatest" "[I" ∈ TB := mB (mT4 (List.mem_of_getElem? (i := 89) (by decide +kernel))) rfl
theorem mf_X10_98 : Cond.fieldLink "TransportFourModel" 98 "TransportFourModel" "expected" "[I" ∈ TB := mB (mT4 (List.mem_of_getElem? (i := 90) (by decide +kernel))) rfl
theorem mf_X10_101 : Cond.fieldLink "TransportFourModel" 101 "TransportFourModel" "urgentExpected" "[I" ∈ TB := mB (mT4 (List.mem_of_getElem? (i := 91) (by decide +kernel))) rfl
theorem mf_X10_104 : Cond.fieldLink "TransportFourModel" 104 "TransportFourModel" "keptSize" "[I" ∈ TB := mB (mT4 (List.mem_of_getElem? (i := 92) (by decide +kernel))) rfl
theorem mf_X10_107 : Cond.fieldLink "TransportFourModel" 107 "TransportFourModel" "keptLast" "[Z" ∈ TB := mB (mT4 (List.mem_of_getElem? (i := 93) (by decide +kernel))) rfl
theorem mf_X10_110 : Cond.fieldLink "TransportFourModel" 110 "TransportFourModel" "keptBytes" "[I" ∈ TB := mB (mT4 (List.mem_of_getElem? (i := 94) (by decide +kernel))) rfl
theorem mf_X10_113 : Cond.fieldLink "TransportFourModel" 113 "TransportFourModel" "partSize" "[I" ∈ TB := mB (mT4 (List.mem_of_getElem? (i := 95) (by decide +kernel))) rfl
theorem mf_X10_116 : Cond.fieldLink "TransportFourModel" 116 "TransportFourModel" "partUnits" "[I" ∈ TB := mB (mT4 (List.mem_of_getElem? (i := 96) (by decide +kernel))) rfl
theorem mf_X10_119 : Cond.fieldLink "TransportFourModel" 119 "TransportFourModel" "part" "[I" ∈ TB := mB (mT4 (List.mem_of_getElem? (i := 97) (by decide +kernel))) rfl
theorem mf_X10_122 : Cond.fieldLink "TransportFourModel" 122 "TransportFourModel" "messages" "[I" ∈ TB := mB (mT4 (List.mem_of_getElem? (i := 98) (by decide +kernel))) rfl
theorem mf_X10_125 : Cond.fieldLink "TransportFourModel" 125 "TransportFourModel" "messageSize" "[I" ∈ TB := mB (mT4 (List.mem_of_getElem? (i := 99) (by decide +kernel))) rfl
theorem mf_X10_128 : Cond.fieldLink "TransportFourModel" 128 "TransportFourModel" "messageUnits" "[I" ∈ TB := mB (mT4 (List.mem_of_getElem? (i := 100) (by decide +kernel))) rfl
theorem mf_X10_131 : Cond.fieldLink "TransportFourModel" 131 "TransportFourModel" "store" "[I" ∈ TB := mB (mT4 (List.mem_of_getElem? (i := 101) (by decide +kernel))) rfl
theorem mf_X10_134 : Cond.fieldLink "TransportFourModel" 134 "TransportFourModel" "stored" "[I" ∈ TB := mB (mT4 (List.mem_of_getElem? (i := 102) (by decide +kernel))) rfl
theorem mf_X10_137 : Cond.fieldLink "TransportFourModel" 137 "TransportFourModel" "takenSize" "[I" ∈ TB := mB (mT4 (List.mem_of_getElem? (i := 103) (by decide +kernel))) rfl
theorem mf_X10_140 : Cond.fieldLink "TransportFourModel" 140 "TransportFourModel" "taken" "[I" ∈ TB := mB (mT4 (List.mem_of_getElem? (i := 104) (by decide +kernel))) rfl
theorem mf_X10_143 : Cond.fieldLink "TransportFourModel" 143 "TransportFourModel" "urgents" "[I" ∈ TB := mB (mT4 (List.mem_of_getElem? (i := 105) (by decide +kernel))) rfl
theorem mf_X10_146 : Cond.fieldLink "TransportFourModel" 146 "TransportFourModel" "urgentBytes" "[I" ∈ TB := mB (mT4 (List.mem_of_getElem? (i := 106) (by decide +kernel))) rfl
theorem mf_X10_149 : Cond.fieldLink "TransportFourModel" 149 "TransportFourModel" "tape" "[I" ∈ TB := mB (mT4 (List.mem_of_getElem? (i := 107) (by decide +kernel))) rfl
theorem mf_X10_251 : Cond.fieldLink "TransportFourModel" 251 "TransportFourModel" "length" "I" ∈ TB := mB (mT4 (List.mem_of_getElem? (i := 108) (by decide +kernel))) rfl
theorem mf_X10_302 : Cond.fieldLink "TransportFourModel" 302 "TransportFourModel" "faults" "I" ∈ TB := mB (mT4 (List.mem_of_getElem? (i := 109) (by decide +kernel))) rfl
theorem mf_X10_152 : Cond.fieldLink "TransportFourModel" 152 "TransportFourModel" "faultKind" "[I" ∈ TB := mB (mT4 (List.mem_of_getElem? (i := 110) (by decide +kernel))) rfl
theorem mf_X10_155 : Cond.fieldLink "TransportFourModel" 155 "TransportFourModel" "faultNumber" "[I" ∈ TB := mB (mT4 (List.mem_of_getElem? (i := 111) (by decide +kernel))) rfl
theorem mf_X10_158 : Cond.fieldLink "TransportFourModel" 158 "TransportFourModel" "faultPlace" "[I" ∈ TB := mB (mT4 (List.mem_of_getElem? (i := 112) (by decide +kernel))) rfl
theorem mf_X10_161 : Cond.fieldLink "TransportFourModel" 161 "TransportFourModel" "faultMask" "[I" ∈ TB := mB (mT4 (List.mem_of_getElem? (i := 113) (by decide +kernel))) rfl
theorem mf_X10_195 : Cond.fieldLink "TransportFourModel" 195 "TransportFourModel" "sentCount" "I" ∈ TB := mB (mT4 (List.mem_of_getElem? (i := 114) (by decide +kernel))) rfl
theorem mf_X10_308 : Cond.fieldLink "TransportFourModel" 308 "TransportFourModel" "oldest" "I" ∈ TB := mB (mT4 (List.mem_of_getElem? (i := 115) (by decide +kernel))) rfl
theorem mf_X10_165 : Cond.fieldLink "TransportFourModel" 165 "TransportFourModel" "units" "[I" ∈ TB := mB (mT4 (List.mem_of_getElem? (i := 116) (by decide +kernel))) rfl
theorem mf_X10_168 : Cond.fieldLink "TransportFourModel" 168 "TransportFourModel" "unitSize" "[I" ∈ TB := mB (mT4 (List.mem_of_getElem? (i := 117) (by decide +kernel))) rfl
theorem mf_X10_171 : Cond.fieldLink "TransportFourModel" 171 "TransportFourModel" "unitTo" "[I" ∈ TB := mB (mT4 (List.mem_of_getElem? (i := 118) (by decide +kernel))) rfl
theorem mf_X10_174 : Cond.fieldLink "TransportFourModel" 174 "TransportFourModel" "unitTime" "[I" ∈ TB := mB (mT4 (List.mem_of_getElem? (i := 119) (by decide +kernel))) rfl
theorem mf_X10_177 : Cond.fieldLink "TransportFourModel" 177 "TransportFourModel" "arrived" "[I" ∈ TB := mB (mT4 (List.mem_of_getElem? (i := 120) (by decide +kernel))) rfl
theorem mf_X10_259 : Cond.fieldLink "TransportFourModel" 259 "TransportFourModel" "arrivedSize" "I" ∈ TB := mB (mT4 (List.mem_of_getElem? (i := 121) (by decide +kernel))) rfl
theorem mf_X10_180 : Cond.fieldLink "TransportFourModel" 180 "TransportFourModel" "made" "[I" ∈ TB := mB (mT4 (List.mem_of_getElem? (i := 122) (by decide +kernel))) rfl
theorem mf_X10_183 : Cond.fieldLink "TransportFourModel" 183 "TransportFourModel" "madeSize" "I" ∈ TB := mB (mT4 (List.mem_of_getElem? (i := 123) (by decide +kernel))) rfl
theorem ml_L_17 : Cond.methodLink "TransportFourLaw" 17 yX10_call ∈ TB := mB (mT5 (List.mem_of_getElem? (i := 13) (by decide +kernel))) rfl
theorem mi_X10_call : Cond.instanceMethod yX10_call ∈ TB := mB (mT5 (List.mem_of_getElem? (i := 14) (by decide +kernel))) rfl
theorem mx_X10_call : Cond.selects "TransportFourModel" yX10_call yX10_call ∈ TB := mB (mT5 (List.mem_of_getElem? (i := 15) (by decide +kernel))) rfl
theorem mo_X10_call : Cond.code yX10_call cX10_call 2 (some FieldType.int) ∈ TB := mB (mT5 (List.mem_of_getElem? (i := 16) rfl)) rfl
theorem ml_X10_231 : Cond.methodLink "TransportFourModel" 231 yX10_isEnd ∈ TB := mB (mT5 (List.mem_of_getElem? (i := 17) (by decide +kernel))) rfl
theorem mt_X10_isEnd : Cond.static yX10_isEnd ∈ TB := mB (mT5 (List.mem_of_getElem? (i := 18) (by decide +kernel))) rfl
theorem mo_X10_isEnd : Cond.code yX10_isEnd cX10_isEnd 1 (some FieldType.boolean) ∈ TB := mB (mT5 (List.mem_of_getElem? (i := 19) rfl)) rfl
theorem ml_X10_235 : Cond.methodLink "TransportFourModel" 235 yX10_fresh ∈ TB := mB (mT5 (List.mem_of_getElem? (i := 20) (by decide +kernel))) rfl
theorem mi_X10_fresh : Cond.instanceMethod yX10_fresh ∈ TB := mB (mT5 (List.mem_of_getElem? (i := 22) (by decide +kernel))) rfl
theorem mo_X10_fresh : Cond.code yX10_fresh cX10_fresh 3 none ∈ TB := mB (mT5 (List.mem_of_getElem? (i := 23) rfl)) rfl
theorem mk_X10_230 : Cond.constant "TransportFourModel" 230 (65535 : Int32) ∈ TB := mB (mT5 (List.mem_of_getElem? (i := 24) (by decide +kernel))) rfl
theorem ml_X10_238 : Cond.methodLink "TransportFourModel" 238 yX10_sendCode ∈ TB := mB (mT5 (List.mem_of_getElem? (i := 25) (by decide +kernel))) rfl
theorem mi_X10_sendCode : Cond.instanceMethod yX10_sendCode ∈ TB := mB (mT5 (List.mem_of_getElem? (i := 27) (by decide +kernel))) rfl
theorem mo_X10_sendCode : Cond.code yX10_sendCode cX10_sendCode 6 none ∈ TB := mB (mT5 (List.mem_of_getElem? (i := 28) rfl)) rfl
theorem ml_X10_201 : Cond.methodLink "TransportFourModel" 201 yX10_begin ∈ TB := mB (mT5 (List.mem_of_getElem? (i := 29) (by decide +kernel))) rfl
theorem mi_X10_begin : Cond.instanceMethod yX10_begin ∈ TB := mB (mT5 (List.mem_of_getElem? (i := 31) (by decide +kernel))) rfl
theorem mo_X10_begin : Cond.code yX10_begin cX10_begin 3 none ∈ TB := mB (mT5 (List.mem_of_getElem? (i := 32) rfl)) rfl
theorem ml_X10_187 : Cond.methodLink "TransportFourModel" 187 yX10_push ∈ TB := mB (mT5 (List.mem_of_getElem? (i := 33) (by decide +kernel))) rfl
theorem mi_X10_push : Cond.instanceMethod yX10_push ∈ TB := mB (mT5 (List.mem_of_getElem? (i := 35) (by decide +kernel))) rfl
theorem mo_X10_push : Cond.code yX10_push cX10_push 2 none ∈ TB := mB (mT5 (List.mem_of_getElem? (i := 36) rfl)) rfl
theorem ml_X10_205 : Cond.methodLink "TransportFourModel" 205 yX10_endHead ∈ TB := mB (mT5 (List.mem_of_getElem? (i := 37) (by decide +kernel))) rfl
theorem mi_X10_endHead : Cond.instanceMethod yX10_endHead ∈ TB := mB (mT5 (List.mem_of_getElem? (i := 39) (by decide +kernel))) rfl
theorem mo_X10_endHead : Cond.code yX10_endHead cX10_endHead 1 none ∈ TB := mB (mT5 (List.mem_of_getElem? (i := 40) rfl)) rfl
theorem ml_X10_208 : Cond.methodLink "TransportFourModel" 208 yX10_check ∈ TB := mB (mT5 (List.mem_of_getElem? (i := 41) (by decide +kernel))) rfl
theorem mi_X10_check : Cond.instanceMethod yX10_check ∈ TB := mB (mT5 (List.mem_of_getElem? (i := 43) (by decide +kernel))) rfl
theorem mo_X10_check : Cond.code yX10_check cX10_check 4 none ∈ TB := mB (mT5 (List.mem_of_getElem? (i := 44) rfl)) rfl
theorem ml_X10_191 : Cond.methodLink "TransportFourModel" 191 yX10_mod255 ∈ TB := mB (mT5 (List.mem_of_getElem? (i := 45) (by decide +kernel))) rfl
theorem mt_X10_mod255 : Cond.static yX10_mod255 ∈ TB := mB (mT5 (List.mem_of_getElem? (i := 46) (by decide +kernel))) rfl
theorem mo_X10_mod255 : Cond.code yX10_mod255 cX10_mod255 2 (some FieldType.int) ∈ TB := mB (mT5 (List.mem_of_getElem? (i := 47) rfl)) rfl
theorem ml_X10_211 : Cond.methodLink "TransportFourModel" 211 yX10_sendMade ∈ TB := mB (mT5 (List.mem_of_getElem? (i := 48) (by decide +kernel))) rfl
theorem mi_X10_sendMade : Cond.instanceMethod yX10_sendMade ∈ TB := mB (mT5 (List.mem_of_getElem? (i := 50) (by decide +kernel))) rfl
theorem mo_X10_sendMade : Cond.code yX10_sendMade cX10_sendMade 4 none ∈ TB := mB (mT5 (List.mem_of_getElem? (i := 51) rfl)) rfl
theorem ml_X10_242 : Cond.methodLink "TransportFourModel" 242 yX10_wait ∈ TB := mB (mT5 (List.mem_of_getElem? (i := 52) (by decide +kernel))) rfl
theorem mi_X10_wait : Cond.instanceMethod yX10_wait ∈ TB := mB (mT5 (List.mem_of_getElem? (i := 54) (by decide +kernel))) rfl
theorem mo_X10_wait : Cond.code yX10_wait cX10_wait 3 none ∈ TB := mB (mT5 (List.mem_of_getElem? (i := 55) rfl)) rfl
theorem ml_L_37 : Cond.methodLink "TransportFourLaw" 37 yX10_end ∈ TB := mB (mT5 (List.mem_of_getElem? (i := 56) (by decide +kernel))) rfl
theorem mi_X10_end : Cond.instanceMethod yX10_end ∈ TB := mB (mT5 (List.mem_of_getElem? (i := 57) (by decide +kernel))) rfl
theorem mx_X10_end : Cond.selects "TransportFourModel" yX10_end yX10_end ∈ TB := mB (mT5 (List.mem_of_getElem? (i := 58) (by decide +kernel))) rfl
theorem mo_X10_end : Cond.code yX10_end cX10_end 2 (some FieldType.int) ∈ TB := mB (mT5 (List.mem_of_getElem? (i := 59) rfl)) rfl
theorem ml_X10_245 : Cond.methodLink "TransportFourModel" 245 yX10_setReason ∈ TB := mB (mT5 (List.mem_of_getElem? (i := 60) (by decide +kernel))) rfl
theorem mi_X10_setReason : Cond.instanceMethod yX10_setReason ∈ TB := mB (mT5 (List.mem_of_getElem? (i := 62) (by decide +kernel))) rfl
theorem mo_X10_setReason : Cond.code yX10_setReason cX10_setReason 3 none ∈ TB := mB (mT5 (List.mem_of_getElem? (i := 63) rfl)) rfl
theorem ml_L_24 : Cond.methodLink "TransportFourLaw" 24 yX10_type ∈ TB := mB (mT5 (List.mem_of_getElem? (i := 64) (by decide +kernel))) rfl
theorem mi_X10_type : Cond.instanceMethod yX10_type ∈ TB := mB (mT5 (List.mem_of_getElem? (i := 65) (by decide +kernel))) rfl
theorem mx_X10_type : Cond.selects "TransportFourModel" yX10_type yX10_type ∈ TB := mB (mT5 (List.mem_of_getElem? (i := 66) (by decide +kernel))) rfl
theorem mo_X10_type : Cond.code yX10_type cX10_type 5 (some FieldType.int) ∈ TB := mB (mT5 (List.mem_of_getElem? (i := 67) rfl)) rfl
theorem mkl_X10_254 : Cond.constantLong "TransportFourModel" 254 (255 : Int64) ∈ TB := mB (mT5 (List.mem_of_getElem? (i := 68) (by decide +kernel))) rfl
theorem ml_L_28 : Cond.methodLink "TransportFourLaw" 28 yX10_send ∈ TB := mB (mT5 (List.mem_of_getElem? (i := 69) (by decide +kernel))) rfl
theorem mi_X10_send : Cond.instanceMethod yX10_send ∈ TB := mB (mT5 (List.mem_of_getElem? (i := 70) (by decide +kernel))) rfl
theorem mx_X10_send : Cond.selects "TransportFourModel" yX10_send yX10_send ∈ TB := mB (mT5 (List.mem_of_getElem? (i := 71) (by decide +kernel))) rfl
theorem mo_X10_send : Cond.code yX10_send cX10_send 7 (some FieldType.int) ∈ TB := mB (mT5 (List.mem_of_getElem? (i := 72) rfl)) rfl
theorem ml_X10_256 : Cond.methodLink "TransportFourModel" 256 yX10_goOn ∈ TB := mB (mT5 (List.mem_of_getElem? (i := 73) (by decide +kernel))) rfl
theorem mi_X10_goOn : Cond.instanceMethod yX10_goOn ∈ TB := mB (mT5 (List.mem_of_getElem? (i := 75) (by decide +kernel))) rfl
theorem mo_X10_goOn : Cond.code yX10_goOn cX10_goOn 3 none ∈ TB := mB (mT5 (List.mem_of_getElem? (i := 76) rfl)) rfl
theorem ml_X10_221 : Cond.methodLink "TransportFourModel" 221 yX10_mod ∈ TB := mB (mT5 (List.mem_of_getElem? (i := 77) (by decide +kernel))) rfl
theorem mt_X10_mod : Cond.static yX10_mod ∈ TB := mB (mT5 (List.mem_of_getElem? (i := 78) (by decide +kernel))) rfl
theorem mo_X10_mod : Cond.code yX10_mod cX10_mod 1 (some FieldType.int) ∈ TB := mB (mT5 (List.mem_of_getElem? (i := 79) rfl)) rfl
theorem ml_X10_224 : Cond.methodLink "TransportFourModel" 224 yX10_sendPiece ∈ TB := mB (mT5 (List.mem_of_getElem? (i := 80) (by decide +kernel))) rfl
theorem mi_X10_sendPiece : Cond.instanceMethod yX10_sendPiece ∈ TB := mB (mT5 (List.mem_of_getElem? (i := 82) (by decide +kernel))) rfl
theorem mo_X10_sendPiece : Cond.code yX10_sendPiece cX10_sendPiece 5 none ∈ TB := mB (mT5 (List.mem_of_getElem? (i := 83) rfl)) rfl
theorem ml_X10_227 : Cond.methodLink "TransportFourModel" 227 yX10_sendUrge ∈ TB := mB (mT5 (List.mem_of_getElem? (i := 84) (by decide +kernel))) rfl
theorem mi_X10_sendUrge : Cond.instanceMethod yX10_sendUrge ∈ TB := mB (mT5 (List.mem_of_getElem? (i := 86) (by decide +kernel))) rfl
theorem mo_X10_sendUrge : Cond.code yX10_sendUrge cX10_sendUrge 2 none ∈ TB := mB (mT5 (List.mem_of_getElem? (i := 87) rfl)) rfl
theorem ml_L_33 : Cond.methodLink "TransportFourLaw" 33 yX10_urge ∈ TB := mB (mT5 (List.mem_of_getElem? (i := 88) (by decide +kernel))) rfl
theorem mi_X10_urge : Cond.instanceMethod yX10_urge ∈ TB := mB (mT5 (List.mem_of_getElem? (i := 89) (by decide +kernel))) rfl
theorem mx_X10_urge : Cond.selects "TransportFourModel" yX10_urge yX10_urge ∈ TB := mB (mT5 (List.mem_of_getElem? (i := 90) (by decide +kernel))) rfl
theorem mo_X10_urge : Cond.code yX10_urge cX10_urge 3 (some FieldType.int) ∈ TB := mB (mT5 (List.mem_of_getElem? (i := 91) rfl)) rfl
theorem ml_L_58 : Cond.methodLink "TransportFourLaw" 58 yX10_tick ∈ TB := mB (mT5 (List.mem_of_getElem? (i := 92) (by decide +kernel))) rfl
theorem mi_X10_tick : Cond.instanceMethod yX10_tick ∈ TB := mB (mT5 (List.mem_of_getElem? (i := 93) (by decide +kernel))) rfl
theorem mx_X10_tick : Cond.selects "TransportFourModel" yX10_tick yX10_tick ∈ TB := mB (mT5 (List.mem_of_getElem? (i := 94) (by decide +kernel))) rfl
theorem mo_X10_tick : Cond.code yX10_tick cX10_tick 3 (some FieldType.int) ∈ TB := mB (mT5 (List.mem_of_getElem? (i := 95) rfl)) rfl
theorem ml_X10_328 : Cond.methodLink "TransportFourModel" 328 yX10_arriveAll ∈ TB := mB (mT5 (List.mem_of_getElem? (i := 96) (by decide +kernel))) rfl
theorem mi_X10_arriveAll : Cond.instanceMethod yX10_arriveAll ∈ TB := mB (mT5 (List.mem_of_getElem? (i := 98) (by decide +kernel))) rfl
theorem mo_X10_arriveAll : Cond.code yX10_arriveAll cX10_arriveAll 6 none ∈ TB := mB (mT5 (List.mem_of_getElem? (i := 99) rfl)) rfl
theorem ml_X10_311 : Cond.methodLink "TransportFourModel" 311 yX10_hasFault ∈ TB := mB (mT5 (List.mem_of_getElem? (i := 100) (by decide +kernel))) rfl
theorem mi_X10_hasFault : Cond.instanceMethod yX10_hasFault ∈ TB := mB (mT5 (List.mem_of_getElem? (i := 102) (by decide +kernel))) rfl
theorem mo_X10_hasFault : Cond.code yX10_hasFault cX10_hasFault 5 (some FieldType.boolean) ∈ TB := mB (mT5 (List.mem_of_getElem? (i := 103) rfl)) rfl
theorem ml_X10_315 : Cond.methodLink "TransportFourModel" 315 yX10_carry ∈ TB := mB (mT5 (List.mem_of_getElem? (i := 104) (by decide +kernel))) rfl
theorem mi_X10_carry : Cond.instanceMethod yX10_carry ∈ TB := mB (mT5 (List.mem_of_getElem? (i := 106) (by decide +kernel))) rfl
theorem mo_X10_carry : Cond.code yX10_carry cX10_carry 5 none ∈ TB := mB (mT5 (List.mem_of_getElem? (i := 107) rfl)) rfl
theorem ml_X10_305 : Cond.methodLink "TransportFourModel" 305 yX10_arrive ∈ TB := mB (mT5 (List.mem_of_getElem? (i := 108) (by decide +kernel))) rfl
theorem mi_X10_arrive : Cond.instanceMethod yX10_arrive ∈ TB := mB (mT5 (List.mem_of_getElem? (i := 110) (by decide +kernel))) rfl
theorem mo_X10_arrive : Cond.code yX10_arrive cX10_arrive 4 none ∈ TB := mB (mT5 (List.mem_of_getElem? (i := 111) rfl)) rfl
theorem ml_X10_277 : Cond.methodLink "TransportFourModel" 277 yX10_isGood ∈ TB := mB (mT5 (List.mem_of_getElem? (i := 112) (by decide +kernel))) rfl
theorem mi_X10_isGood : Cond.instanceMethod yX10_isGood ∈ TB := mB (mT5 (List.mem_of_getElem? (i := 114) (by decide +kernel))) rfl
theorem mo_X10_isGood : Cond.code yX10_isGood cX10_isGood 7 (some FieldType.boolean) ∈ TB := mB (mT5 (List.mem_of_getElem? (i := 115) rfl)) rfl
theorem ml_X10_262 : Cond.methodLink "TransportFourModel" 262 yX10_codeOf ∈ TB := mB (mT5 (List.mem_of_getElem? (i := 116) (by decide +kernel))) rfl
theorem mt_X10_codeOf : Cond.static yX10_codeOf ∈ TB := mB (mT5 (List.mem_of_getElem? (i := 117) (by decide +kernel))) rfl
theorem mo_X10_codeOf : Cond.code yX10_codeOf cX10_codeOf 4 (some FieldType.int) ∈ TB := mB (mT5 (List.mem_of_getElem? (i := 118) rfl)) rfl
theorem ml_X10_265 : Cond.methodLink "TransportFourModel" 265 yX10_headOf ∈ TB := mB (mT5 (List.mem_of_getElem? (i := 119) (by decide +kernel))) rfl
theorem mt_X10_headOf : Cond.static yX10_headOf ∈ TB := mB (mT5 (List.mem_of_getElem? (i := 120) (by decide +kernel))) rfl
theorem mo_X10_headOf : Cond.code yX10_headOf cX10_headOf 1 (some FieldType.int) ∈ TB := mB (mT5 (List.mem_of_getElem? (i := 121) rfl)) rfl
theorem ml_X10_281 : Cond.methodLink "TransportFourModel" 281 yX10_arriveCall ∈ TB := mB (mT5 (List.mem_of_getElem? (i := 122) (by decide +kernel))) rfl
theorem mi_X10_arriveCall : Cond.instanceMethod yX10_arriveCall ∈ TB := mB (mT5 (List.mem_of_getElem? (i := 124) (by decide +kernel))) rfl
theorem mo_X10_arriveCall : Cond.code yX10_arriveCall cX10_arriveCall 3 none ∈ TB := mB (mT5 (List.mem_of_getElem? (i := 125) rfl)) rfl
theorem ml_X10_268 : Cond.methodLink "TransportFourModel" 268 yX10_two ∈ TB := mB (mT5 (List.mem_of_getElem? (i := 126) (by decide +kernel))) rfl
theorem mi_X10_two : Cond.instanceMethod yX10_two ∈ TB := mB (mT5 (List.mem_of_getElem? (i := 128) (by decide +kernel))) rfl
theorem mo_X10_two : Cond.code yX10_two cX10_two 2 (some FieldType.int) ∈ TB := mB (mT5 (List.mem_of_getElem? (i := 129) rfl)) rfl
theorem ml_X10_214 : Cond.methodLink "TransportFourModel" 214 yX10_credit ∈ TB := mB (mT5 (List.mem_of_getElem? (i := 130) (by decide +kernel))) rfl
theorem mi_X10_credit : Cond.instanceMethod yX10_credit ∈ TB := mB (mT5 (List.mem_of_getElem? (i := 132) (by decide +kernel))) rfl
theorem mo_X10_credit : Cond.code yX10_credit cX10_credit 4 (some FieldType.int) ∈ TB := mB (mT5 (List.mem_of_getElem? (i := 133) rfl)) rfl
theorem ml_X10_284 : Cond.methodLink "TransportFourModel" 284 yX10_arriveAnswer ∈ TB := mB (mT5 (List.mem_of_getElem? (i := 134) (by decide +kernel))) rfl
theorem mi_X10_arriveAnswer : Cond.instanceMethod yX10_arriveAnswer ∈ TB := mB (mT5 (List.mem_of_getElem? (i := 136) (by decide +kernel))) rfl
theorem mo_X10_arriveAnswer : Cond.code yX10_arriveAnswer cX10_arriveAnswer 3 none ∈ TB := mB (mT5 (List.mem_of_getElem? (i := 137) rfl)) rfl
theorem ml_X10_271 : Cond.methodLink "TransportFourModel" 271 yX10_sendReceipt ∈ TB := mB (mT5 (List.mem_of_getElem? (i := 138) (by decide +kernel))) rfl
theorem mi_X10_sendReceipt : Cond.instanceMethod yX10_sendReceipt ∈ TB := mB (mT5 (List.mem_of_getElem? (i := 140) (by decide +kernel))) rfl
theorem mo_X10_sendReceipt : Cond.code yX10_sendReceipt cX10_sendReceipt 2 none ∈ TB := mB (mT5 (List.mem_of_getElem? (i := 141) rfl)) rfl
theorem ml_X10_217 : Cond.methodLink "TransportFourModel" 217 yX10_sendNumber ∈ TB := mB (mT5 (List.mem_of_getElem? (i := 142) (by decide +kernel))) rfl
theorem mi_X10_sendNumber : Cond.instanceMethod yX10_sendNumber ∈ TB := mB (mT5 (List.mem_of_getElem? (i := 144) (by decide +kernel))) rfl
theorem mo_X10_sendNumber : Cond.code yX10_sendNumber cX10_sendNumber 4 none ∈ TB := mB (mT5 (List.mem_of_getElem? (i := 145) rfl)) rfl
theorem ml_X10_287 : Cond.methodLink "TransportFourModel" 287 yX10_arriveReceipt ∈ TB := mB (mT5 (List.mem_of_getElem? (i := 146) (by decide +kernel))) rfl
theorem mi_X10_arriveReceipt : Cond.instanceMethod yX10_arriveReceipt ∈ TB := mB (mT5 (List.mem_of_getElem? (i := 148) (by decide +kernel))) rfl
theorem mo_X10_arriveReceipt : Cond.code yX10_arriveReceipt cX10_arriveReceipt 6 none ∈ TB := mB (mT5 (List.mem_of_getElem? (i := 149) rfl)) rfl
theorem ml_X10_290 : Cond.methodLink "TransportFourModel" 290 yX10_arriveData ∈ TB := mB (mT5 (List.mem_of_getElem? (i := 150) (by decide +kernel))) rfl
theorem mi_X10_arriveData : Cond.instanceMethod yX10_arriveData ∈ TB := mB (mT5 (List.mem_of_getElem? (i := 152) (by decide +kernel))) rfl
theorem mo_X10_arriveData : Cond.code yX10_arriveData cX10_arriveData 5 none ∈ TB := mB (mT5 (List.mem_of_getElem? (i := 153) rfl)) rfl
theorem ml_X10_274 : Cond.methodLink "TransportFourModel" 274 yX10_putBehind ∈ TB := mB (mT5 (List.mem_of_getElem? (i := 154) (by decide +kernel))) rfl
theorem mi_X10_putBehind : Cond.instanceMethod yX10_putBehind ∈ TB := mB (mT5 (List.mem_of_getElem? (i := 156) (by decide +kernel))) rfl
theorem mo_X10_putBehind : Cond.code yX10_putBehind cX10_putBehind 5 none ∈ TB := mB (mT5 (List.mem_of_getElem? (i := 157) rfl)) rfl
theorem ml_X10_293 : Cond.methodLink "TransportFourModel" 293 yX10_arriveUrgent ∈ TB := mB (mT5 (List.mem_of_getElem? (i := 158) (by decide +kernel))) rfl
theorem mi_X10_arriveUrgent : Cond.instanceMethod yX10_arriveUrgent ∈ TB := mB (mT5 (List.mem_of_getElem? (i := 160) (by decide +kernel))) rfl
theorem mo_X10_arriveUrgent : Cond.code yX10_arriveUrgent cX10_arriveUrgent 2 none ∈ TB := mB (mT5 (List.mem_of_getElem? (i := 161) rfl)) rfl
theorem ml_X10_296 : Cond.methodLink "TransportFourModel" 296 yX10_arriveUrgentReceipt ∈ TB := mB (mT5 (List.mem_of_getElem? (i := 162) (by decide +kernel))) rfl
theorem mi_X10_arriveUrgentReceipt : Cond.instanceMethod yX10_arriveUrgentReceipt ∈ TB := mB (mT5 (List.mem_of_getElem? (i := 164) (by decide +kernel))) rfl
theorem mo_X10_arriveUrgentReceipt : Cond.code yX10_arriveUrgentReceipt cX10_arriveUrgentReceipt 3 none ∈ TB := mB (mT5 (List.mem_of_getElem? (i := 165) rfl)) rfl
theorem ml_X10_299 : Cond.methodLink "TransportFourModel" 299 yX10_arriveEnd ∈ TB := mB (mT5 (List.mem_of_getElem? (i := 166) (by decide +kernel))) rfl
theorem mi_X10_arriveEnd : Cond.instanceMethod yX10_arriveEnd ∈ TB := mB (mT5 (List.mem_of_getElem? (i := 168) (by decide +kernel))) rfl
theorem mo_X10_arriveEnd : Cond.code yX10_arriveEnd cX10_arriveEnd 2 none ∈ TB := mB (mT5 (List.mem_of_getElem? (i := 169) rfl)) rfl
theorem ml_X10_248 : Cond.methodLink "TransportFourModel" 248 yX10_freeze ∈ TB := mB (mT5 (List.mem_of_getElem? (i := 170) (by decide +kernel))) rfl
theorem mi_X10_freeze : Cond.instanceMethod yX10_freeze ∈ TB := mB (mT5 (List.mem_of_getElem? (i := 172) (by decide +kernel))) rfl
theorem mo_X10_freeze : Cond.code yX10_freeze cX10_freeze 2 none ∈ TB := mB (mT5 (List.mem_of_getElem? (i := 173) rfl)) rfl
theorem ml_X10_331 : Cond.methodLink "TransportFourModel" 331 yX10_step ∈ TB := mB (mT5 (List.mem_of_getElem? (i := 174) (by decide +kernel))) rfl
theorem mi_X10_step : Cond.instanceMethod yX10_step ∈ TB := mB (mT5 (List.mem_of_getElem? (i := 176) (by decide +kernel))) rfl
theorem mo_X10_step : Cond.code yX10_step cX10_step 2 none ∈ TB := mB (mT5 (List.mem_of_getElem? (i := 177) rfl)) rfl
theorem ml_X10_325 : Cond.methodLink "TransportFourModel" 325 yX10_resend ∈ TB := mB (mT5 (List.mem_of_getElem? (i := 178) (by decide +kernel))) rfl
theorem mi_X10_resend : Cond.instanceMethod yX10_resend ∈ TB := mB (mT5 (List.mem_of_getElem? (i := 180) (by decide +kernel))) rfl
theorem mo_X10_resend : Cond.code yX10_resend cX10_resend 3 none ∈ TB := mB (mT5 (List.mem_of_getElem? (i := 181) rfl)) rfl
theorem ml_X10_321 : Cond.methodLink "TransportFourModel" 321 yX10_isDue ∈ TB := mB (mT5 (List.mem_of_getElem? (i := 182) (by decide +kernel))) rfl
theorem mi_X10_isDue : Cond.instanceMethod yX10_isDue ∈ TB := mB (mT5 (List.mem_of_getElem? (i := 184) (by decide +kernel))) rfl
theorem mo_X10_isDue : Cond.code yX10_isDue cX10_isDue 4 (some FieldType.boolean) ∈ TB := mB (mT5 (List.mem_of_getElem? (i := 185) rfl)) rfl
theorem ml_X10_318 : Cond.methodLink "TransportFourModel" 318 yX10_giveUp ∈ TB := mB (mT5 (List.mem_of_getElem? (i := 186) (by decide +kernel))) rfl
theorem mi_X10_giveUp : Cond.instanceMethod yX10_giveUp ∈ TB := mB (mT5 (List.mem_of_getElem? (i := 188) (by decide +kernel))) rfl
theorem mo_X10_giveUp : Cond.code yX10_giveUp cX10_giveUp 2 none ∈ TB := mB (mT5 (List.mem_of_getElem? (i := 189) rfl)) rfl
theorem ml_L_54 : Cond.methodLink "TransportFourLaw" 54 yX10_fault ∈ TB := mB (mT5 (List.mem_of_getElem? (i := 190) (by decide +kernel))) rfl
theorem mi_X10_fault : Cond.instanceMethod yX10_fault ∈ TB := mB (mT5 (List.mem_of_getElem? (i := 191) (by decide +kernel))) rfl
theorem mx_X10_fault : Cond.selects "TransportFourModel" yX10_fault yX10_fault ∈ TB := mB (mT5 (List.mem_of_getElem? (i := 192) (by decide +kernel))) rfl
theorem mo_X10_fault : Cond.code yX10_fault cX10_fault 5 (some FieldType.int) ∈ TB := mB (mT5 (List.mem_of_getElem? (i := 193) rfl)) rfl
theorem ml_L_41 : Cond.methodLink "TransportFourLaw" 41 yX10_take ∈ TB := mB (mT5 (List.mem_of_getElem? (i := 194) (by decide +kernel))) rfl
theorem mi_X10_take : Cond.instanceMethod yX10_take ∈ TB := mB (mT5 (List.mem_of_getElem? (i := 195) (by decide +kernel))) rfl
theorem mx_X10_take : Cond.selects "TransportFourModel" yX10_take yX10_take ∈ TB := mB (mT5 (List.mem_of_getElem? (i := 196) (by decide +kernel))) rfl
theorem mo_X10_take : Cond.code yX10_take cX10_take 6 (some FieldType.int) ∈ TB := mB (mT5 (List.mem_of_getElem? (i := 197) rfl)) rfl
theorem ml_L_45 : Cond.methodLink "TransportFourLaw" 45 yX10_read ∈ TB := mB (mT5 (List.mem_of_getElem? (i := 198) (by decide +kernel))) rfl
theorem mi_X10_read : Cond.instanceMethod yX10_read ∈ TB := mB (mT5 (List.mem_of_getElem? (i := 199) (by decide +kernel))) rfl
theorem mx_X10_read : Cond.selects "TransportFourModel" yX10_read yX10_read ∈ TB := mB (mT5 (List.mem_of_getElem? (i := 200) (by decide +kernel))) rfl
theorem mo_X10_read : Cond.code yX10_read cX10_read 3 (some FieldType.int) ∈ TB := mB (mT5 (List.mem_of_getElem? (i := 201) rfl)) rfl
theorem ml_L_49 : Cond.methodLink "TransportFourLaw" 49 yX10_urgent ∈ TB := mB (mT5 (List.mem_of_getElem? (i := 202) (by decide +kernel))) rfl
theorem mi_X10_urgent : Cond.instanceMethod yX10_urgent ∈ TB := mB (mT5 (List.mem_of_getElem? (i := 203) (by decide +kernel))) rfl
theorem mx_X10_urgent : Cond.selects "TransportFourModel" yX10_urgent yX10_urgent ∈ TB := mB (mT5 (List.mem_of_getElem? (i := 204) (by decide +kernel))) rfl
theorem mo_X10_urgent : Cond.code yX10_urgent cX10_urgent 4 (some FieldType.int) ∈ TB := mB (mT5 (List.mem_of_getElem? (i := 205) rfl)) rfl
theorem ml_L_62 : Cond.methodLink "TransportFourLaw" 62 yX10_told ∈ TB := mB (mT5 (List.mem_of_getElem? (i := 206) (by decide +kernel))) rfl
theorem mi_X10_told : Cond.instanceMethod yX10_told ∈ TB := mB (mT5 (List.mem_of_getElem? (i := 207) (by decide +kernel))) rfl
theorem mx_X10_told : Cond.selects "TransportFourModel" yX10_told yX10_told ∈ TB := mB (mT5 (List.mem_of_getElem? (i := 208) (by decide +kernel))) rfl
theorem mo_X10_told : Cond.code yX10_told cX10_told 3 (some FieldType.int) ∈ TB := mB (mT5 (List.mem_of_getElem? (i := 209) rfl)) rfl
theorem ml_L_67 : Cond.methodLink "TransportFourLaw" 67 yX10_sent ∈ TB := mB (mT5 (List.mem_of_getElem? (i := 210) (by decide +kernel))) rfl
theorem mi_X10_sent : Cond.instanceMethod yX10_sent ∈ TB := mB (mT5 (List.mem_of_getElem? (i := 211) (by decide +kernel))) rfl
theorem mx_X10_sent : Cond.selects "TransportFourModel" yX10_sent yX10_sent ∈ TB := mB (mT5 (List.mem_of_getElem? (i := 212) (by decide +kernel))) rfl
theorem mo_X10_sent : Cond.code yX10_sent cX10_sent 1 (some FieldType.int) ∈ TB := mB (mT5 (List.mem_of_getElem? (i := 213) rfl)) rfl
theorem ml_L_71 : Cond.methodLink "TransportFourLaw" 71 yX10_byteOf ∈ TB := mB (mT5 (List.mem_of_getElem? (i := 214) (by decide +kernel))) rfl
theorem mi_X10_byteOf : Cond.instanceMethod yX10_byteOf ∈ TB := mB (mT5 (List.mem_of_getElem? (i := 215) (by decide +kernel))) rfl
theorem mx_X10_byteOf : Cond.selects "TransportFourModel" yX10_byteOf yX10_byteOf ∈ TB := mB (mT5 (List.mem_of_getElem? (i := 216) (by decide +kernel))) rfl
theorem mo_X10_byteOf : Cond.code yX10_byteOf cX10_byteOf 4 (some FieldType.int) ∈ TB := mB (mT5 (List.mem_of_getElem? (i := 217) rfl)) rfl
theorem ml_L_75 : Cond.methodLink "TransportFourLaw" 75 yX10_clock ∈ TB := mB (mT5 (List.mem_of_getElem? (i := 218) (by decide +kernel))) rfl
theorem mi_X10_clock : Cond.instanceMethod yX10_clock ∈ TB := mB (mT5 (List.mem_of_getElem? (i := 219) (by decide +kernel))) rfl
theorem mx_X10_clock : Cond.selects "TransportFourModel" yX10_clock yX10_clock ∈ TB := mB (mT5 (List.mem_of_getElem? (i := 220) (by decide +kernel))) rfl
theorem mo_X10_clock : Cond.code yX10_clock cX10_clock 1 (some FieldType.int) ∈ TB := mB (mT5 (List.mem_of_getElem? (i := 221) rfl)) rfl
theorem mkl_L_18 : Cond.constantLong "TransportFourLaw" 18 (4294967295 : Int64) ∈ TB := mB (mT5 (List.mem_of_getElem? (i := 222) (by decide +kernel))) rfl
theorem mx_X9_deliver : Cond.selects RX9 yX9_deliver yX9_deliver ∈ TB := mB (mP (List.mem_of_getElem? (i := 0) (by decide +kernel))) rfl
theorem mx_X10_fresh : Cond.selects RX10 yX10_fresh yX10_fresh ∈ TB := mB (mP (List.mem_of_getElem? (i := 1) (by decide +kernel))) rfl
theorem mx_X10_sendCode : Cond.selects RX10 yX10_sendCode yX10_sendCode ∈ TB := mB (mP (List.mem_of_getElem? (i := 2) (by decide +kernel))) rfl
theorem mx_X10_begin : Cond.selects RX10 yX10_begin yX10_begin ∈ TB := mB (mP (List.mem_of_getElem? (i := 3) (by decide +kernel))) rfl
theorem mx_X10_push : Cond.selects RX10 yX10_push yX10_push ∈ TB := mB (mP (List.mem_of_getElem? (i := 4) (by decide +kernel))) rfl
theorem mx_X10_endHead : Cond.selects RX10 yX10_endHead yX10_endHead ∈ TB := mB (mP (List.mem_of_getElem? (i := 5) (by decide +kernel))) rfl
theorem mx_X10_check : Cond.selects RX10 yX10_check yX10_check ∈ TB := mB (mP (List.mem_of_getElem? (i := 6) (by decide +kernel))) rfl
theorem mx_X10_sendMade : Cond.selects RX10 yX10_sendMade yX10_sendMade ∈ TB := mB (mP (List.mem_of_getElem? (i := 7) (by decide +kernel))) rfl
theorem mx_X10_wait : Cond.selects RX10 yX10_wait yX10_wait ∈ TB := mB (mP (List.mem_of_getElem? (i := 8) (by decide +kernel))) rfl
theorem mx_X10_setReason : Cond.selects RX10 yX10_setReason yX10_setReason ∈ TB := mB (mP (List.mem_of_getElem? (i := 9) (by decide +kernel))) rfl
theorem mx_X10_goOn : Cond.selects RX10 yX10_goOn yX10_goOn ∈ TB := mB (mP (List.mem_of_getElem? (i := 10) (by decide +kernel))) rfl
theorem mx_X10_sendPiece : Cond.selects RX10 yX10_sendPiece yX10_sendPiece ∈ TB := mB (mP (List.mem_of_getElem? (i := 11) (by decide +kernel))) rfl
theorem mx_X10_sendUrge : Cond.selects RX10 yX10_sendUrge yX10_sendUrge ∈ TB := mB (mP (List.mem_of_getElem? (i := 12) (by decide +kernel))) rfl
theorem mx_X10_arriveAll : Cond.selects RX10 yX10_arriveAll yX10_arriveAll ∈ TB := mB (mP (List.mem_of_getElem? (i := 13) (by decide +kernel))) rfl
theorem mx_X10_hasFault : Cond.selects RX10 yX10_hasFault yX10_hasFault ∈ TB := mB (mP (List.mem_of_getElem? (i := 14) (by decide +kernel))) rfl
theorem mx_X10_carry : Cond.selects RX10 yX10_carry yX10_carry ∈ TB := mB (mP (List.mem_of_getElem? (i := 15) (by decide +kernel))) rfl
theorem mx_X10_arrive : Cond.selects RX10 yX10_arrive yX10_arrive ∈ TB := mB (mP (List.mem_of_getElem? (i := 16) (by decide +kernel))) rfl
theorem mx_X10_isGood : Cond.selects RX10 yX10_isGood yX10_isGood ∈ TB := mB (mP (List.mem_of_getElem? (i := 17) (by decide +kernel))) rfl
theorem mx_X10_arriveCall : Cond.selects RX10 yX10_arriveCall yX10_arriveCall ∈ TB := mB (mP (List.mem_of_getElem? (i := 18) (by decide +kernel))) rfl
theorem mx_X10_two : Cond.selects RX10 yX10_two yX10_two ∈ TB := mB (mP (List.mem_of_getElem? (i := 19) (by decide +kernel))) rfl
theorem mx_X10_credit : Cond.selects RX10 yX10_credit yX10_credit ∈ TB := mB (mP (List.mem_of_getElem? (i := 20) (by decide +kernel))) rfl
theorem mx_X10_arriveAnswer : Cond.selects RX10 yX10_arriveAnswer yX10_arriveAnswer ∈ TB := mB (mP (List.mem_of_getElem? (i := 21) (by decide +kernel))) rfl
theorem mx_X10_sendReceipt : Cond.selects RX10 yX10_sendReceipt yX10_sendReceipt ∈ TB := mB (mP (List.mem_of_getElem? (i := 22) (by decide +kernel))) rfl
theorem mx_X10_sendNumber : Cond.selects RX10 yX10_sendNumber yX10_sendNumber ∈ TB := mB (mP (List.mem_of_getElem? (i := 23) (by decide +kernel))) rfl
theorem mx_X10_arriveReceipt : Cond.selects RX10 yX10_arriveReceipt yX10_arriveReceipt ∈ TB := mB (mP (List.mem_of_getElem? (i := 24) (by decide +kernel))) rfl
theorem mx_X10_arriveData : Cond.selects RX10 yX10_arriveData yX10_arriveData ∈ TB := mB (mP (List.mem_of_getElem? (i := 25) (by decide +kernel))) rfl
theorem mx_X10_putBehind : Cond.selects RX10 yX10_putBehind yX10_putBehind ∈ TB := mB (mP (List.mem_of_getElem? (i := 26) (by decide +kernel))) rfl
theorem mx_X10_arriveUrgent : Cond.selects RX10 yX10_arriveUrgent yX10_arriveUrgent ∈ TB := mB (mP (List.mem_of_getElem? (i := 27) (by decide +kernel))) rfl
theorem mx_X10_arriveUrgentReceipt : Cond.selects RX10 yX10_arriveUrgentReceipt yX10_arriveUrgentReceipt ∈ TB := mB (mP (List.mem_of_getElem? (i := 28) (by decide +kernel))) rfl
theorem mx_X10_arriveEnd : Cond.selects RX10 yX10_arriveEnd yX10_arriveEnd ∈ TB := mB (mP (List.mem_of_getElem? (i := 29) (by decide +kernel))) rfl
theorem mx_X10_freeze : Cond.selects RX10 yX10_freeze yX10_freeze ∈ TB := mB (mP (List.mem_of_getElem? (i := 30) (by decide +kernel))) rfl
theorem mx_X10_step : Cond.selects RX10 yX10_step yX10_step ∈ TB := mB (mP (List.mem_of_getElem? (i := 31) (by decide +kernel))) rfl
theorem mx_X10_resend : Cond.selects RX10 yX10_resend yX10_resend ∈ TB := mB (mP (List.mem_of_getElem? (i := 32) (by decide +kernel))) rfl
theorem mx_X10_isDue : Cond.selects RX10 yX10_isDue yX10_isDue ∈ TB := mB (mP (List.mem_of_getElem? (i := 33) (by decide +kernel))) rfl
theorem mx_X10_giveUp : Cond.selects RX10 yX10_giveUp yX10_giveUp ∈ TB := mB (mP (List.mem_of_getElem? (i := 34) (by decide +kernel))) rfl
theorem my_0_0 : u_lay RX0 TX0 0 ∈ TB := mB (mT2 (List.mem_of_getElem? (i := 59) (by decide +kernel))) (by decide +kernel)
theorem my_0_1 : u_lay RX0 TX0 1 ∈ TB := mB (mT2 (List.mem_of_getElem? (i := 61) (by decide +kernel))) (by decide +kernel)
theorem my_0_2 : u_lay RX0 TX0 2 ∈ TB := mB (mT2 (List.mem_of_getElem? (i := 63) (by decide +kernel))) (by decide +kernel)
theorem my_0_3 : u_lay RX0 TX0 3 ∈ TB := mB (mT2 (List.mem_of_getElem? (i := 65) (by decide +kernel))) (by decide +kernel)
theorem my_0_4 : u_lay RX0 TX0 4 ∈ TB := mB (mT2 (List.mem_of_getElem? (i := 67) (by decide +kernel))) (by decide +kernel)
theorem my_0_5 : u_lay RX0 TX0 5 ∈ TB := mB (mT2 (List.mem_of_getElem? (i := 69) (by decide +kernel))) (by decide +kernel)
theorem my_0_6 : u_lay RX0 TX0 6 ∈ TB := mB (mT2 (List.mem_of_getElem? (i := 71) (by decide +kernel))) (by decide +kernel)
theorem my_0_7 : u_lay RX0 TX0 7 ∈ TB := mB (mT2 (List.mem_of_getElem? (i := 73) (by decide +kernel))) (by decide +kernel)
theorem my_0_8 : u_lay RX0 TX0 8 ∈ TB := mB (mT2 (List.mem_of_getElem? (i := 75) (by decide +kernel))) (by decide +kernel)
theorem my_0_9 : u_lay RX0 TX0 9 ∈ TB := mB (mT2 (List.mem_of_getElem? (i := 77) (by decide +kernel))) (by decide +kernel)
theorem my_0_10 : u_lay RX0 TX0 10 ∈ TB := mB (mT2 (List.mem_of_getElem? (i := 79) (by decide +kernel))) (by decide +kernel)
theorem my_0_11 : u_lay RX0 TX0 11 ∈ TB := mB (mT2 (List.mem_of_getElem? (i := 81) (by decide +kernel))) (by decide +kernel)
theorem my_0_12 : u_lay RX0 TX0 12 ∈ TB := mB (mT2 (List.mem_of_getElem? (i := 83) (by decide +kernel))) (by decide +kernel)
theorem my_0_13 : u_lay RX0 TX0 13 ∈ TB := mB (mT2 (List.mem_of_getElem? (i := 85) (by decide +kernel))) (by decide +kernel)
