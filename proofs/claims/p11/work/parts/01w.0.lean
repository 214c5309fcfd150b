theorem mn_L : Cond.initialized "TransportFourLaw" ∈ TB := mB (mT1 (List.mem_of_getElem? (i := 0) (by decide +kernel))) rfl
theorem mn_X9 : Cond.initialized "TransportFour" ∈ TB := mB (mT1 (List.mem_of_getElem? (i := 1) (by decide +kernel))) rfl
theorem mn_X2 : Cond.initialized "TransportFour$Net" ∈ TB := mB (mT1 (List.mem_of_getElem? (i := 2) (by decide +kernel))) rfl
theorem mn_X5 : Cond.initialized "TransportFour$Unit" ∈ TB := mB (mT1 (List.mem_of_getElem? (i := 3) (by decide +kernel))) rfl
theorem mn_X0 : Cond.initialized "TransportFour$End" ∈ TB := mB (mT1 (List.mem_of_getElem? (i := 4) (by decide +kernel))) rfl
theorem mn_X3 : Cond.initialized "TransportFour$Outbox" ∈ TB := mB (mT1 (List.mem_of_getElem? (i := 5) (by decide +kernel))) rfl
theorem mn_X4 : Cond.initialized "TransportFour$Piece" ∈ TB := mB (mT1 (List.mem_of_getElem? (i := 6) (by decide +kernel))) rfl
theorem mn_X8 : Cond.initialized "TransportFour$Wait" ∈ TB := mB (mT1 (List.mem_of_getElem? (i := 7) (by decide +kernel))) rfl
theorem mn_X1 : Cond.initialized "TransportFour$Inbox" ∈ TB := mB (mT1 (List.mem_of_getElem? (i := 8) (by decide +kernel))) rfl
theorem mn_X7 : Cond.initialized "TransportFour$UrgentOut" ∈ TB := mB (mT1 (List.mem_of_getElem? (i := 9) (by decide +kernel))) rfl
theorem mn_X6 : Cond.initialized "TransportFour$UrgentIn" ∈ TB := mB (mT1 (List.mem_of_getElem? (i := 10) (by decide +kernel))) rfl
theorem mn_X10 : Cond.initialized "TransportFourModel" ∈ TB := mB (mT1 (List.mem_of_getElem? (i := 11) (by decide +kernel))) rfl
theorem mn_J9 : Cond.initialized "java/lang/Math" ∈ TB := mB (mT1 (List.mem_of_getElem? (i := 12) (by decide +kernel))) rfl
theorem mn_J10 : Cond.initialized "java/lang/System" ∈ TB := mB (mT1 (List.mem_of_getElem? (i := 13) (by decide +kernel))) rfl
theorem mc_L_7 : Cond.classLink "TransportFourLaw" 7 "TransportFour" ∈ TB := mB (mT1 (List.mem_of_getElem? (i := 14) (by decide +kernel))) rfl
theorem ms_X9 : Cond.instantiable "TransportFour" 4 ∈ TB := mB (mT1 (List.mem_of_getElem? (i := 15) (by decide +kernel))) rfl
theorem ml_L_9 : Cond.methodLink "TransportFourLaw" 9 yX9_init ∈ TB := mB (mT1 (List.mem_of_getElem? (i := 16) (by decide +kernel))) rfl
theorem mi_X9_init : Cond.instanceMethod yX9_init ∈ TB := mB (mT1 (List.mem_of_getElem? (i := 17) (by decide +kernel))) rfl
theorem mo_X9_init : Cond.code yX9_init cX9_init 1 none ∈ TB := mB (mT1 (List.mem_of_getElem? (i := 18) rfl)) rfl
theorem ml_X9_1 : Cond.methodLink "TransportFour" 1 objectInit ∈ TB := mB (mT1 (List.mem_of_getElem? (i := 19) (by decide +kernel))) rfl
theorem mi_obj : Cond.instanceMethod objectInit ∈ TB := mB (mT1 (List.mem_of_getElem? (i := 20) (by decide +kernel))) rfl
theorem mo_obj : Cond.code objectInit ⟨#[0xb1]⟩ 1 none ∈ TB := mB (mT1 (List.mem_of_getElem? (i := 21) rfl)) rfl
theorem mc_X9_7 : Cond.classLink "TransportFour" 7 "TransportFour$Net" ∈ TB := mB (mT1 (List.mem_of_getElem? (i := 22) (by decide +kernel))) rfl
theorem ms_X2 : Cond.instantiable "TransportFour$Net" 11 ∈ TB := mB (mT1 (List.mem_of_getElem? (i := 23) (by decide +kernel))) rfl
theorem ml_X9_9 : Cond.methodLink "TransportFour" 9 yX2_init ∈ TB := mB (mT1 (List.mem_of_getElem? (i := 24) (by decide +kernel))) rfl
theorem mi_X2_init : Cond.instanceMethod yX2_init ∈ TB := mB (mT1 (List.mem_of_getElem? (i := 25) (by decide +kernel))) rfl
theorem mo_X2_init : Cond.code yX2_init cX2_init 2 none ∈ TB := mB (mT1 (List.mem_of_getElem? (i := 26) rfl)) rfl
theorem ml_X2_3 : Cond.methodLink "TransportFour$Net" 3 objectInit ∈ TB := mB (mT1 (List.mem_of_getElem? (i := 27) (by decide +kernel))) rfl
theorem mc_X2_9 : Cond.classLink "TransportFour$Net" 9 "TransportFour$Unit" ∈ TB := mB (mT1 (List.mem_of_getElem? (i := 28) (by decide +kernel))) rfl
theorem ms_X5 : Cond.instantiable "TransportFour$Unit" 7 ∈ TB := mB (mT1 (List.mem_of_getElem? (i := 30) (by decide +kernel))) rfl
theorem mi_X5_init : Cond.instanceMethod yX5_init ∈ TB := mB (mT1 (List.mem_of_getElem? (i := 32) (by decide +kernel))) rfl
theorem mo_X5_init : Cond.code yX5_init cX5_init 1 none ∈ TB := mB (mT1 (List.mem_of_getElem? (i := 33) rfl)) rfl
theorem ml_X5_3 : Cond.methodLink "TransportFour$Unit" 3 objectInit ∈ TB := mB (mT1 (List.mem_of_getElem? (i := 34) (by decide +kernel))) rfl
theorem mf_X5_9 : Cond.fieldLink "TransportFour$Unit" 9 "TransportFour$Unit" "bytes" "[I" ∈ TB := mB (mT1 (List.mem_of_getElem? (i := 35) (by decide +kernel))) rfl
theorem mf_X1_83 : Cond.fieldLink "TransportFour$Inbox" 83 "TransportFour$Unit" "bytes" "[I" ∈ TB := mB (mT1 (List.mem_of_getElem? (i := 36) (by decide +kernel))) rfl
theorem mf_X2_85 : Cond.fieldLink "TransportFour$Net" 85 "TransportFour$Unit" "bytes" "[I" ∈ TB := mB (mT1 (List.mem_of_getElem? (i := 37) (by decide +kernel))) rfl
theorem mf_X0_196 : Cond.fieldLink "TransportFour$End" 196 "TransportFour$Unit" "bytes" "[I" ∈ TB := mB (mT1 (List.mem_of_getElem? (i := 38) (by decide +kernel))) rfl
theorem mf_X5_19 : Cond.fieldLink "TransportFour$Unit" 19 "TransportFour$Unit" "length" "I" ∈ TB := mB (mT1 (List.mem_of_getElem? (i := 39) (by decide +kernel))) rfl
theorem mf_X1_80 : Cond.fieldLink "TransportFour$Inbox" 80 "TransportFour$Unit" "length" "I" ∈ TB := mB (mT1 (List.mem_of_getElem? (i := 40) (by decide +kernel))) rfl
theorem mf_X2_94 : Cond.fieldLink "TransportFour$Net" 94 "TransportFour$Unit" "length" "I" ∈ TB := mB (mT1 (List.mem_of_getElem? (i := 41) (by decide +kernel))) rfl
theorem mf_X2_60 : Cond.fieldLink "TransportFour$Net" 60 "TransportFour$Unit" "sender" "I" ∈ TB := mB (mT1 (List.mem_of_getElem? (i := 42) (by decide +kernel))) rfl
theorem mf_X9_117 : Cond.fieldLink "TransportFour" 117 "TransportFour$Unit" "sender" "I" ∈ TB := mB (mT1 (List.mem_of_getElem? (i := 43) (by decide +kernel))) rfl
theorem mf_X2_66 : Cond.fieldLink "TransportFour$Net" 66 "TransportFour$Unit" "arrival" "I" ∈ TB := mB (mT1 (List.mem_of_getElem? (i := 44) (by decide +kernel))) rfl
theorem mf_X2_69 : Cond.fieldLink "TransportFour$Net" 69 "TransportFour$Unit" "secondArrival" "I" ∈ TB := mB (mT1 (List.mem_of_getElem? (i := 45) (by decide +kernel))) rfl
theorem mf_X2_82 : Cond.fieldLink "TransportFour$Net" 82 "TransportFour$Unit" "spoiledPlace" "I" ∈ TB := mB (mT1 (List.mem_of_getElem? (i := 46) (by decide +kernel))) rfl
theorem mf_X2_72 : Cond.fieldLink "TransportFour$Net" 72 "TransportFour$Unit" "spoilingMask" "I" ∈ TB := mB (mT1 (List.mem_of_getElem? (i := 47) (by decide +kernel))) rfl
theorem ma_int : Cond.arrayClass FieldType.int ∈ TB := mB (mT1 (List.mem_of_getElem? (i := 63) (by decide +kernel))) rfl
theorem mf_X2_11 : Cond.fieldLink "TransportFour$Net" 11 "TransportFour$Net" "ring" "[LTransportFour$Unit;" ∈ TB := mB (mT1 (List.mem_of_getElem? (i := 64) (by decide +kernel))) rfl
theorem mf_X2_18 : Cond.fieldLink "TransportFour$Net" 18 "TransportFour$Net" "arriving" "LTransportFour$Unit;" ∈ TB := mB (mT1 (List.mem_of_getElem? (i := 65) (by decide +kernel))) rfl
theorem mf_X2_22 : Cond.fieldLink "TransportFour$Net" 22 "TransportFour$Net" "faultKinds" "[I" ∈ TB := mB (mT1 (List.mem_of_getElem? (i := 66) (by decide +kernel))) rfl
theorem mf_X2_26 : Cond.fieldLink "TransportFour$Net" 26 "TransportFour$Net" "faultNumbers" "[I" ∈ TB := mB (mT1 (List.mem_of_getElem? (i := 67) (by decide +kernel))) rfl
theorem mf_X2_29 : Cond.fieldLink "TransportFour$Net" 29 "TransportFour$Net" "faultPlaces" "[I" ∈ TB := mB (mT1 (List.mem_of_getElem? (i := 68) (by decide +kernel))) rfl
theorem mf_X2_32 : Cond.fieldLink "TransportFour$Net" 32 "TransportFour$Net" "faultMasks" "[I" ∈ TB := mB (mT1 (List.mem_of_getElem? (i := 69) (by decide +kernel))) rfl
theorem mf_X2_35 : Cond.fieldLink "TransportFour$Net" 35 "TransportFour$Net" "latest" "[I" ∈ TB := mB (mT1 (List.mem_of_getElem? (i := 70) (by decide +kernel))) rfl
theorem mf_X0_231 : Cond.fieldLink "TransportFour$End" 231 "TransportFour$Net" "latest" "[I" ∈ TB := mB (mT1 (List.mem_of_getElem? (i := 71) (by decide +kernel))) rfl
theorem mf_X2_38 : Cond.fieldLink "TransportFour$Net" 38 "TransportFour$Net" "faults" "I" ∈ TB := mB (mT1 (List.mem_of_getElem? (i := 72) (by decide +kernel))) rfl
theorem mf_X2_42 : Cond.fieldLink "TransportFour$Net" 42 "TransportFour$Net" "count" "I" ∈ TB := mB (mT1 (List.mem_of_getElem? (i := 73) (by decide +kernel))) rfl
theorem mf_X9_73 : Cond.fieldLink "TransportFour" 73 "TransportFour$Net" "count" "I" ∈ TB := mB (mT1 (List.mem_of_getElem? (i := 74) (by decide +kernel))) rfl
theorem mf_X2_79 : Cond.fieldLink "TransportFour$Net" 79 "TransportFour$Net" "oldest" "I" ∈ TB := mB (mT1 (List.mem_of_getElem? (i := 75) (by decide +kernel))) rfl
theorem mf_X9_100 : Cond.fieldLink "TransportFour" 100 "TransportFour$Net" "oldest" "I" ∈ TB := mB (mT1 (List.mem_of_getElem? (i := 76) (by decide +kernel))) rfl
theorem mf_X0_88 : Cond.fieldLink "TransportFour$End" 88 "TransportFour$Net" "now" "I" ∈ TB := mB (mT1 (List.mem_of_getElem? (i := 77) (by decide +kernel))) rfl
theorem mf_X2_63 : Cond.fieldLink "TransportFour$Net" 63 "TransportFour$Net" "now" "I" ∈ TB := mB (mT1 (List.mem_of_getElem? (i := 78) (by decide +kernel))) rfl
theorem mf_X9_80 : Cond.fieldLink "TransportFour" 80 "TransportFour$Net" "now" "I" ∈ TB := mB (mT1 (List.mem_of_getElem? (i := 79) (by decide +kernel))) rfl
theorem mc_X9_16 : Cond.classLink "TransportFour" 16 "TransportFour$End" ∈ TB := mB (mT1 (List.mem_of_getElem? (i := 103) (by decide +kernel))) rfl
theorem ms_X0 : Cond.instantiable "TransportFour$End" 15 ∈ TB := mB (mT1 (List.mem_of_getElem? (i := 105) (by decide +kernel))) rfl
theorem ml_X9_18 : Cond.methodLink "TransportFour" 18 yX0_init ∈ TB := mB (mT1 (List.mem_of_getElem? (i := 106) (by decide +kernel))) rfl
theorem mi_X0_init : Cond.instanceMethod yX0_init ∈ TB := mB (mT1 (List.mem_of_getElem? (i := 107) (by decide +kernel))) rfl
theorem mo_X0_init : Cond.code yX0_init cX0_init 3 none ∈ TB := mB (mT1 (List.mem_of_getElem? (i := 108) rfl)) rfl
theorem ml_X0_3 : Cond.methodLink "TransportFour$End" 3 objectInit ∈ TB := mB (mT1 (List.mem_of_getElem? (i := 109) (by decide +kernel))) rfl
theorem mc_X0_9 : Cond.classLink "TransportFour$End" 9 "TransportFour$Outbox" ∈ TB := mB (mT1 (List.mem_of_getElem? (i := 110) (by decide +kernel))) rfl
theorem ms_X3 : Cond.instantiable "TransportFour$Outbox" 6 ∈ TB := mB (mT1 (List.mem_of_getElem? (i := 111) (by decide +kernel))) rfl
theorem ml_X0_11 : Cond.methodLink "TransportFour$End" 11 yX3_init ∈ TB := mB (mT1 (List.mem_of_getElem? (i := 112) (by decide +kernel))) rfl
theorem mi_X3_init : Cond.instanceMethod yX3_init ∈ TB := mB (mT1 (List.mem_of_getElem? (i := 113) (by decide +kernel))) rfl
theorem mo_X3_init : Cond.code yX3_init cX3_init 2 none ∈ TB := mB (mT1 (List.mem_of_getElem? (i := 114) rfl)) rfl
theorem ml_X3_3 : Cond.methodLink "TransportFour$Outbox" 3 objectInit ∈ TB := mB (mT1 (List.mem_of_getElem? (i := 115) (by decide +kernel))) rfl
theorem mc_X3_9 : Cond.classLink "TransportFour$Outbox" 9 "TransportFour$Piece" ∈ TB := mB (mT1 (List.mem_of_getElem? (i := 116) (by decide +kernel))) rfl
theorem ms_X4 : Cond.instantiable "TransportFour$Piece" 4 ∈ TB := mB (mT1 (List.mem_of_getElem? (i := 118) (by decide +kernel))) rfl
theorem mi_X4_init : Cond.instanceMethod yX4_init ∈ TB := mB (mT1 (List.mem_of_getElem? (i := 120) (by decide +kernel))) rfl
theorem mo_X4_init : Cond.code yX4_init cX4_init 1 none ∈ TB := mB (mT1 (List.mem_of_getElem? (i := 121) rfl)) rfl
theorem ml_X4_3 : Cond.methodLink "TransportFour$Piece" 3 objectInit ∈ TB := mB (mT1 (List.mem_of_getElem? (i := 122) (by decide +kernel))) rfl
theorem mc_X4_15 : Cond.classLink "TransportFour$Piece" 15 "TransportFour$Wait" ∈ TB := mB (mT1 (List.mem_of_getElem? (i := 123) (by decide +kernel))) rfl
theorem ms_X8 : Cond.instantiable "TransportFour$Wait" 2 ∈ TB := mB (mT1 (List.mem_of_getElem? (i := 124) (by decide +kernel))) rfl
theorem mi_X8_init : Cond.instanceMethod yX8_init ∈ TB := mB (mT1 (List.mem_of_getElem? (i := 126) (by decide +kernel))) rfl
theorem mo_X8_init : Cond.code yX8_init cX8_init 1 none ∈ TB := mB (mT1 (List.mem_of_getElem? (i := 127) rfl)) rfl
theorem ml_X8_3 : Cond.methodLink "TransportFour$Wait" 3 objectInit ∈ TB := mB (mT1 (List.mem_of_getElem? (i := 128) (by decide +kernel))) rfl
theorem mf_X8_9 : Cond.fieldLink "TransportFour$Wait" 9 "TransportFour$Wait" "times" "I" ∈ TB := mB (mT1 (List.mem_of_getElem? (i := 129) (by decide +kernel))) rfl
theorem mf_X7_32 : Cond.fieldLink "TransportFour$UrgentOut" 32 "TransportFour$Wait" "times" "I" ∈ TB := mB (mT1 (List.mem_of_getElem? (i := 130) (by decide +kernel))) rfl
theorem mf_X8_15 : Cond.fieldLink "TransportFour$Wait" 15 "TransportFour$Wait" "latest" "I" ∈ TB := mB (mT1 (List.mem_of_getElem? (i := 131) (by decide +kernel))) rfl
theorem mf_X4_9 : Cond.fieldLink "TransportFour$Piece" 9 "TransportFour$Piece" "bytes" "[I" ∈ TB := mB (mT1 (List.mem_of_getElem? (i := 137) (by decide +kernel))) rfl
theorem mf_X3_64 : Cond.fieldLink "TransportFour$Outbox" 64 "TransportFour$Piece" "bytes" "[I" ∈ TB := mB (mT1 (List.mem_of_getElem? (i := 138) (by decide +kernel))) rfl
theorem mf_X0_287 : Cond.fieldLink "TransportFour$End" 287 "TransportFour$Piece" "bytes" "[I" ∈ TB := mB (mT1 (List.mem_of_getElem? (i := 139) (by decide +kernel))) rfl
theorem mf_X4_18 : Cond.fieldLink "TransportFour$Piece" 18 "TransportFour$Piece" "wait" "LTransportFour$Wait;" ∈ TB := mB (mT1 (List.mem_of_getElem? (i := 140) (by decide +kernel))) rfl
theorem mf_X3_55 : Cond.fieldLink "TransportFour$Outbox" 55 "TransportFour$Piece" "wait" "LTransportFour$Wait;" ∈ TB := mB (mT1 (List.mem_of_getElem? (i := 141) (by decide +kernel))) rfl
theorem mf_X0_241 : Cond.fieldLink "TransportFour$End" 241 "TransportFour$Piece" "wait" "LTransportFour$Wait;" ∈ TB := mB (mT1 (List.mem_of_getElem? (i := 142) (by decide +kernel))) rfl
theorem mf_X3_48 : Cond.fieldLink "TransportFour$Outbox" 48 "TransportFour$Piece" "length" "I" ∈ TB := mB (mT1 (List.mem_of_getElem? (i := 143) (by decide +kernel))) rfl
theorem mf_X0_284 : Cond.fieldLink "TransportFour$End" 284 "TransportFour$Piece" "length" "I" ∈ TB := mB (mT1 (List.mem_of_getElem? (i := 144) (by decide +kernel))) rfl
theorem mf_X3_51 : Cond.fieldLink "TransportFour$Outbox" 51 "TransportFour$Piece" "last" "Z" ∈ TB := mB (mT1 (List.mem_of_getElem? (i := 145) (by decide +kernel))) rfl
theorem mf_X0_281 : Cond.fieldLink "TransportFour$End" 281 "TransportFour$Piece" "last" "Z" ∈ TB := mB (mT1 (List.mem_of_getElem? (i := 146) (by decide +kernel))) rfl
theorem mf_X3_11 : Cond.fieldLink "TransportFour$Outbox" 11 "TransportFour$Outbox" "ring" "[LTransportFour$Piece;" ∈ TB := mB (mT1 (List.mem_of_getElem? (i := 156) (by decide +kernel))) rfl
theorem mf_X3_31 : Cond.fieldLink "TransportFour$Outbox" 31 "TransportFour$Outbox" "first" "I" ∈ TB := mB (mT1 (List.mem_of_getElem? (i := 157) (by decide +kernel))) rfl
theorem mf_X3_18 : Cond.fieldLink "TransportFour$Outbox" 18 "TransportFour$Outbox" "waiting" "I" ∈ TB := mB (mT1 (List.mem_of_getElem? (i := 158) (by decide +kernel))) rfl
theorem mf_X0_107 : Cond.fieldLink "TransportFour$End" 107 "TransportFour$Outbox" "waiting" "I" ∈ TB := mB (mT1 (List.mem_of_getElem? (i := 159) (by decide +kernel))) rfl
theorem mf_X3_22 : Cond.fieldLink "TransportFour$Outbox" 22 "TransportFour$Outbox" "started" "I" ∈ TB := mB (mT1 (List.mem_of_getElem? (i := 160) (by decide +kernel))) rfl
theorem mf_X0_134 : Cond.fieldLink "TransportFour$End" 134 "TransportFour$Outbox" "started" "I" ∈ TB := mB (mT1 (List.mem_of_getElem? (i := 161) (by decide +kernel))) rfl
theorem mf_X3_25 : Cond.fieldLink "TransportFour$Outbox" 25 "TransportFour$Outbox" "peerExpects" "I" ∈ TB := mB (mT1 (List.mem_of_getElem? (i := 162) (by decide +kernel))) rfl
theorem mf_X3_28 : Cond.fieldLink "TransportFour$Outbox" 28 "TransportFour$Outbox" "peerCredit" "I" ∈ TB := mB (mT1 (List.mem_of_getElem? (i := 163) (by decide +kernel))) rfl
theorem mf_X0_143 : Cond.fieldLink "TransportFour$End" 143 "TransportFour$Outbox" "peerCredit" "I" ∈ TB := mB (mT1 (List.mem_of_getElem? (i := 164) (by decide +kernel))) rfl
theorem mc_X0_18 : Cond.classLink "TransportFour$End" 18 "TransportFour$Inbox" ∈ TB := mB (mT1 (List.mem_of_getElem? (i := 178) (by decide +kernel))) rfl
theorem ms_X1 : Cond.instantiable "TransportFour$Inbox" 15 ∈ TB := mB (mT1 (List.mem_of_getElem? (i := 179) (by decide +kernel))) rfl
theorem mi_X1_init : Cond.instanceMethod yX1_init ∈ TB := mB (mT1 (List.mem_of_getElem? (i := 181) (by decide +kernel))) rfl
theorem mo_X1_init : Cond.code yX1_init cX1_init 1 none ∈ TB := mB (mT1 (List.mem_of_getElem? (i := 182) rfl)) rfl
theorem ml_X1_3 : Cond.methodLink "TransportFour$Inbox" 3 objectInit ∈ TB := mB (mT1 (List.mem_of_getElem? (i := 183) (by decide +kernel))) rfl
theorem mc_X1_9 : Cond.classLink "TransportFour$Inbox" 9 "[[I" ∈ TB := mB (mT1 (List.mem_of_getElem? (i := 184) (by decide +kernel))) rfl
theorem mf_X1_11 : Cond.fieldLink "TransportFour$Inbox" 11 "TransportFour$Inbox" "kept" "[[I" ∈ TB := mB (mT1 (List.mem_of_getElem? (i := 186) (by decide +kernel))) rfl
theorem mf_X1_16 : Cond.fieldLink "TransportFour$Inbox" 16 "TransportFour$Inbox" "keptLengths" "[I" ∈ TB := mB (mT1 (List.mem_of_getElem? (i := 187) (by decide +kernel))) rfl
theorem mf_X1_20 : Cond.fieldLink "TransportFour$Inbox" 20 "TransportFour$Inbox" "keptIsLast" "[Z" ∈ TB := mB (mT1 (List.mem_of_getElem? (i := 188) (by decide +kernel))) rfl
theorem mf_X1_24 : Cond.fieldLink "TransportFour$Inbox" 24 "TransportFour$Inbox" "isKept" "[Z" ∈ TB := mB (mT1 (List.mem_of_getElem? (i := 189) (by decide +kernel))) rfl
theorem mf_X1_27 : Cond.fieldLink "TransportFour$Inbox" 27 "TransportFour$Inbox" "bytes" "[I" ∈ TB := mB (mT1 (List.mem_of_getElem? (i := 190) (by decide +kernel))) rfl
theorem mf_X1_30 : Cond.fieldLink "TransportFour$Inbox" 30 "TransportFour$Inbox" "lengths" "[I" ∈ TB := mB (mT1 (List.mem_of_getElem? (i := 191) (by decide +kernel))) rfl
theorem mf_X1_33 : Cond.fieldLink "TransportFour$Inbox" 33 "TransportFour$Inbox" "units" "[I" ∈ TB := mB (mT1 (List.mem_of_getElem? (i := 192) (by decide +kernel))) rfl
theorem mf_X1_36 : Cond.fieldLink "TransportFour$Inbox" 36 "TransportFour$Inbox" "taken" "[I" ∈ TB := mB (mT1 (List.mem_of_getElem? (i := 193) (by decide +kernel))) rfl
theorem mf_X1_39 : Cond.fieldLink "TransportFour$Inbox" 39 "TransportFour$Inbox" "expected" "I" ∈ TB := mB (mT1 (List.mem_of_getElem? (i := 194) (by decide +kernel))) rfl
theorem mf_X0_140 : Cond.fieldLink "TransportFour$End" 140 "TransportFour$Inbox" "expected" "I" ∈ TB := mB (mT1 (List.mem_of_getElem? (i := 195) (by decide +kernel))) rfl
theorem mf_X1_43 : Cond.fieldLink "TransportFour$Inbox" 43 "TransportFour$Inbox" "filled" "I" ∈ TB := mB (mT1 (List.mem_of_getElem? (i := 196) (by decide +kernel))) rfl
theorem mf_X1_46 : Cond.fieldLink "TransportFour$Inbox" 46 "TransportFour$Inbox" "messages" "I" ∈ TB := mB (mT1 (List.mem_of_getElem? (i := 197) (by decide +kernel))) rfl
theorem mf_X0_146 : Cond.fieldLink "TransportFour$End" 146 "TransportFour$Inbox" "messages" "I" ∈ TB := mB (mT1 (List.mem_of_getElem? (i := 198) (by decide +kernel))) rfl
theorem mf_X1_49 : Cond.fieldLink "TransportFour$Inbox" 49 "TransportFour$Inbox" "unitsThere" "I" ∈ TB := mB (mT1 (List.mem_of_getElem? (i := 199) (by decide +kernel))) rfl
theorem mf_X1_52 : Cond.fieldLink "TransportFour$Inbox" 52 "TransportFour$Inbox" "unfinishedLength" "I" ∈ TB := mB (mT1 (List.mem_of_getElem? (i := 200) (by decide +kernel))) rfl
theorem mf_X1_55 : Cond.fieldLink "TransportFour$Inbox" 55 "TransportFour$Inbox" "unfinishedUnits" "I" ∈ TB := mB (mT1 (List.mem_of_getElem? (i := 201) (by decide +kernel))) rfl
theorem mf_X1_96 : Cond.fieldLink "TransportFour$Inbox" 96 "TransportFour$Inbox" "takenLength" "I" ∈ TB := mB (mT1 (List.mem_of_getElem? (i := 202) (by decide +kernel))) rfl
theorem ma_boolean : Cond.arrayClass FieldType.boolean ∈ TB := mB (mT1 (List.mem_of_getElem? (i := 234) (by decide +kernel))) rfl
theorem mc_X0_25 : Cond.classLink "TransportFour$End" 25 "TransportFour$UrgentOut" ∈ TB := mB (mT1 (List.mem_of_getElem? (i := 235) (by decide +kernel))) rfl
theorem ms_X7 : Cond.instantiable "TransportFour$UrgentOut" 4 ∈ TB := mB (mT1 (List.mem_of_getElem? (i := 236) (by decide +kernel))) rfl
theorem mi_X7_init : Cond.instanceMethod yX7_init ∈ TB := mB (mT1 (List.mem_of_getElem? (i := 238) (by decide +kernel))) rfl
theorem mo_X7_init : Cond.code yX7_init cX7_init 1 none ∈ TB := mB (mT1 (List.mem_of_getElem? (i := 239) rfl)) rfl
theorem ml_X7_3 : Cond.methodLink "TransportFour$UrgentOut" 3 objectInit ∈ TB := mB (mT2 (List.mem_of_getElem? (i := 0) (by decide +kernel))) rfl
theorem mc_X7_15 : Cond.classLink "TransportFour$UrgentOut" 15 "TransportFour$Wait" ∈ TB := mB (mT2 (List.mem_of_getElem? (i := 1) (by decide +kernel))) rfl
theorem mf_X7_9 : Cond.fieldLink "TransportFour$UrgentOut" 9 "TransportFour$UrgentOut" "bytes" "[I" ∈ TB := mB (mT2 (List.mem_of_getElem? (i := 3) (by decide +kernel))) rfl
theorem mf_X0_293 : Cond.fieldLink "TransportFour$End" 293 "TransportFour$UrgentOut" "bytes" "[I" ∈ TB := mB (mT2 (List.mem_of_getElem? (i := 4) (by decide +kernel))) rfl
theorem mf_X7_18 : Cond.fieldLink "TransportFour$UrgentOut" 18 "TransportFour$UrgentOut" "wait" "LTransportFour$Wait;" ∈ TB := mB (mT2 (List.mem_of_getElem? (i := 5) (by decide +kernel))) rfl
theorem mf_X0_249 : Cond.fieldLink "TransportFour$End" 249 "TransportFour$UrgentOut" "wait" "LTransportFour$Wait;" ∈ TB := mB (mT2 (List.mem_of_getElem? (i := 6) (by decide +kernel))) rfl
theorem mf_X7_22 : Cond.fieldLink "TransportFour$UrgentOut" 22 "TransportFour$UrgentOut" "waiting" "I" ∈ TB := mB (mT2 (List.mem_of_getElem? (i := 7) (by decide +kernel))) rfl
theorem mf_X7_26 : Cond.fieldLink "TransportFour$UrgentOut" 26 "TransportFour$UrgentOut" "number" "I" ∈ TB := mB (mT2 (List.mem_of_getElem? (i := 8) (by decide +kernel))) rfl
theorem mf_X0_291 : Cond.fieldLink "TransportFour$End" 291 "TransportFour$UrgentOut" "number" "I" ∈ TB := mB (mT2 (List.mem_of_getElem? (i := 9) (by decide +kernel))) rfl
theorem mc_X0_32 : Cond.classLink "TransportFour$End" 32 "TransportFour$UrgentIn" ∈ TB := mB (mT2 (List.mem_of_getElem? (i := 19) (by decide +kernel))) rfl
theorem ms_X6 : Cond.instantiable "TransportFour$UrgentIn" 4 ∈ TB := mB (mT2 (List.mem_of_getElem? (i := 20) (by decide +kernel))) rfl
theorem mi_X6_init : Cond.instanceMethod yX6_init ∈ TB := mB (mT2 (List.mem_of_getElem? (i := 22) (by decide +kernel))) rfl
theorem mo_X6_init : Cond.code yX6_init cX6_init 1 none ∈ TB := mB (mT2 (List.mem_of_getElem? (i := 23) rfl)) rfl
theorem ml_X6_3 : Cond.methodLink "TransportFour$UrgentIn" 3 objectInit ∈ TB := mB (mT2 (List.mem_of_getElem? (i := 24) (by decide +kernel))) rfl
theorem mf_X6_9 : Cond.fieldLink "TransportFour$UrgentIn" 9 "TransportFour$UrgentIn" "ring" "[I" ∈ TB := mB (mT2 (List.mem_of_getElem? (i := 25) (by decide +kernel))) rfl
theorem mf_X6_22 : Cond.fieldLink "TransportFour$UrgentIn" 22 "TransportFour$UrgentIn" "first" "I" ∈ TB := mB (mT2 (List.mem_of_getElem? (i := 26) (by decide +kernel))) rfl
theorem mf_X6_15 : Cond.fieldLink "TransportFour$UrgentIn" 15 "TransportFour$UrgentIn" "there" "I" ∈ TB := mB (mT2 (List.mem_of_getElem? (i := 27) (by decide +kernel))) rfl
theorem mf_X0_149 : Cond.fieldLink "TransportFour$End" 149 "TransportFour$UrgentIn" "there" "I" ∈ TB := mB (mT2 (List.mem_of_getElem? (i := 28) (by decide +kernel))) rfl
theorem mf_X6_19 : Cond.fieldLink "TransportFour$UrgentIn" 19 "TransportFour$UrgentIn" "expected" "I" ∈ TB := mB (mT2 (List.mem_of_getElem? (i := 29) (by decide +kernel))) rfl
theorem mf_X0_205 : Cond.fieldLink "TransportFour$End" 205 "TransportFour$UrgentIn" "expected" "I" ∈ TB := mB (mT2 (List.mem_of_getElem? (i := 30) (by decide +kernel))) rfl
theorem mc_X0_39 : Cond.classLink "TransportFour$End" 39 "TransportFour$Wait" ∈ TB := mB (mT2 (List.mem_of_getElem? (i := 40) (by decide +kernel))) rfl
theorem mf_X0_50 : Cond.fieldLink "TransportFour$End" 50 "TransportFour$End" "index" "I" ∈ TB := mB (mT2 (List.mem_of_getElem? (i := 42) (by decide +kernel))) rfl
theorem mf_X0_53 : Cond.fieldLink "TransportFour$End" 53 "TransportFour$End" "net" "LTransportFour$Net;" ∈ TB := mB (mT2 (List.mem_of_getElem? (i := 43) (by decide +kernel))) rfl
theorem mf_X0_12 : Cond.fieldLink "TransportFour$End" 12 "TransportFour$End" "outbox" "LTransportFour$Outbox;" ∈ TB := mB (mT2 (List.mem_of_getElem? (i := 44) (by decide +kernel))) rfl
theorem mf_X0_21 : Cond.fieldLink "TransportFour$End" 21 "TransportFour$End" "inbox" "LTransportFour$Inbox;" ∈ TB := mB (mT2 (List.mem_of_getElem? (i := 45) (by decide +kernel))) rfl
theorem mf_X9_55 : Cond.fieldLink "TransportFour" 55 "TransportFour$End" "inbox" "LTransportFour$Inbox;" ∈ TB := mB (mT2 (List.mem_of_getElem? (i := 46) (by decide +kernel))) rfl
theorem mf_X0_28 : Cond.fieldLink "TransportFour$End" 28 "TransportFour$End" "urgentOut" "LTransportFour$UrgentOut;" ∈ TB := mB (mT2 (List.mem_of_getElem? (i := 47) (by decide +kernel))) rfl
theorem mf_X0_35 : Cond.fieldLink "TransportFour$End" 35 "TransportFour$End" "urgentIn" "LTransportFour$UrgentIn;" ∈ TB := mB (mT2 (List.mem_of_getElem? (i := 48) (by decide +kernel))) rfl
theorem mf_X9_64 : Cond.fieldLink "TransportFour" 64 "TransportFour$End" "urgentIn" "LTransportFour$UrgentIn;" ∈ TB := mB (mT2 (List.mem_of_getElem? (i := 49) (by decide +kernel))) rfl
theorem mf_X0_42 : Cond.fieldLink "TransportFour$End" 42 "TransportFour$End" "linkWait" "LTransportFour$Wait;" ∈ TB := mB (mT2 (List.mem_of_getElem? (i := 50) (by decide +kernel))) rfl
theorem mf_X0_257 : Cond.fieldLink "TransportFour$End" 257 "TransportFour$End" "linkCode" "I" ∈ TB := mB (mT2 (List.mem_of_getElem? (i := 51) (by decide +kernel))) rfl
theorem mf_X0_57 : Cond.fieldLink "TransportFour$End" 57 "TransportFour$End" "state" "I" ∈ TB := mB (mT2 (List.mem_of_getElem? (i := 52) (by decide +kernel))) rfl
theorem mf_X0_71 : Cond.fieldLink "TransportFour$End" 71 "TransportFour$End" "reference" "I" ∈ TB := mB (mT2 (List.mem_of_getElem? (i := 53) (by decide +kernel))) rfl
theorem mf_X0_81 : Cond.fieldLink "TransportFour$End" 81 "TransportFour$End" "peerReference" "I" ∈ TB := mB (mT2 (List.mem_of_getElem? (i := 54) (by decide +kernel))) rfl
theorem mf_X0_46 : Cond.fieldLink "TransportFour$End" 46 "TransportFour$End" "reason" "I" ∈ TB := mB (mT2 (List.mem_of_getElem? (i := 55) (by decide +kernel))) rfl
theorem mf_X0_84 : Cond.fieldLink "TransportFour$End" 84 "TransportFour$End" "answered" "Z" ∈ TB := mB (mT2 (List.mem_of_getElem? (i := 56) (by decide +kernel))) rfl
theorem mf_X0_93 : Cond.fieldLink "TransportFour$End" 93 "TransportFour$End" "heardAt" "I" ∈ TB := mB (mT2 (List.mem_of_getElem? (i := 57) (by decide +kernel))) rfl
theorem mf_X0_152 : Cond.fieldLink "TransportFour$End" 152 "TransportFour$End" "frozenAt" "I" ∈ TB := mB (mT2 (List.mem_of_getElem? (i := 58) (by decide +kernel))) rfl
theorem mf_X9_10 : Cond.fieldLink "TransportFour" 10 "TransportFour" "net" "LTransportFour$Net;" ∈ TB := mB (mT2 (List.mem_of_getElem? (i := 90) (by decide +kernel))) rfl
theorem mf_X9_21 : Cond.fieldLink "TransportFour" 21 "TransportFour" "ends" "[LTransportFour$End;" ∈ TB := mB (mT2 (List.mem_of_getElem? (i := 91) (by decide +kernel))) rfl
theorem mf_X9_25 : Cond.fieldLink "TransportFour" 25 "TransportFour" "tape" "[I" ∈ TB := mB (mT2 (List.mem_of_getElem? (i := 92) (by decide +kernel))) rfl
theorem mf_X9_37 : Cond.fieldLink "TransportFour" 37 "TransportFour" "tapeLength" "I" ∈ TB := mB (mT2 (List.mem_of_getElem? (i := 93) (by decide +kernel))) rfl
theorem ml_L_13 : Cond.methodLink "TransportFourLaw" 13 yX9_call ∈ TB := mB (mT2 (List.mem_of_getElem? (i := 103) (by decide +kernel))) rfl
theorem mi_X9_call : Cond.instanceMethod yX9_call ∈ TB := mB (mT2 (List.mem_of_getElem? (i := 104) (by decide +kernel))) rfl
theorem mx_X9_call : Cond.selects "TransportFour" yX9_call yX9_call ∈ TB := mB (mT2 (List.mem_of_getElem? (i := 105) (by decide +kernel))) rfl
theorem mo_X9_call : Cond.code yX9_call cX9_call 2 (some FieldType.int) ∈ TB := mB (mT2 (List.mem_of_getElem? (i := 106) rfl)) rfl
theorem ml_X9_29 : Cond.methodLink "TransportFour" 29 yX9_isNoEnd ∈ TB := mB (mT2 (List.mem_of_getElem? (i := 107) (by decide +kernel))) rfl
theorem mt_X9_isNoEnd : Cond.static yX9_isNoEnd ∈ TB := mB (mT2 (List.mem_of_getElem? (i := 108) (by decide +kernel))) rfl
theorem mo_X9_isNoEnd : Cond.code yX9_isNoEnd cX9_isNoEnd 1 (some FieldType.boolean) ∈ TB := mB (mT2 (List.mem_of_getElem? (i := 109) rfl)) rfl
theorem ml_X9_33 : Cond.methodLink "TransportFour" 33 yX0_callPeer ∈ TB := mB (mT2 (List.mem_of_getElem? (i := 110) (by decide +kernel))) rfl
theorem mi_X0_callPeer : Cond.instanceMethod yX0_callPeer ∈ TB := mB (mT2 (List.mem_of_getElem? (i := 111) (by decide +kernel))) rfl
theorem mx_X0_callPeer : Cond.selects "TransportFour$End" yX0_callPeer yX0_callPeer ∈ TB := mB (mT2 (List.mem_of_getElem? (i := 112) (by decide +kernel))) rfl
theorem mo_X0_callPeer : Cond.code yX0_callPeer cX0_callPeer 1 (some FieldType.int) ∈ TB := mB (mT2 (List.mem_of_getElem? (i := 113) rfl)) rfl
theorem ml_X0_60 : Cond.methodLink "TransportFour$End" 60 yX0_beginConnection ∈ TB := mB (mT2 (List.mem_of_getElem? (i := 114) (by decide +kernel))) rfl
theorem mi_X0_beginConnection : Cond.instanceMethod yX0_beginConnection ∈ TB := mB (mT2 (List.mem_of_getElem? (i := 115) (by decide +kernel))) rfl
theorem mx_X0_beginConnection : Cond.selects "TransportFour$End" yX0_beginConnection yX0_beginConnection ∈ TB := mB (mT2 (List.mem_of_getElem? (i := 116) (by decide +kernel))) rfl
theorem mo_X0_beginConnection : Cond.code yX0_beginConnection cX0_beginConnection 3 none ∈ TB := mB (mT2 (List.mem_of_getElem? (i := 117) rfl)) rfl
theorem ml_X0_74 : Cond.methodLink "TransportFour$End" 74 yX3_clear ∈ TB := mB (mT2 (List.mem_of_getElem? (i := 118) (by decide +kernel))) rfl
theorem mi_X3_clear : Cond.instanceMethod yX3_clear ∈ TB := mB (mT2 (List.mem_of_getElem? (i := 119) (by decide +kernel))) rfl
theorem mx_X3_clear : Cond.selects "TransportFour$Outbox" yX3_clear yX3_clear ∈ TB := mB (mT2 (List.mem_of_getElem? (i := 120) (by decide +kernel))) rfl
theorem mo_X3_clear : Cond.code yX3_clear cX3_clear 1 none ∈ TB := mB (mT2 (List.mem_of_getElem? (i := 121) rfl)) rfl
theorem ml_X0_77 : Cond.methodLink "TransportFour$End" 77 yX1_clear ∈ TB := mB (mT2 (List.mem_of_getElem? (i := 122) (by decide +kernel))) rfl
theorem mi_X1_clear : Cond.instanceMethod yX1_clear ∈ TB := mB (mT2 (List.mem_of_getElem? (i := 123) (by decide +kernel))) rfl
theorem mx_X1_clear : Cond.selects "TransportFour$Inbox" yX1_clear yX1_clear ∈ TB := mB (mT2 (List.mem_of_getElem? (i := 124) (by decide +kernel))) rfl
theorem mo_X1_clear : Cond.code yX1_clear cX1_clear 2 none ∈ TB := mB (mT2 (List.mem_of_getElem? (i := 125) rfl)) rfl
theorem ml_X0_78 : Cond.methodLink "TransportFour$End" 78 yX7_clear ∈ TB := mB (mT2 (List.mem_of_getElem? (i := 126) (by decide +kernel))) rfl
theorem mi_X7_clear : Cond.instanceMethod yX7_clear ∈ TB := mB (mT2 (List.mem_of_getElem? (i := 127) (by decide +kernel))) rfl
theorem mx_X7_clear : Cond.selects "TransportFour$UrgentOut" yX7_clear yX7_clear ∈ TB := mB (mT2 (List.mem_of_getElem? (i := 128) (by decide +kernel))) rfl
theorem mo_X7_clear : Cond.code yX7_clear cX7_clear 1 none ∈ TB := mB (mT2 (List.mem_of_getElem? (i := 129) rfl)) rfl
theorem ml_X7_29 : Cond.methodLink "TransportFour$UrgentOut" 29 yX8_clear ∈ TB := mB (mT2 (List.mem_of_getElem? (i := 130) (by decide +kernel))) rfl
theorem mi_X8_clear : Cond.instanceMethod yX8_clear ∈ TB := mB (mT2 (List.mem_of_getElem? (i := 131) (by decide +kernel))) rfl
theorem mx_X8_clear : Cond.selects "TransportFour$Wait" yX8_clear yX8_clear ∈ TB := mB (mT2 (List.mem_of_getElem? (i := 132) (by decide +kernel))) rfl
theorem mo_X8_clear : Cond.code yX8_clear cX8_clear 1 none ∈ TB := mB (mT2 (List.mem_of_getElem? (i := 133) rfl)) rfl
theorem ml_X0_79 : Cond.methodLink "TransportFour$End" 79 yX6_clear ∈ TB := mB (mT2 (List.mem_of_getElem? (i := 134) (by decide +kernel))) rfl
theorem mi_X6_clear : Cond.instanceMethod yX6_clear ∈ TB := mB (mT2 (List.mem_of_getElem? (i := 135) (by decide +kernel))) rfl
theorem mx_X6_clear : Cond.selects "TransportFour$UrgentIn" yX6_clear yX6_clear ∈ TB := mB (mT2 (List.mem_of_getElem? (i := 136) (by decide +kernel))) rfl
theorem mo_X6_clear : Cond.code yX6_clear cX6_clear 1 none ∈ TB := mB (mT2 (List.mem_of_getElem? (i := 137) rfl)) rfl
theorem mk_X0_80 : Cond.constant "TransportFour$End" 80 (65535 : Int32) ∈ TB := mB (mT2 (List.mem_of_getElem? (i := 138) (by decide +kernel))) rfl
theorem ml_X0_64 : Cond.methodLink "TransportFour$End" 64 yX0_awaitLink ∈ TB := mB (mT2 (List.mem_of_getElem? (i := 139) (by decide +kernel))) rfl
theorem mi_X0_awaitLink : Cond.instanceMethod yX0_awaitLink ∈ TB := mB (mT2 (List.mem_of_getElem? (i := 140) (by decide +kernel))) rfl
theorem mx_X0_awaitLink : Cond.selects "TransportFour$End" yX0_awaitLink yX0_awaitLink ∈ TB := mB (mT2 (List.mem_of_getElem? (i := 141) (by decide +kernel))) rfl
theorem mo_X0_awaitLink : Cond.code yX0_awaitLink cX0_awaitLink 2 none ∈ TB := mB (mT2 (List.mem_of_getElem? (i := 142) rfl)) rfl
theorem ml_X0_260 : Cond.methodLink "TransportFour$End" 260 yX8_clear ∈ TB := mB (mT2 (List.mem_of_getElem? (i := 143) (by decide +kernel))) rfl
theorem ml_X0_68 : Cond.methodLink "TransportFour$End" 68 yX0_sendAwaitedLink ∈ TB := mB (mT2 (List.mem_of_getElem? (i := 144) (by decide +kernel))) rfl
theorem mi_X0_sendAwaitedLink : Cond.instanceMethod yX0_sendAwaitedLink ∈ TB := mB (mT2 (List.mem_of_getElem? (i := 145) (by decide +kernel))) rfl
theorem mx_X0_sendAwaitedLink : Cond.selects "TransportFour$End" yX0_sendAwaitedLink yX0_sendAwaitedLink ∈ TB := mB (mT2 (List.mem_of_getElem? (i := 146) (by decide +kernel))) rfl
theorem mo_X0_sendAwaitedLink : Cond.code yX0_sendAwaitedLink cX0_sendAwaitedLink 1 none ∈ TB := mB (mT2 (List.mem_of_getElem? (i := 147) rfl)) rfl
theorem ml_X0_261 : Cond.methodLink "TransportFour$End" 261 yX8_count ∈ TB := mB (mT2 (List.mem_of_getElem? (i := 148) (by decide +kernel))) rfl
theorem mi_X8_count : Cond.instanceMethod yX8_count ∈ TB := mB (mT2 (List.mem_of_getElem? (i := 149) (by decide +kernel))) rfl
theorem mx_X8_count : Cond.selects "TransportFour$Wait" yX8_count yX8_count ∈ TB := mB (mT2 (List.mem_of_getElem? (i := 150) (by decide +kernel))) rfl
theorem mo_X8_count : Cond.code yX8_count cX8_count 2 none ∈ TB := mB (mT2 (List.mem_of_getElem? (i := 151) rfl)) rfl
theorem ml_X0_181 : Cond.methodLink "TransportFour$End" 181 yX0_sendLink ∈ TB := mB (mT2 (List.mem_of_getElem? (i := 152) (by decide +kernel))) rfl
theorem mi_X0_sendLink : Cond.instanceMethod yX0_sendLink ∈ TB := mB (mT2 (List.mem_of_getElem? (i := 153) (by decide +kernel))) rfl
theorem mx_X0_sendLink : Cond.selects "TransportFour$End" yX0_sendLink yX0_sendLink ∈ TB := mB (mT2 (List.mem_of_getElem? (i := 154) (by decide +kernel))) rfl
theorem mo_X0_sendLink : Cond.code yX0_sendLink cX0_sendLink 5 none ∈ TB := mB (mT2 (List.mem_of_getElem? (i := 155) rfl)) rfl
theorem ml_X0_264 : Cond.methodLink "TransportFour$End" 264 yX2_nextUnit ∈ TB := mB (mT2 (List.mem_of_getElem? (i := 156) (by decide +kernel))) rfl
theorem mi_X2_nextUnit : Cond.instanceMethod yX2_nextUnit ∈ TB := mB (mT2 (List.mem_of_getElem? (i := 157) (by decide +kernel))) rfl
theorem mx_X2_nextUnit : Cond.selects "TransportFour$Net" yX2_nextUnit yX2_nextUnit ∈ TB := mB (mT2 (List.mem_of_getElem? (i := 158) (by decide +kernel))) rfl
theorem mo_X2_nextUnit : Cond.code yX2_nextUnit cX2_nextUnit 1 (some (FieldType.object "TransportFour$Unit")) ∈ TB := mB (mT2 (List.mem_of_getElem? (i := 159) rfl)) rfl
theorem ml_X2_45 : Cond.methodLink "TransportFour$Net" 45 yX2_unitOf ∈ TB := mB (mT2 (List.mem_of_getElem? (i := 160) (by decide +kernel))) rfl
theorem mi_X2_unitOf : Cond.instanceMethod yX2_unitOf ∈ TB := mB (mT2 (List.mem_of_getElem? (i := 161) (by decide +kernel))) rfl
theorem mx_X2_unitOf : Cond.selects "TransportFour$Net" yX2_unitOf yX2_unitOf ∈ TB := mB (mT2 (List.mem_of_getElem? (i := 162) (by decide +kernel))) rfl
theorem mo_X2_unitOf : Cond.code yX2_unitOf cX2_unitOf 2 (some (FieldType.object "TransportFour$Unit")) ∈ TB := mB (mT2 (List.mem_of_getElem? (i := 163) rfl)) rfl
theorem ml_X0_268 : Cond.methodLink "TransportFour$End" 268 yX5_writeLink ∈ TB := mB (mT2 (List.mem_of_getElem? (i := 164) (by decide +kernel))) rfl
theorem mi_X5_writeLink : Cond.instanceMethod yX5_writeLink ∈ TB := mB (mT2 (List.mem_of_getElem? (i := 165) (by decide +kernel))) rfl
theorem mx_X5_writeLink : Cond.selects "TransportFour$Unit" yX5_writeLink yX5_writeLink ∈ TB := mB (mT2 (List.mem_of_getElem? (i := 166) (by decide +kernel))) rfl
theorem mo_X5_writeLink : Cond.code yX5_writeLink cX5_writeLink 5 none ∈ TB := mB (mT2 (List.mem_of_getElem? (i := 167) rfl)) rfl
theorem ml_X5_15 : Cond.methodLink "TransportFour$Unit" 15 yX5_writeHead ∈ TB := mB (mT2 (List.mem_of_getElem? (i := 168) (by decide +kernel))) rfl
theorem mi_X5_writeHead : Cond.instanceMethod yX5_writeHead ∈ TB := mB (mT2 (List.mem_of_getElem? (i := 169) (by decide +kernel))) rfl
theorem mx_X5_writeHead : Cond.selects "TransportFour$Unit" yX5_writeHead yX5_writeHead ∈ TB := mB (mT2 (List.mem_of_getElem? (i := 170) (by decide +kernel))) rfl
theorem mo_X5_writeHead : Cond.code yX5_writeHead cX5_writeHead 4 none ∈ TB := mB (mT2 (List.mem_of_getElem? (i := 171) rfl)) rfl
theorem ml_X0_271 : Cond.methodLink "TransportFour$End" 271 yX2_dispatch ∈ TB := mB (mT2 (List.mem_of_getElem? (i := 172) (by decide +kernel))) rfl
theorem mi_X2_dispatch : Cond.instanceMethod yX2_dispatch ∈ TB := mB (mT2 (List.mem_of_getElem? (i := 173) (by decide +kernel))) rfl
theorem mx_X2_dispatch : Cond.selects "TransportFour$Net" yX2_dispatch yX2_dispatch ∈ TB := mB (mT2 (List.mem_of_getElem? (i := 174) (by decide +kernel))) rfl
theorem mo_X2_dispatch : Cond.code yX2_dispatch cX2_dispatch 3 none ∈ TB := mB (mT2 (List.mem_of_getElem? (i := 175) rfl)) rfl
theorem ml_X2_49 : Cond.methodLink "TransportFour$Net" 49 yX5_plainSum ∈ TB := mB (mT2 (List.mem_of_getElem? (i := 176) (by decide +kernel))) rfl
theorem mi_X5_plainSum : Cond.instanceMethod yX5_plainSum ∈ TB := mB (mT2 (List.mem_of_getElem? (i := 177) (by decide +kernel))) rfl
theorem mx_X5_plainSum : Cond.selects "TransportFour$Unit" yX5_plainSum yX5_plainSum ∈ TB := mB (mT2 (List.mem_of_getElem? (i := 178) (by decide +kernel))) rfl
theorem mo_X5_plainSum : Cond.code yX5_plainSum cX5_plainSum 3 (some FieldType.int) ∈ TB := mB (mT2 (List.mem_of_getElem? (i := 179) rfl)) rfl
theorem ml_X2_53 : Cond.methodLink "TransportFour$Net" 53 yX5_weightedSum ∈ TB := mB (mT2 (List.mem_of_getElem? (i := 180) (by decide +kernel))) rfl
theorem mi_X5_weightedSum : Cond.instanceMethod yX5_weightedSum ∈ TB := mB (mT2 (List.mem_of_getElem? (i := 181) (by decide +kernel))) rfl
theorem mx_X5_weightedSum : Cond.selects "TransportFour$Unit" yX5_weightedSum yX5_weightedSum ∈ TB := mB (mT2 (List.mem_of_getElem? (i := 182) (by decide +kernel))) rfl
theorem mo_X5_weightedSum : Cond.code yX5_weightedSum cX5_weightedSum 3 (some FieldType.int) ∈ TB := mB (mT2 (List.mem_of_getElem? (i := 183) rfl)) rfl
theorem ml_X2_56 : Cond.methodLink "TransportFour$Net" 56 yX5_fillChecks ∈ TB := mB (mT2 (List.mem_of_getElem? (i := 184) (by decide +kernel))) rfl
theorem mi_X5_fillChecks : Cond.instanceMethod yX5_fillChecks ∈ TB := mB (mT2 (List.mem_of_getElem? (i := 185) (by decide +kernel))) rfl
theorem mx_X5_fillChecks : Cond.selects "TransportFour$Unit" yX5_fillChecks yX5_fillChecks ∈ TB := mB (mT2 (List.mem_of_getElem? (i := 186) (by decide +kernel))) rfl
theorem mo_X5_fillChecks : Cond.code yX5_fillChecks cX5_fillChecks 7 none ∈ TB := mB (mT2 (List.mem_of_getElem? (i := 187) rfl)) rfl
theorem ml_X2_75 : Cond.methodLink "TransportFour$Net" 75 yX2_applyFaults ∈ TB := mB (mT2 (List.mem_of_getElem? (i := 188) (by decide +kernel))) rfl
theorem mi_X2_applyFaults : Cond.instanceMethod yX2_applyFaults ∈ TB := mB (mT2 (List.mem_of_getElem? (i := 189) (by decide +kernel))) rfl
theorem mx_X2_applyFaults : Cond.selects "TransportFour$Net" yX2_applyFaults yX2_applyFaults ∈ TB := mB (mT2 (List.mem_of_getElem? (i := 190) (by decide +kernel))) rfl
theorem mo_X2_applyFaults : Cond.code yX2_applyFaults cX2_applyFaults 5 none ∈ TB := mB (mT2 (List.mem_of_getElem? (i := 191) rfl)) rfl
theorem ml_L_20 : Cond.methodLink "TransportFourLaw" 20 yX9_type ∈ TB := mB (mT2 (List.mem_of_getElem? (i := 192) (by decide +kernel))) rfl
theorem mi_X9_type : Cond.instanceMethod yX9_type ∈ TB := mB (mT2 (List.mem_of_getElem? (i := 193) (by decide +kernel))) rfl
theorem mx_X9_type : Cond.selects "TransportFour" yX9_type yX9_type ∈ TB := mB (mT2 (List.mem_of_getElem? (i := 194) (by decide +kernel))) rfl
theorem mo_X9_type : Cond.code yX9_type cX9_type 5 (some FieldType.int) ∈ TB := mB (mT2 (List.mem_of_getElem? (i := 195) rfl)) rfl
theorem ml_L_25 : Cond.methodLink "TransportFourLaw" 25 yX9_send ∈ TB := mB (mT2 (List.mem_of_getElem? (i := 196) (by decide +kernel))) rfl
theorem mi_X9_send : Cond.instanceMethod yX9_send ∈ TB := mB (mT2 (List.mem_of_getElem? (i := 197) (by decide +kernel))) rfl
theorem mx_X9_send : Cond.selects "TransportFour" yX9_send yX9_send ∈ TB := mB (mT2 (List.mem_of_getElem? (i := 198) (by decide +kernel))) rfl
theorem mo_X9_send : Cond.code yX9_send cX9_send 3 (some FieldType.int) ∈ TB := mB (mT2 (List.mem_of_getElem? (i := 199) rfl)) rfl
theorem ml_X9_41 : Cond.methodLink "TransportFour" 41 yX0_sendMessage ∈ TB := mB (mT2 (List.mem_of_getElem? (i := 200) (by decide +kernel))) rfl
theorem mi_X0_sendMessage : Cond.instanceMethod yX0_sendMessage ∈ TB := mB (mT2 (List.mem_of_getElem? (i := 201) (by decide +kernel))) rfl
theorem mx_X0_sendMessage : Cond.selects "TransportFour$End" yX0_sendMessage yX0_sendMessage ∈ TB := mB (mT2 (List.mem_of_getElem? (i := 202) (by decide +kernel))) rfl
theorem mo_X0_sendMessage : Cond.code yX0_sendMessage cX0_sendMessage 3 (some FieldType.int) ∈ TB := mB (mT2 (List.mem_of_getElem? (i := 203) rfl)) rfl
theorem ml_X0_96 : Cond.methodLink "TransportFour$End" 96 yX3_hasRoomFor ∈ TB := mB (mT2 (List.mem_of_getElem? (i := 204) (by decide +kernel))) rfl
theorem mi_X3_hasRoomFor : Cond.instanceMethod yX3_hasRoomFor ∈ TB := mB (mT2 (List.mem_of_getElem? (i := 205) (by decide +kernel))) rfl
theorem mx_X3_hasRoomFor : Cond.selects "TransportFour$Outbox" yX3_hasRoomFor yX3_hasRoomFor ∈ TB := mB (mT2 (List.mem_of_getElem? (i := 206) (by decide +kernel))) rfl
theorem mo_X3_hasRoomFor : Cond.code yX3_hasRoomFor cX3_hasRoomFor 2 (some FieldType.boolean) ∈ TB := mB (mT2 (List.mem_of_getElem? (i := 207) rfl)) rfl
theorem ml_X3_34 : Cond.methodLink "TransportFour$Outbox" 34 yX3_piecesOf ∈ TB := mB (mT2 (List.mem_of_getElem? (i := 208) (by decide +kernel))) rfl
theorem mt_X3_piecesOf : Cond.static yX3_piecesOf ∈ TB := mB (mT2 (List.mem_of_getElem? (i := 209) (by decide +kernel))) rfl
theorem mo_X3_piecesOf : Cond.code yX3_piecesOf cX3_piecesOf 1 (some FieldType.int) ∈ TB := mB (mT2 (List.mem_of_getElem? (i := 210) rfl)) rfl
theorem ml_X0_100 : Cond.methodLink "TransportFour$End" 100 yX3_addMessage ∈ TB := mB (mT2 (List.mem_of_getElem? (i := 211) (by decide +kernel))) rfl
theorem mi_X3_addMessage : Cond.instanceMethod yX3_addMessage ∈ TB := mB (mT2 (List.mem_of_getElem? (i := 212) (by decide +kernel))) rfl
theorem mx_X3_addMessage : Cond.selects "TransportFour$Outbox" yX3_addMessage yX3_addMessage ∈ TB := mB (mT2 (List.mem_of_getElem? (i := 213) (by decide +kernel))) rfl
theorem mo_X3_addMessage : Cond.code yX3_addMessage cX3_addMessage 7 none ∈ TB := mB (mT2 (List.mem_of_getElem? (i := 214) rfl)) rfl
theorem ml_X3_38 : Cond.methodLink "TransportFour$Outbox" 38 yX3_pieceAt ∈ TB := mB (mT2 (List.mem_of_getElem? (i := 215) (by decide +kernel))) rfl
theorem mi_X3_pieceAt : Cond.instanceMethod yX3_pieceAt ∈ TB := mB (mT2 (List.mem_of_getElem? (i := 216) (by decide +kernel))) rfl
theorem mx_X3_pieceAt : Cond.selects "TransportFour$Outbox" yX3_pieceAt yX3_pieceAt ∈ TB := mB (mT2 (List.mem_of_getElem? (i := 217) (by decide +kernel))) rfl
theorem mo_X3_pieceAt : Cond.code yX3_pieceAt cX3_pieceAt 2 (some (FieldType.object "TransportFour$Piece")) ∈ TB := mB (mT2 (List.mem_of_getElem? (i := 218) rfl)) rfl
theorem ml_X3_42 : Cond.methodLink "TransportFour$Outbox" 42 yJ9_min_7cf53 ∈ TB := mB (mT2 (List.mem_of_getElem? (i := 219) (by decide +kernel))) rfl
theorem mt_J9_min_7cf53 : Cond.static yJ9_min_7cf53 ∈ TB := mB (mT2 (List.mem_of_getElem? (i := 220) (by decide +kernel))) rfl
theorem mo_J9_min_7cf53 : Cond.code yJ9_min_7cf53 cJ9_min_7cf53 2 (some FieldType.int) ∈ TB := mB (mT2 (List.mem_of_getElem? (i := 221) rfl)) rfl
theorem ml_X3_59 : Cond.methodLink "TransportFour$Outbox" 59 yX8_clear ∈ TB := mB (mT2 (List.mem_of_getElem? (i := 222) (by decide +kernel))) rfl
theorem ml_X3_68 : Cond.methodLink "TransportFour$Outbox" 68 ⟨"java/lang/System", "arraycopy", "(Ljava/lang/Object;ILjava/lang/Object;II)V"⟩ ∈ TB := mB (mT2 (List.mem_of_getElem? (i := 223) (by decide +kernel))) rfl
theorem ml_X0_104 : Cond.methodLink "TransportFour$End" 104 yX0_sendNewData ∈ TB := mB (mT2 (List.mem_of_getElem? (i := 226) (by decide +kernel))) rfl
theorem mi_X0_sendNewData : Cond.instanceMethod yX0_sendNewData ∈ TB := mB (mT2 (List.mem_of_getElem? (i := 227) (by decide +kernel))) rfl
