theorem mx_X0_sendNewData : Cond.selects "TransportFour$End" yX0_sendNewData yX0_sendNewData ∈ TB := mB (mT2 (List.mem_of_getElem? (i := 228) (by decide +kernel))) rfl
theorem mo_X0_sendNewData : Cond.code yX0_sendNewData cX0_sendNewData 2 none ∈ TB := mB (mT2 (List.mem_of_getElem? (i := 229) rfl)) rfl
theorem ml_X0_278 : Cond.methodLink "TransportFour$End" 278 yX3_maySendNext ∈ TB := mB (mT2 (List.mem_of_getElem? (i := 230) (by decide +kernel))) rfl
theorem mi_X3_maySendNext : Cond.instanceMethod yX3_maySendNext ∈ TB := mB (mT2 (List.mem_of_getElem? (i := 231) (by decide +kernel))) rfl
theorem mx_X3_maySendNext : Cond.selects "TransportFour$Outbox" yX3_maySendNext yX3_maySendNext ∈ TB := mB (mT2 (List.mem_of_getElem? (i := 232) (by decide +kernel))) rfl
theorem mo_X3_maySendNext : Cond.code yX3_maySendNext cX3_maySendNext 1 (some FieldType.boolean) ∈ TB := mB (mT2 (List.mem_of_getElem? (i := 233) rfl)) rfl
theorem ml_X0_246 : Cond.methodLink "TransportFour$End" 246 yX0_sendPiece ∈ TB := mB (mT2 (List.mem_of_getElem? (i := 234) (by decide +kernel))) rfl
theorem mi_X0_sendPiece : Cond.instanceMethod yX0_sendPiece ∈ TB := mB (mT2 (List.mem_of_getElem? (i := 235) (by decide +kernel))) rfl
theorem mx_X0_sendPiece : Cond.selects "TransportFour$End" yX0_sendPiece yX0_sendPiece ∈ TB := mB (mT2 (List.mem_of_getElem? (i := 236) (by decide +kernel))) rfl
theorem mo_X0_sendPiece : Cond.code yX0_sendPiece cX0_sendPiece 6 none ∈ TB := mB (mT2 (List.mem_of_getElem? (i := 237) rfl)) rfl
theorem ml_X0_237 : Cond.methodLink "TransportFour$End" 237 yX3_pieceAt ∈ TB := mB (mT2 (List.mem_of_getElem? (i := 238) (by decide +kernel))) rfl
theorem ml_X0_137 : Cond.methodLink "TransportFour$End" 137 yX3_numberAt ∈ TB := mB (mT2 (List.mem_of_getElem? (i := 239) (by decide +kernel))) rfl
theorem mi_X3_numberAt : Cond.instanceMethod yX3_numberAt ∈ TB := mB (mT3 (List.mem_of_getElem? (i := 0) (by decide +kernel))) rfl
theorem mx_X3_numberAt : Cond.selects "TransportFour$Outbox" yX3_numberAt yX3_numberAt ∈ TB := mB (mT3 (List.mem_of_getElem? (i := 1) (by decide +kernel))) rfl
theorem mo_X3_numberAt : Cond.code yX3_numberAt cX3_numberAt 2 (some FieldType.int) ∈ TB := mB (mT3 (List.mem_of_getElem? (i := 2) rfl)) rfl
theorem ml_X0_274 : Cond.methodLink "TransportFour$End" 274 yX5_writeNumbered ∈ TB := mB (mT3 (List.mem_of_getElem? (i := 3) (by decide +kernel))) rfl
theorem mi_X5_writeNumbered : Cond.instanceMethod yX5_writeNumbered ∈ TB := mB (mT3 (List.mem_of_getElem? (i := 4) (by decide +kernel))) rfl
theorem mx_X5_writeNumbered : Cond.selects "TransportFour$Unit" yX5_writeNumbered yX5_writeNumbered ∈ TB := mB (mT3 (List.mem_of_getElem? (i := 5) (by decide +kernel))) rfl
theorem mo_X5_writeNumbered : Cond.code yX5_writeNumbered cX5_writeNumbered 4 none ∈ TB := mB (mT3 (List.mem_of_getElem? (i := 6) rfl)) rfl
theorem ml_X0_288 : Cond.methodLink "TransportFour$End" 288 yX5_add ∈ TB := mB (mT3 (List.mem_of_getElem? (i := 7) (by decide +kernel))) rfl
theorem mi_X5_add : Cond.instanceMethod yX5_add ∈ TB := mB (mT3 (List.mem_of_getElem? (i := 8) (by decide +kernel))) rfl
theorem mx_X5_add : Cond.selects "TransportFour$Unit" yX5_add yX5_add ∈ TB := mB (mT3 (List.mem_of_getElem? (i := 9) (by decide +kernel))) rfl
theorem mo_X5_add : Cond.code yX5_add cX5_add 2 none ∈ TB := mB (mT3 (List.mem_of_getElem? (i := 10) rfl)) rfl
theorem ml_L_29 : Cond.methodLink "TransportFourLaw" 29 yX9_urge ∈ TB := mB (mT3 (List.mem_of_getElem? (i := 11) (by decide +kernel))) rfl
theorem mi_X9_urge : Cond.instanceMethod yX9_urge ∈ TB := mB (mT3 (List.mem_of_getElem? (i := 12) (by decide +kernel))) rfl
theorem mx_X9_urge : Cond.selects "TransportFour" yX9_urge yX9_urge ∈ TB := mB (mT3 (List.mem_of_getElem? (i := 13) (by decide +kernel))) rfl
theorem mo_X9_urge : Cond.code yX9_urge cX9_urge 3 (some FieldType.int) ∈ TB := mB (mT3 (List.mem_of_getElem? (i := 14) rfl)) rfl
theorem ml_X9_45 : Cond.methodLink "TransportFour" 45 yX0_sendUrgentByte ∈ TB := mB (mT3 (List.mem_of_getElem? (i := 15) (by decide +kernel))) rfl
theorem mi_X0_sendUrgentByte : Cond.instanceMethod yX0_sendUrgentByte ∈ TB := mB (mT3 (List.mem_of_getElem? (i := 16) (by decide +kernel))) rfl
theorem mx_X0_sendUrgentByte : Cond.selects "TransportFour$End" yX0_sendUrgentByte yX0_sendUrgentByte ∈ TB := mB (mT3 (List.mem_of_getElem? (i := 17) (by decide +kernel))) rfl
theorem mo_X0_sendUrgentByte : Cond.code yX0_sendUrgentByte cX0_sendUrgentByte 3 (some FieldType.int) ∈ TB := mB (mT3 (List.mem_of_getElem? (i := 18) rfl)) rfl
theorem ml_X0_110 : Cond.methodLink "TransportFour$End" 110 yX7_add ∈ TB := mB (mT3 (List.mem_of_getElem? (i := 19) (by decide +kernel))) rfl
theorem mi_X7_add : Cond.instanceMethod yX7_add ∈ TB := mB (mT3 (List.mem_of_getElem? (i := 20) (by decide +kernel))) rfl
theorem mx_X7_add : Cond.selects "TransportFour$UrgentOut" yX7_add yX7_add ∈ TB := mB (mT3 (List.mem_of_getElem? (i := 21) (by decide +kernel))) rfl
theorem mo_X7_add : Cond.code yX7_add cX7_add 2 (some FieldType.int) ∈ TB := mB (mT3 (List.mem_of_getElem? (i := 22) rfl)) rfl
theorem ml_X0_114 : Cond.methodLink "TransportFour$End" 114 yX0_sendNewUrgent ∈ TB := mB (mT3 (List.mem_of_getElem? (i := 23) (by decide +kernel))) rfl
theorem mi_X0_sendNewUrgent : Cond.instanceMethod yX0_sendNewUrgent ∈ TB := mB (mT3 (List.mem_of_getElem? (i := 24) (by decide +kernel))) rfl
theorem mx_X0_sendNewUrgent : Cond.selects "TransportFour$End" yX0_sendNewUrgent yX0_sendNewUrgent ∈ TB := mB (mT3 (List.mem_of_getElem? (i := 25) (by decide +kernel))) rfl
theorem mo_X0_sendNewUrgent : Cond.code yX0_sendNewUrgent cX0_sendNewUrgent 1 none ∈ TB := mB (mT3 (List.mem_of_getElem? (i := 26) rfl)) rfl
theorem ml_X0_290 : Cond.methodLink "TransportFour$End" 290 yX7_maySendNext ∈ TB := mB (mT3 (List.mem_of_getElem? (i := 27) (by decide +kernel))) rfl
theorem mi_X7_maySendNext : Cond.instanceMethod yX7_maySendNext ∈ TB := mB (mT3 (List.mem_of_getElem? (i := 28) (by decide +kernel))) rfl
theorem mx_X7_maySendNext : Cond.selects "TransportFour$UrgentOut" yX7_maySendNext yX7_maySendNext ∈ TB := mB (mT3 (List.mem_of_getElem? (i := 29) (by decide +kernel))) rfl
theorem mo_X7_maySendNext : Cond.code yX7_maySendNext cX7_maySendNext 1 (some FieldType.boolean) ∈ TB := mB (mT3 (List.mem_of_getElem? (i := 30) rfl)) rfl
theorem ml_X0_250 : Cond.methodLink "TransportFour$End" 250 yX0_sendFirstUrgent ∈ TB := mB (mT3 (List.mem_of_getElem? (i := 31) (by decide +kernel))) rfl
theorem mi_X0_sendFirstUrgent : Cond.instanceMethod yX0_sendFirstUrgent ∈ TB := mB (mT3 (List.mem_of_getElem? (i := 32) (by decide +kernel))) rfl
theorem mx_X0_sendFirstUrgent : Cond.selects "TransportFour$End" yX0_sendFirstUrgent yX0_sendFirstUrgent ∈ TB := mB (mT3 (List.mem_of_getElem? (i := 33) (by decide +kernel))) rfl
theorem mo_X0_sendFirstUrgent : Cond.code yX0_sendFirstUrgent cX0_sendFirstUrgent 2 none ∈ TB := mB (mT3 (List.mem_of_getElem? (i := 34) rfl)) rfl
theorem ml_L_34 : Cond.methodLink "TransportFourLaw" 34 yX9_end ∈ TB := mB (mT3 (List.mem_of_getElem? (i := 35) (by decide +kernel))) rfl
theorem mi_X9_end : Cond.instanceMethod yX9_end ∈ TB := mB (mT3 (List.mem_of_getElem? (i := 36) (by decide +kernel))) rfl
theorem mx_X9_end : Cond.selects "TransportFour" yX9_end yX9_end ∈ TB := mB (mT3 (List.mem_of_getElem? (i := 37) (by decide +kernel))) rfl
theorem mo_X9_end : Cond.code yX9_end cX9_end 2 (some FieldType.int) ∈ TB := mB (mT3 (List.mem_of_getElem? (i := 38) rfl)) rfl
theorem ml_X9_49 : Cond.methodLink "TransportFour" 49 yX0_endConnection ∈ TB := mB (mT3 (List.mem_of_getElem? (i := 39) (by decide +kernel))) rfl
theorem mi_X0_endConnection : Cond.instanceMethod yX0_endConnection ∈ TB := mB (mT3 (List.mem_of_getElem? (i := 40) (by decide +kernel))) rfl
theorem mx_X0_endConnection : Cond.selects "TransportFour$End" yX0_endConnection yX0_endConnection ∈ TB := mB (mT3 (List.mem_of_getElem? (i := 41) (by decide +kernel))) rfl
theorem mo_X0_endConnection : Cond.code yX0_endConnection cX0_endConnection 1 (some FieldType.int) ∈ TB := mB (mT3 (List.mem_of_getElem? (i := 42) rfl)) rfl
theorem ml_X0_117 : Cond.methodLink "TransportFour$End" 117 yX3_dropUnsent ∈ TB := mB (mT3 (List.mem_of_getElem? (i := 43) (by decide +kernel))) rfl
theorem mi_X3_dropUnsent : Cond.instanceMethod yX3_dropUnsent ∈ TB := mB (mT3 (List.mem_of_getElem? (i := 44) (by decide +kernel))) rfl
theorem mx_X3_dropUnsent : Cond.selects "TransportFour$Outbox" yX3_dropUnsent yX3_dropUnsent ∈ TB := mB (mT3 (List.mem_of_getElem? (i := 45) (by decide +kernel))) rfl
theorem mo_X3_dropUnsent : Cond.code yX3_dropUnsent cX3_dropUnsent 1 none ∈ TB := mB (mT3 (List.mem_of_getElem? (i := 46) rfl)) rfl
theorem ml_X0_120 : Cond.methodLink "TransportFour$End" 120 yX7_dropUnsent ∈ TB := mB (mT3 (List.mem_of_getElem? (i := 47) (by decide +kernel))) rfl
theorem mi_X7_dropUnsent : Cond.instanceMethod yX7_dropUnsent ∈ TB := mB (mT3 (List.mem_of_getElem? (i := 48) (by decide +kernel))) rfl
theorem mx_X7_dropUnsent : Cond.selects "TransportFour$UrgentOut" yX7_dropUnsent yX7_dropUnsent ∈ TB := mB (mT3 (List.mem_of_getElem? (i := 49) (by decide +kernel))) rfl
theorem mo_X7_dropUnsent : Cond.code yX7_dropUnsent cX7_dropUnsent 1 none ∈ TB := mB (mT3 (List.mem_of_getElem? (i := 50) rfl)) rfl
theorem ml_X0_121 : Cond.methodLink "TransportFour$End" 121 yX0_noteReason ∈ TB := mB (mT3 (List.mem_of_getElem? (i := 51) (by decide +kernel))) rfl
theorem mi_X0_noteReason : Cond.instanceMethod yX0_noteReason ∈ TB := mB (mT3 (List.mem_of_getElem? (i := 52) (by decide +kernel))) rfl
theorem mx_X0_noteReason : Cond.selects "TransportFour$End" yX0_noteReason yX0_noteReason ∈ TB := mB (mT3 (List.mem_of_getElem? (i := 53) (by decide +kernel))) rfl
theorem mo_X0_noteReason : Cond.code yX0_noteReason cX0_noteReason 2 none ∈ TB := mB (mT3 (List.mem_of_getElem? (i := 54) rfl)) rfl
theorem ml_L_38 : Cond.methodLink "TransportFourLaw" 38 yX9_take ∈ TB := mB (mT3 (List.mem_of_getElem? (i := 55) (by decide +kernel))) rfl
theorem mi_X9_take : Cond.instanceMethod yX9_take ∈ TB := mB (mT3 (List.mem_of_getElem? (i := 56) (by decide +kernel))) rfl
theorem mx_X9_take : Cond.selects "TransportFour" yX9_take yX9_take ∈ TB := mB (mT3 (List.mem_of_getElem? (i := 57) (by decide +kernel))) rfl
theorem mo_X9_take : Cond.code yX9_take cX9_take 2 (some FieldType.int) ∈ TB := mB (mT3 (List.mem_of_getElem? (i := 58) rfl)) rfl
theorem ml_X9_52 : Cond.methodLink "TransportFour" 52 yX0_takeMessage ∈ TB := mB (mT3 (List.mem_of_getElem? (i := 59) (by decide +kernel))) rfl
theorem mi_X0_takeMessage : Cond.instanceMethod yX0_takeMessage ∈ TB := mB (mT3 (List.mem_of_getElem? (i := 60) (by decide +kernel))) rfl
theorem mx_X0_takeMessage : Cond.selects "TransportFour$End" yX0_takeMessage yX0_takeMessage ∈ TB := mB (mT3 (List.mem_of_getElem? (i := 61) (by decide +kernel))) rfl
theorem mo_X0_takeMessage : Cond.code yX0_takeMessage cX0_takeMessage 3 (some FieldType.int) ∈ TB := mB (mT3 (List.mem_of_getElem? (i := 62) rfl)) rfl
theorem ml_X0_124 : Cond.methodLink "TransportFour$End" 124 yX1_credit ∈ TB := mB (mT3 (List.mem_of_getElem? (i := 63) (by decide +kernel))) rfl
theorem mi_X1_credit : Cond.instanceMethod yX1_credit ∈ TB := mB (mT3 (List.mem_of_getElem? (i := 64) (by decide +kernel))) rfl
theorem mx_X1_credit : Cond.selects "TransportFour$Inbox" yX1_credit yX1_credit ∈ TB := mB (mT3 (List.mem_of_getElem? (i := 65) (by decide +kernel))) rfl
theorem mo_X1_credit : Cond.code yX1_credit cX1_credit 1 (some FieldType.int) ∈ TB := mB (mT3 (List.mem_of_getElem? (i := 66) rfl)) rfl
theorem ml_X1_58 : Cond.methodLink "TransportFour$Inbox" 58 yJ9_max_7cf53 ∈ TB := mB (mT3 (List.mem_of_getElem? (i := 67) (by decide +kernel))) rfl
theorem mt_J9_max_7cf53 : Cond.static yJ9_max_7cf53 ∈ TB := mB (mT3 (List.mem_of_getElem? (i := 68) (by decide +kernel))) rfl
theorem mo_J9_max_7cf53 : Cond.code yJ9_max_7cf53 cJ9_max_7cf53 2 (some FieldType.int) ∈ TB := mB (mT3 (List.mem_of_getElem? (i := 69) rfl)) rfl
theorem ml_X0_128 : Cond.methodLink "TransportFour$End" 128 yX1_takeNext ∈ TB := mB (mT3 (List.mem_of_getElem? (i := 70) (by decide +kernel))) rfl
theorem mi_X1_takeNext : Cond.instanceMethod yX1_takeNext ∈ TB := mB (mT3 (List.mem_of_getElem? (i := 71) (by decide +kernel))) rfl
theorem mx_X1_takeNext : Cond.selects "TransportFour$Inbox" yX1_takeNext yX1_takeNext ∈ TB := mB (mT3 (List.mem_of_getElem? (i := 72) (by decide +kernel))) rfl
theorem mo_X1_takeNext : Cond.code yX1_takeNext cX1_takeNext 1 (some FieldType.int) ∈ TB := mB (mT3 (List.mem_of_getElem? (i := 73) rfl)) rfl
theorem ml_X1_84 : Cond.methodLink "TransportFour$Inbox" 84 ⟨"java/lang/System", "arraycopy", "(Ljava/lang/Object;ILjava/lang/Object;II)V"⟩ ∈ TB := mB (mT3 (List.mem_of_getElem? (i := 74) (by decide +kernel))) rfl
theorem ml_X0_131 : Cond.methodLink "TransportFour$End" 131 yX0_sendReceipt ∈ TB := mB (mT3 (List.mem_of_getElem? (i := 75) (by decide +kernel))) rfl
theorem mi_X0_sendReceipt : Cond.instanceMethod yX0_sendReceipt ∈ TB := mB (mT3 (List.mem_of_getElem? (i := 76) (by decide +kernel))) rfl
theorem mx_X0_sendReceipt : Cond.selects "TransportFour$End" yX0_sendReceipt yX0_sendReceipt ∈ TB := mB (mT3 (List.mem_of_getElem? (i := 77) (by decide +kernel))) rfl
theorem mo_X0_sendReceipt : Cond.code yX0_sendReceipt cX0_sendReceipt 1 none ∈ TB := mB (mT3 (List.mem_of_getElem? (i := 78) rfl)) rfl
theorem ml_X0_206 : Cond.methodLink "TransportFour$End" 206 yX0_sendNumbered ∈ TB := mB (mT3 (List.mem_of_getElem? (i := 79) (by decide +kernel))) rfl
theorem mi_X0_sendNumbered : Cond.instanceMethod yX0_sendNumbered ∈ TB := mB (mT3 (List.mem_of_getElem? (i := 80) (by decide +kernel))) rfl
theorem mx_X0_sendNumbered : Cond.selects "TransportFour$End" yX0_sendNumbered yX0_sendNumbered ∈ TB := mB (mT3 (List.mem_of_getElem? (i := 81) (by decide +kernel))) rfl
theorem mo_X0_sendNumbered : Cond.code yX0_sendNumbered cX0_sendNumbered 3 none ∈ TB := mB (mT3 (List.mem_of_getElem? (i := 82) rfl)) rfl
theorem ml_L_42 : Cond.methodLink "TransportFourLaw" 42 yX9_read ∈ TB := mB (mT3 (List.mem_of_getElem? (i := 83) (by decide +kernel))) rfl
theorem mi_X9_read : Cond.instanceMethod yX9_read ∈ TB := mB (mT3 (List.mem_of_getElem? (i := 84) (by decide +kernel))) rfl
theorem mx_X9_read : Cond.selects "TransportFour" yX9_read yX9_read ∈ TB := mB (mT3 (List.mem_of_getElem? (i := 85) (by decide +kernel))) rfl
theorem mo_X9_read : Cond.code yX9_read cX9_read 3 (some FieldType.int) ∈ TB := mB (mT3 (List.mem_of_getElem? (i := 86) rfl)) rfl
theorem ml_X9_59 : Cond.methodLink "TransportFour" 59 yX1_takenByte ∈ TB := mB (mT3 (List.mem_of_getElem? (i := 87) (by decide +kernel))) rfl
theorem mi_X1_takenByte : Cond.instanceMethod yX1_takenByte ∈ TB := mB (mT3 (List.mem_of_getElem? (i := 88) (by decide +kernel))) rfl
theorem mx_X1_takenByte : Cond.selects "TransportFour$Inbox" yX1_takenByte yX1_takenByte ∈ TB := mB (mT3 (List.mem_of_getElem? (i := 89) (by decide +kernel))) rfl
theorem mo_X1_takenByte : Cond.code yX1_takenByte cX1_takenByte 2 (some FieldType.int) ∈ TB := mB (mT3 (List.mem_of_getElem? (i := 90) rfl)) rfl
theorem ml_L_46 : Cond.methodLink "TransportFourLaw" 46 yX9_urgent ∈ TB := mB (mT3 (List.mem_of_getElem? (i := 91) (by decide +kernel))) rfl
theorem mi_X9_urgent : Cond.instanceMethod yX9_urgent ∈ TB := mB (mT3 (List.mem_of_getElem? (i := 92) (by decide +kernel))) rfl
theorem mx_X9_urgent : Cond.selects "TransportFour" yX9_urgent yX9_urgent ∈ TB := mB (mT3 (List.mem_of_getElem? (i := 93) (by decide +kernel))) rfl
theorem mo_X9_urgent : Cond.code yX9_urgent cX9_urgent 2 (some FieldType.int) ∈ TB := mB (mT3 (List.mem_of_getElem? (i := 94) rfl)) rfl
theorem ml_X9_68 : Cond.methodLink "TransportFour" 68 yX6_takeByte ∈ TB := mB (mT3 (List.mem_of_getElem? (i := 95) (by decide +kernel))) rfl
theorem mi_X6_takeByte : Cond.instanceMethod yX6_takeByte ∈ TB := mB (mT3 (List.mem_of_getElem? (i := 96) (by decide +kernel))) rfl
theorem mx_X6_takeByte : Cond.selects "TransportFour$UrgentIn" yX6_takeByte yX6_takeByte ∈ TB := mB (mT3 (List.mem_of_getElem? (i := 97) (by decide +kernel))) rfl
theorem mo_X6_takeByte : Cond.code yX6_takeByte cX6_takeByte 2 (some FieldType.int) ∈ TB := mB (mT3 (List.mem_of_getElem? (i := 98) rfl)) rfl
theorem ml_L_50 : Cond.methodLink "TransportFourLaw" 50 yX9_fault ∈ TB := mB (mT3 (List.mem_of_getElem? (i := 99) (by decide +kernel))) rfl
theorem mi_X9_fault : Cond.instanceMethod yX9_fault ∈ TB := mB (mT3 (List.mem_of_getElem? (i := 100) (by decide +kernel))) rfl
theorem mx_X9_fault : Cond.selects "TransportFour" yX9_fault yX9_fault ∈ TB := mB (mT3 (List.mem_of_getElem? (i := 101) (by decide +kernel))) rfl
theorem mo_X9_fault : Cond.code yX9_fault cX9_fault 5 (some FieldType.int) ∈ TB := mB (mT3 (List.mem_of_getElem? (i := 102) rfl)) rfl
theorem ml_X9_76 : Cond.methodLink "TransportFour" 76 yX2_addFault ∈ TB := mB (mT3 (List.mem_of_getElem? (i := 103) (by decide +kernel))) rfl
theorem mi_X2_addFault : Cond.instanceMethod yX2_addFault ∈ TB := mB (mT3 (List.mem_of_getElem? (i := 104) (by decide +kernel))) rfl
theorem mx_X2_addFault : Cond.selects "TransportFour$Net" yX2_addFault yX2_addFault ∈ TB := mB (mT3 (List.mem_of_getElem? (i := 105) (by decide +kernel))) rfl
theorem mo_X2_addFault : Cond.code yX2_addFault cX2_addFault 5 (some FieldType.int) ∈ TB := mB (mT3 (List.mem_of_getElem? (i := 106) rfl)) rfl
theorem ml_L_55 : Cond.methodLink "TransportFourLaw" 55 yX9_tick ∈ TB := mB (mT3 (List.mem_of_getElem? (i := 107) (by decide +kernel))) rfl
theorem mi_X9_tick : Cond.instanceMethod yX9_tick ∈ TB := mB (mT3 (List.mem_of_getElem? (i := 108) (by decide +kernel))) rfl
theorem mx_X9_tick : Cond.selects "TransportFour" yX9_tick yX9_tick ∈ TB := mB (mT3 (List.mem_of_getElem? (i := 109) (by decide +kernel))) rfl
theorem mo_X9_tick : Cond.code yX9_tick cX9_tick 3 (some FieldType.int) ∈ TB := mB (mT3 (List.mem_of_getElem? (i := 110) rfl)) rfl
theorem ml_X9_83 : Cond.methodLink "TransportFour" 83 yX9_deliver ∈ TB := mB (mT3 (List.mem_of_getElem? (i := 111) (by decide +kernel))) rfl
theorem mi_X9_deliver : Cond.instanceMethod yX9_deliver ∈ TB := mB (mT3 (List.mem_of_getElem? (i := 113) (by decide +kernel))) rfl
theorem mo_X9_deliver : Cond.code yX9_deliver cX9_deliver 5 none ∈ TB := mB (mT3 (List.mem_of_getElem? (i := 114) rfl)) rfl
theorem ml_X9_103 : Cond.methodLink "TransportFour" 103 yX2_arrivesNow ∈ TB := mB (mT3 (List.mem_of_getElem? (i := 115) (by decide +kernel))) rfl
theorem mi_X2_arrivesNow : Cond.instanceMethod yX2_arrivesNow ∈ TB := mB (mT3 (List.mem_of_getElem? (i := 116) (by decide +kernel))) rfl
theorem mx_X2_arrivesNow : Cond.selects "TransportFour$Net" yX2_arrivesNow yX2_arrivesNow ∈ TB := mB (mT3 (List.mem_of_getElem? (i := 117) (by decide +kernel))) rfl
theorem mo_X2_arrivesNow : Cond.code yX2_arrivesNow cX2_arrivesNow 4 (some FieldType.boolean) ∈ TB := mB (mT3 (List.mem_of_getElem? (i := 118) rfl)) rfl
theorem ml_X9_107 : Cond.methodLink "TransportFour" 107 yX2_unitAsItArrives ∈ TB := mB (mT3 (List.mem_of_getElem? (i := 119) (by decide +kernel))) rfl
theorem mi_X2_unitAsItArrives : Cond.instanceMethod yX2_unitAsItArrives ∈ TB := mB (mT3 (List.mem_of_getElem? (i := 120) (by decide +kernel))) rfl
theorem mx_X2_unitAsItArrives : Cond.selects "TransportFour$Net" yX2_unitAsItArrives yX2_unitAsItArrives ∈ TB := mB (mT3 (List.mem_of_getElem? (i := 121) (by decide +kernel))) rfl
theorem mo_X2_unitAsItArrives : Cond.code yX2_unitAsItArrives cX2_unitAsItArrives 3 (some (FieldType.object "TransportFour$Unit")) ∈ TB := mB (mT3 (List.mem_of_getElem? (i := 122) rfl)) rfl
theorem ml_X2_88 : Cond.methodLink "TransportFour$Net" 88 ⟨"java/lang/System", "arraycopy", "(Ljava/lang/Object;ILjava/lang/Object;II)V"⟩ ∈ TB := mB (mT3 (List.mem_of_getElem? (i := 123) (by decide +kernel))) rfl
theorem ml_X9_111 : Cond.methodLink "TransportFour" 111 yX5_isGood ∈ TB := mB (mT3 (List.mem_of_getElem? (i := 124) (by decide +kernel))) rfl
theorem mi_X5_isGood : Cond.instanceMethod yX5_isGood ∈ TB := mB (mT3 (List.mem_of_getElem? (i := 125) (by decide +kernel))) rfl
theorem mx_X5_isGood : Cond.selects "TransportFour$Unit" yX5_isGood yX5_isGood ∈ TB := mB (mT3 (List.mem_of_getElem? (i := 126) (by decide +kernel))) rfl
theorem mo_X5_isGood : Cond.code yX5_isGood cX5_isGood 2 (some FieldType.boolean) ∈ TB := mB (mT3 (List.mem_of_getElem? (i := 127) rfl)) rfl
theorem ml_X5_27 : Cond.methodLink "TransportFour$Unit" 27 yX5_headLengthOfKind ∈ TB := mB (mT3 (List.mem_of_getElem? (i := 128) (by decide +kernel))) rfl
theorem mi_X5_headLengthOfKind : Cond.instanceMethod yX5_headLengthOfKind ∈ TB := mB (mT3 (List.mem_of_getElem? (i := 129) (by decide +kernel))) rfl
theorem mx_X5_headLengthOfKind : Cond.selects "TransportFour$Unit" yX5_headLengthOfKind yX5_headLengthOfKind ∈ TB := mB (mT3 (List.mem_of_getElem? (i := 130) (by decide +kernel))) rfl
theorem mo_X5_headLengthOfKind : Cond.code yX5_headLengthOfKind cX5_headLengthOfKind 1 (some FieldType.int) ∈ TB := mB (mT3 (List.mem_of_getElem? (i := 131) rfl)) rfl
theorem ml_X5_23 : Cond.methodLink "TransportFour$Unit" 23 yX5_kind ∈ TB := mB (mT3 (List.mem_of_getElem? (i := 132) (by decide +kernel))) rfl
theorem mi_X5_kind : Cond.instanceMethod yX5_kind ∈ TB := mB (mT3 (List.mem_of_getElem? (i := 133) (by decide +kernel))) rfl
theorem mx_X5_kind : Cond.selects "TransportFour$Unit" yX5_kind yX5_kind ∈ TB := mB (mT3 (List.mem_of_getElem? (i := 134) (by decide +kernel))) rfl
theorem mo_X5_kind : Cond.code yX5_kind cX5_kind 3 (some FieldType.int) ∈ TB := mB (mT3 (List.mem_of_getElem? (i := 135) rfl)) rfl
theorem ml_X5_30 : Cond.methodLink "TransportFour$Unit" 30 yX5_plainSum ∈ TB := mB (mT3 (List.mem_of_getElem? (i := 136) (by decide +kernel))) rfl
theorem ml_X5_33 : Cond.methodLink "TransportFour$Unit" 33 yX5_weightedSum ∈ TB := mB (mT3 (List.mem_of_getElem? (i := 137) (by decide +kernel))) rfl
theorem ml_X5_36 : Cond.methodLink "TransportFour$Unit" 36 yX5_hasBodyOfKind ∈ TB := mB (mT3 (List.mem_of_getElem? (i := 138) (by decide +kernel))) rfl
theorem mi_X5_hasBodyOfKind : Cond.instanceMethod yX5_hasBodyOfKind ∈ TB := mB (mT3 (List.mem_of_getElem? (i := 139) (by decide +kernel))) rfl
theorem mx_X5_hasBodyOfKind : Cond.selects "TransportFour$Unit" yX5_hasBodyOfKind yX5_hasBodyOfKind ∈ TB := mB (mT3 (List.mem_of_getElem? (i := 140) (by decide +kernel))) rfl
theorem mo_X5_hasBodyOfKind : Cond.code yX5_hasBodyOfKind cX5_hasBodyOfKind 2 (some FieldType.boolean) ∈ TB := mB (mT3 (List.mem_of_getElem? (i := 141) rfl)) rfl
theorem ml_X9_120 : Cond.methodLink "TransportFour" 120 yX0_hear ∈ TB := mB (mT3 (List.mem_of_getElem? (i := 142) (by decide +kernel))) rfl
theorem mi_X0_hear : Cond.instanceMethod yX0_hear ∈ TB := mB (mT3 (List.mem_of_getElem? (i := 143) (by decide +kernel))) rfl
theorem mx_X0_hear : Cond.selects "TransportFour$End" yX0_hear yX0_hear ∈ TB := mB (mT3 (List.mem_of_getElem? (i := 144) (by decide +kernel))) rfl
theorem mo_X0_hear : Cond.code yX0_hear cX0_hear 3 none ∈ TB := mB (mT3 (List.mem_of_getElem? (i := 145) rfl)) rfl
theorem ml_X0_155 : Cond.methodLink "TransportFour$End" 155 yX5_kind ∈ TB := mB (mT3 (List.mem_of_getElem? (i := 146) (by decide +kernel))) rfl
theorem ml_X0_160 : Cond.methodLink "TransportFour$End" 160 yX0_hearCall ∈ TB := mB (mT3 (List.mem_of_getElem? (i := 147) (by decide +kernel))) rfl
theorem mi_X0_hearCall : Cond.instanceMethod yX0_hearCall ∈ TB := mB (mT3 (List.mem_of_getElem? (i := 148) (by decide +kernel))) rfl
theorem mx_X0_hearCall : Cond.selects "TransportFour$End" yX0_hearCall yX0_hearCall ∈ TB := mB (mT3 (List.mem_of_getElem? (i := 149) (by decide +kernel))) rfl
theorem mo_X0_hearCall : Cond.code yX0_hearCall cX0_hearCall 3 none ∈ TB := mB (mT3 (List.mem_of_getElem? (i := 150) rfl)) rfl
theorem ml_X0_178 : Cond.methodLink "TransportFour$End" 178 yX5_from ∈ TB := mB (mT3 (List.mem_of_getElem? (i := 151) (by decide +kernel))) rfl
theorem mi_X5_from : Cond.instanceMethod yX5_from ∈ TB := mB (mT3 (List.mem_of_getElem? (i := 152) (by decide +kernel))) rfl
theorem mx_X5_from : Cond.selects "TransportFour$Unit" yX5_from yX5_from ∈ TB := mB (mT3 (List.mem_of_getElem? (i := 153) (by decide +kernel))) rfl
theorem mo_X5_from : Cond.code yX5_from cX5_from 1 (some FieldType.int) ∈ TB := mB (mT3 (List.mem_of_getElem? (i := 154) rfl)) rfl
theorem ml_X5_40 : Cond.methodLink "TransportFour$Unit" 40 yX5_pairAt ∈ TB := mB (mT3 (List.mem_of_getElem? (i := 155) (by decide +kernel))) rfl
theorem mi_X5_pairAt : Cond.instanceMethod yX5_pairAt ∈ TB := mB (mT3 (List.mem_of_getElem? (i := 156) (by decide +kernel))) rfl
theorem mx_X5_pairAt : Cond.selects "TransportFour$Unit" yX5_pairAt yX5_pairAt ∈ TB := mB (mT3 (List.mem_of_getElem? (i := 157) (by decide +kernel))) rfl
theorem mo_X5_pairAt : Cond.code yX5_pairAt cX5_pairAt 2 (some FieldType.int) ∈ TB := mB (mT3 (List.mem_of_getElem? (i := 158) rfl)) rfl
theorem ml_X0_185 : Cond.methodLink "TransportFour$End" 185 yX5_credit ∈ TB := mB (mT3 (List.mem_of_getElem? (i := 159) (by decide +kernel))) rfl
theorem mi_X5_credit : Cond.instanceMethod yX5_credit ∈ TB := mB (mT3 (List.mem_of_getElem? (i := 160) (by decide +kernel))) rfl
theorem mx_X5_credit : Cond.selects "TransportFour$Unit" yX5_credit yX5_credit ∈ TB := mB (mT3 (List.mem_of_getElem? (i := 161) (by decide +kernel))) rfl
theorem mo_X5_credit : Cond.code yX5_credit cX5_credit 1 (some FieldType.int) ∈ TB := mB (mT3 (List.mem_of_getElem? (i := 162) rfl)) rfl
theorem ml_X0_164 : Cond.methodLink "TransportFour$End" 164 yX0_hasConnection ∈ TB := mB (mT3 (List.mem_of_getElem? (i := 163) (by decide +kernel))) rfl
theorem mi_X0_hasConnection : Cond.instanceMethod yX0_hasConnection ∈ TB := mB (mT3 (List.mem_of_getElem? (i := 164) (by decide +kernel))) rfl
theorem mx_X0_hasConnection : Cond.selects "TransportFour$End" yX0_hasConnection yX0_hasConnection ∈ TB := mB (mT3 (List.mem_of_getElem? (i := 165) (by decide +kernel))) rfl
theorem mo_X0_hasConnection : Cond.code yX0_hasConnection cX0_hasConnection 1 (some FieldType.boolean) ∈ TB := mB (mT3 (List.mem_of_getElem? (i := 166) rfl)) rfl
theorem ml_X0_168 : Cond.methodLink "TransportFour$End" 168 yX5_to ∈ TB := mB (mT3 (List.mem_of_getElem? (i := 167) (by decide +kernel))) rfl
theorem mi_X5_to : Cond.instanceMethod yX5_to ∈ TB := mB (mT3 (List.mem_of_getElem? (i := 168) (by decide +kernel))) rfl
theorem mx_X5_to : Cond.selects "TransportFour$Unit" yX5_to yX5_to ∈ TB := mB (mT3 (List.mem_of_getElem? (i := 169) (by decide +kernel))) rfl
theorem mo_X5_to : Cond.code yX5_to cX5_to 1 (some FieldType.int) ∈ TB := mB (mT3 (List.mem_of_getElem? (i := 170) rfl)) rfl
theorem ml_X0_171 : Cond.methodLink "TransportFour$End" 171 yX0_endWaitOf ∈ TB := mB (mT3 (List.mem_of_getElem? (i := 171) (by decide +kernel))) rfl
theorem mi_X0_endWaitOf : Cond.instanceMethod yX0_endWaitOf ∈ TB := mB (mT3 (List.mem_of_getElem? (i := 172) (by decide +kernel))) rfl
theorem mx_X0_endWaitOf : Cond.selects "TransportFour$End" yX0_endWaitOf yX0_endWaitOf ∈ TB := mB (mT3 (List.mem_of_getElem? (i := 173) (by decide +kernel))) rfl
theorem mo_X0_endWaitOf : Cond.code yX0_endWaitOf cX0_endWaitOf 2 none ∈ TB := mB (mT3 (List.mem_of_getElem? (i := 174) rfl)) rfl
theorem ml_X0_174 : Cond.methodLink "TransportFour$End" 174 yX0_hearForConnection ∈ TB := mB (mT3 (List.mem_of_getElem? (i := 175) (by decide +kernel))) rfl
theorem mi_X0_hearForConnection : Cond.instanceMethod yX0_hearForConnection ∈ TB := mB (mT3 (List.mem_of_getElem? (i := 176) (by decide +kernel))) rfl
theorem mx_X0_hearForConnection : Cond.selects "TransportFour$End" yX0_hearForConnection yX0_hearForConnection ∈ TB := mB (mT3 (List.mem_of_getElem? (i := 177) (by decide +kernel))) rfl
theorem mo_X0_hearForConnection : Cond.code yX0_hearForConnection cX0_hearForConnection 3 none ∈ TB := mB (mT3 (List.mem_of_getElem? (i := 178) rfl)) rfl
theorem ml_X0_186 : Cond.methodLink "TransportFour$End" 186 yX0_acceptsAnswer ∈ TB := mB (mT3 (List.mem_of_getElem? (i := 179) (by decide +kernel))) rfl
theorem mi_X0_acceptsAnswer : Cond.instanceMethod yX0_acceptsAnswer ∈ TB := mB (mT3 (List.mem_of_getElem? (i := 180) (by decide +kernel))) rfl
theorem mx_X0_acceptsAnswer : Cond.selects "TransportFour$End" yX0_acceptsAnswer yX0_acceptsAnswer ∈ TB := mB (mT3 (List.mem_of_getElem? (i := 181) (by decide +kernel))) rfl
theorem mo_X0_acceptsAnswer : Cond.code yX0_acceptsAnswer cX0_acceptsAnswer 2 (some FieldType.boolean) ∈ TB := mB (mT3 (List.mem_of_getElem? (i := 182) rfl)) rfl
theorem ml_X0_190 : Cond.methodLink "TransportFour$End" 190 yX1_accept ∈ TB := mB (mT3 (List.mem_of_getElem? (i := 183) (by decide +kernel))) rfl
theorem mi_X1_accept : Cond.instanceMethod yX1_accept ∈ TB := mB (mT3 (List.mem_of_getElem? (i := 184) (by decide +kernel))) rfl
theorem mx_X1_accept : Cond.selects "TransportFour$Inbox" yX1_accept yX1_accept ∈ TB := mB (mT3 (List.mem_of_getElem? (i := 185) (by decide +kernel))) rfl
theorem mo_X1_accept : Cond.code yX1_accept cX1_accept 7 none ∈ TB := mB (mT3 (List.mem_of_getElem? (i := 186) rfl)) rfl
theorem ml_X1_64 : Cond.methodLink "TransportFour$Inbox" 64 yX5_number ∈ TB := mB (mT3 (List.mem_of_getElem? (i := 187) (by decide +kernel))) rfl
theorem mi_X5_number : Cond.instanceMethod yX5_number ∈ TB := mB (mT3 (List.mem_of_getElem? (i := 188) (by decide +kernel))) rfl
theorem mx_X5_number : Cond.selects "TransportFour$Unit" yX5_number yX5_number ∈ TB := mB (mT3 (List.mem_of_getElem? (i := 189) (by decide +kernel))) rfl
theorem mo_X5_number : Cond.code yX5_number cX5_number 1 (some FieldType.int) ∈ TB := mB (mT3 (List.mem_of_getElem? (i := 190) rfl)) rfl
theorem ml_X1_70 : Cond.methodLink "TransportFour$Inbox" 70 yX1_credit ∈ TB := mB (mT3 (List.mem_of_getElem? (i := 191) (by decide +kernel))) rfl
theorem ml_X1_73 : Cond.methodLink "TransportFour$Inbox" 73 yX5_headLengthOfKind ∈ TB := mB (mT3 (List.mem_of_getElem? (i := 192) (by decide +kernel))) rfl
theorem ml_X1_76 : Cond.methodLink "TransportFour$Inbox" 76 yX5_isLast ∈ TB := mB (mT3 (List.mem_of_getElem? (i := 193) (by decide +kernel))) rfl
theorem mi_X5_isLast : Cond.instanceMethod yX5_isLast ∈ TB := mB (mT3 (List.mem_of_getElem? (i := 194) (by decide +kernel))) rfl
theorem mx_X5_isLast : Cond.selects "TransportFour$Unit" yX5_isLast yX5_isLast ∈ TB := mB (mT3 (List.mem_of_getElem? (i := 195) (by decide +kernel))) rfl
theorem mo_X5_isLast : Cond.code yX5_isLast cX5_isLast 1 (some FieldType.boolean) ∈ TB := mB (mT3 (List.mem_of_getElem? (i := 196) rfl)) rfl
theorem ml_X1_90 : Cond.methodLink "TransportFour$Inbox" 90 yX1_appendExpected ∈ TB := mB (mT3 (List.mem_of_getElem? (i := 197) (by decide +kernel))) rfl
theorem mi_X1_appendExpected : Cond.instanceMethod yX1_appendExpected ∈ TB := mB (mT3 (List.mem_of_getElem? (i := 198) (by decide +kernel))) rfl
theorem mx_X1_appendExpected : Cond.selects "TransportFour$Inbox" yX1_appendExpected yX1_appendExpected ∈ TB := mB (mT3 (List.mem_of_getElem? (i := 199) (by decide +kernel))) rfl
theorem mo_X1_appendExpected : Cond.code yX1_appendExpected cX1_appendExpected 3 none ∈ TB := mB (mT3 (List.mem_of_getElem? (i := 200) rfl)) rfl
theorem ml_X1_93 : Cond.methodLink "TransportFour$Inbox" 93 yX1_finishMessage ∈ TB := mB (mT3 (List.mem_of_getElem? (i := 201) (by decide +kernel))) rfl
theorem mi_X1_finishMessage : Cond.instanceMethod yX1_finishMessage ∈ TB := mB (mT3 (List.mem_of_getElem? (i := 202) (by decide +kernel))) rfl
theorem mx_X1_finishMessage : Cond.selects "TransportFour$Inbox" yX1_finishMessage yX1_finishMessage ∈ TB := mB (mT3 (List.mem_of_getElem? (i := 203) (by decide +kernel))) rfl
theorem mo_X1_finishMessage : Cond.code yX1_finishMessage cX1_finishMessage 1 none ∈ TB := mB (mT3 (List.mem_of_getElem? (i := 204) rfl)) rfl
theorem ml_X0_193 : Cond.methodLink "TransportFour$End" 193 yX5_number ∈ TB := mB (mT3 (List.mem_of_getElem? (i := 205) (by decide +kernel))) rfl
theorem ml_X0_200 : Cond.methodLink "TransportFour$End" 200 yX5_headLengthOfKind ∈ TB := mB (mT3 (List.mem_of_getElem? (i := 206) (by decide +kernel))) rfl
theorem ml_X0_203 : Cond.methodLink "TransportFour$End" 203 yX6_accept ∈ TB := mB (mT3 (List.mem_of_getElem? (i := 207) (by decide +kernel))) rfl
theorem mi_X6_accept : Cond.instanceMethod yX6_accept ∈ TB := mB (mT3 (List.mem_of_getElem? (i := 208) (by decide +kernel))) rfl
theorem mx_X6_accept : Cond.selects "TransportFour$UrgentIn" yX6_accept yX6_accept ∈ TB := mB (mT3 (List.mem_of_getElem? (i := 209) (by decide +kernel))) rfl
theorem mo_X6_accept : Cond.code yX6_accept cX6_accept 3 none ∈ TB := mB (mT3 (List.mem_of_getElem? (i := 210) rfl)) rfl
theorem ml_X0_209 : Cond.methodLink "TransportFour$End" 209 yX3_readReceipt ∈ TB := mB (mT3 (List.mem_of_getElem? (i := 211) (by decide +kernel))) rfl
theorem mi_X3_readReceipt : Cond.instanceMethod yX3_readReceipt ∈ TB := mB (mT3 (List.mem_of_getElem? (i := 212) (by decide +kernel))) rfl
theorem mx_X3_readReceipt : Cond.selects "TransportFour$Outbox" yX3_readReceipt yX3_readReceipt ∈ TB := mB (mT3 (List.mem_of_getElem? (i := 213) (by decide +kernel))) rfl
theorem mo_X3_readReceipt : Cond.code yX3_readReceipt cX3_readReceipt 4 none ∈ TB := mB (mT3 (List.mem_of_getElem? (i := 214) rfl)) rfl
theorem ml_X0_212 : Cond.methodLink "TransportFour$End" 212 yX7_readReceipt ∈ TB := mB (mT3 (List.mem_of_getElem? (i := 215) (by decide +kernel))) rfl
theorem mi_X7_readReceipt : Cond.instanceMethod yX7_readReceipt ∈ TB := mB (mT3 (List.mem_of_getElem? (i := 216) (by decide +kernel))) rfl
theorem mx_X7_readReceipt : Cond.selects "TransportFour$UrgentOut" yX7_readReceipt yX7_readReceipt ∈ TB := mB (mT3 (List.mem_of_getElem? (i := 217) (by decide +kernel))) rfl
theorem mo_X7_readReceipt : Cond.code yX7_readReceipt cX7_readReceipt 3 none ∈ TB := mB (mT3 (List.mem_of_getElem? (i := 218) rfl)) rfl
theorem ml_X7_35 : Cond.methodLink "TransportFour$UrgentOut" 35 ⟨"java/lang/System", "arraycopy", "(Ljava/lang/Object;ILjava/lang/Object;II)V"⟩ ∈ TB := mB (mT3 (List.mem_of_getElem? (i := 219) (by decide +kernel))) rfl
theorem ml_X0_214 : Cond.methodLink "TransportFour$End" 214 yX0_hearEnd ∈ TB := mB (mT3 (List.mem_of_getElem? (i := 220) (by decide +kernel))) rfl
theorem mi_X0_hearEnd : Cond.instanceMethod yX0_hearEnd ∈ TB := mB (mT3 (List.mem_of_getElem? (i := 221) (by decide +kernel))) rfl
theorem mx_X0_hearEnd : Cond.selects "TransportFour$End" yX0_hearEnd yX0_hearEnd ∈ TB := mB (mT3 (List.mem_of_getElem? (i := 222) (by decide +kernel))) rfl
theorem mo_X0_hearEnd : Cond.code yX0_hearEnd cX0_hearEnd 2 none ∈ TB := mB (mT3 (List.mem_of_getElem? (i := 223) rfl)) rfl
theorem ml_X0_220 : Cond.methodLink "TransportFour$End" 220 yX5_reason ∈ TB := mB (mT3 (List.mem_of_getElem? (i := 224) (by decide +kernel))) rfl
theorem mi_X5_reason : Cond.instanceMethod yX5_reason ∈ TB := mB (mT3 (List.mem_of_getElem? (i := 225) (by decide +kernel))) rfl
theorem mx_X5_reason : Cond.selects "TransportFour$Unit" yX5_reason yX5_reason ∈ TB := mB (mT3 (List.mem_of_getElem? (i := 226) (by decide +kernel))) rfl
theorem mo_X5_reason : Cond.code yX5_reason cX5_reason 1 (some FieldType.int) ∈ TB := mB (mT3 (List.mem_of_getElem? (i := 227) rfl)) rfl
theorem ml_X0_217 : Cond.methodLink "TransportFour$End" 217 yX0_freeze ∈ TB := mB (mT3 (List.mem_of_getElem? (i := 228) (by decide +kernel))) rfl
theorem mi_X0_freeze : Cond.instanceMethod yX0_freeze ∈ TB := mB (mT3 (List.mem_of_getElem? (i := 229) (by decide +kernel))) rfl
theorem mx_X0_freeze : Cond.selects "TransportFour$End" yX0_freeze yX0_freeze ∈ TB := mB (mT3 (List.mem_of_getElem? (i := 230) (by decide +kernel))) rfl
theorem mo_X0_freeze : Cond.code yX0_freeze cX0_freeze 1 none ∈ TB := mB (mT3 (List.mem_of_getElem? (i := 231) rfl)) rfl
theorem ml_X9_87 : Cond.methodLink "TransportFour" 87 yX2_forgetArrived ∈ TB := mB (mT3 (List.mem_of_getElem? (i := 232) (by decide +kernel))) rfl
theorem mi_X2_forgetArrived : Cond.instanceMethod yX2_forgetArrived ∈ TB := mB (mT3 (List.mem_of_getElem? (i := 233) (by decide +kernel))) rfl
theorem mx_X2_forgetArrived : Cond.selects "TransportFour$Net" yX2_forgetArrived yX2_forgetArrived ∈ TB := mB (mT3 (List.mem_of_getElem? (i := 234) (by decide +kernel))) rfl
theorem mo_X2_forgetArrived : Cond.code yX2_forgetArrived cX2_forgetArrived 1 none ∈ TB := mB (mT3 (List.mem_of_getElem? (i := 235) rfl)) rfl
theorem ml_X9_90 : Cond.methodLink "TransportFour" 90 yX0_passTick ∈ TB := mB (mT3 (List.mem_of_getElem? (i := 236) (by decide +kernel))) rfl
theorem mi_X0_passTick : Cond.instanceMethod yX0_passTick ∈ TB := mB (mT3 (List.mem_of_getElem? (i := 237) (by decide +kernel))) rfl
theorem mx_X0_passTick : Cond.selects "TransportFour$End" yX0_passTick yX0_passTick ∈ TB := mB (mT3 (List.mem_of_getElem? (i := 238) (by decide +kernel))) rfl
theorem mo_X0_passTick : Cond.code yX0_passTick cX0_passTick 1 none ∈ TB := mB (mT3 (List.mem_of_getElem? (i := 239) rfl)) rfl
theorem ml_X0_222 : Cond.methodLink "TransportFour$End" 222 yX0_sendDueAgain ∈ TB := mB (mT4 (List.mem_of_getElem? (i := 0) (by decide +kernel))) rfl
theorem mi_X0_sendDueAgain : Cond.instanceMethod yX0_sendDueAgain ∈ TB := mB (mT4 (List.mem_of_getElem? (i := 1) (by decide +kernel))) rfl
theorem mx_X0_sendDueAgain : Cond.selects "TransportFour$End" yX0_sendDueAgain yX0_sendDueAgain ∈ TB := mB (mT4 (List.mem_of_getElem? (i := 2) (by decide +kernel))) rfl
theorem mo_X0_sendDueAgain : Cond.code yX0_sendDueAgain cX0_sendDueAgain 2 none ∈ TB := mB (mT4 (List.mem_of_getElem? (i := 3) rfl)) rfl
theorem ml_X0_234 : Cond.methodLink "TransportFour$End" 234 yX8_isDueAgain ∈ TB := mB (mT4 (List.mem_of_getElem? (i := 4) (by decide +kernel))) rfl
theorem mi_X8_isDueAgain : Cond.instanceMethod yX8_isDueAgain ∈ TB := mB (mT4 (List.mem_of_getElem? (i := 5) (by decide +kernel))) rfl
theorem mx_X8_isDueAgain : Cond.selects "TransportFour$Wait" yX8_isDueAgain yX8_isDueAgain ∈ TB := mB (mT4 (List.mem_of_getElem? (i := 6) (by decide +kernel))) rfl
theorem mo_X8_isDueAgain : Cond.code yX8_isDueAgain cX8_isDueAgain 2 (some FieldType.boolean) ∈ TB := mB (mT4 (List.mem_of_getElem? (i := 7) rfl)) rfl
theorem ml_X8_18 : Cond.methodLink "TransportFour$Wait" 18 yX8_isOver ∈ TB := mB (mT4 (List.mem_of_getElem? (i := 8) (by decide +kernel))) rfl
theorem mi_X8_isOver : Cond.instanceMethod yX8_isOver ∈ TB := mB (mT4 (List.mem_of_getElem? (i := 9) (by decide +kernel))) rfl
theorem mx_X8_isOver : Cond.selects "TransportFour$Wait" yX8_isOver yX8_isOver ∈ TB := mB (mT4 (List.mem_of_getElem? (i := 10) (by decide +kernel))) rfl
theorem mo_X8_isOver : Cond.code yX8_isOver cX8_isOver 2 (some FieldType.boolean) ∈ TB := mB (mT4 (List.mem_of_getElem? (i := 11) rfl)) rfl
theorem ml_X0_225 : Cond.methodLink "TransportFour$End" 225 yX0_mustGiveUp ∈ TB := mB (mT4 (List.mem_of_getElem? (i := 12) (by decide +kernel))) rfl
theorem mi_X0_mustGiveUp : Cond.instanceMethod yX0_mustGiveUp ∈ TB := mB (mT4 (List.mem_of_getElem? (i := 13) (by decide +kernel))) rfl
theorem mx_X0_mustGiveUp : Cond.selects "TransportFour$End" yX0_mustGiveUp yX0_mustGiveUp ∈ TB := mB (mT4 (List.mem_of_getElem? (i := 14) (by decide +kernel))) rfl
theorem mo_X0_mustGiveUp : Cond.code yX0_mustGiveUp cX0_mustGiveUp 3 (some FieldType.boolean) ∈ TB := mB (mT4 (List.mem_of_getElem? (i := 15) rfl)) rfl
theorem ml_X0_253 : Cond.methodLink "TransportFour$End" 253 yX8_isSpent ∈ TB := mB (mT4 (List.mem_of_getElem? (i := 16) (by decide +kernel))) rfl
theorem mi_X8_isSpent : Cond.instanceMethod yX8_isSpent ∈ TB := mB (mT4 (List.mem_of_getElem? (i := 17) (by decide +kernel))) rfl
theorem mx_X8_isSpent : Cond.selects "TransportFour$Wait" yX8_isSpent yX8_isSpent ∈ TB := mB (mT4 (List.mem_of_getElem? (i := 18) (by decide +kernel))) rfl
theorem mo_X8_isSpent : Cond.code yX8_isSpent cX8_isSpent 2 (some FieldType.boolean) ∈ TB := mB (mT4 (List.mem_of_getElem? (i := 19) rfl)) rfl
theorem ml_X0_256 : Cond.methodLink "TransportFour$End" 256 yX3_isSpent ∈ TB := mB (mT4 (List.mem_of_getElem? (i := 20) (by decide +kernel))) rfl
theorem mi_X3_isSpent : Cond.instanceMethod yX3_isSpent ∈ TB := mB (mT4 (List.mem_of_getElem? (i := 21) (by decide +kernel))) rfl
theorem mx_X3_isSpent : Cond.selects "TransportFour$Outbox" yX3_isSpent yX3_isSpent ∈ TB := mB (mT4 (List.mem_of_getElem? (i := 22) (by decide +kernel))) rfl
theorem mo_X3_isSpent : Cond.code yX3_isSpent cX3_isSpent 3 (some FieldType.boolean) ∈ TB := mB (mT4 (List.mem_of_getElem? (i := 23) rfl)) rfl
theorem ml_X3_74 : Cond.methodLink "TransportFour$Outbox" 74 yX8_isSpent ∈ TB := mB (mT4 (List.mem_of_getElem? (i := 24) (by decide +kernel))) rfl
theorem ml_X0_228 : Cond.methodLink "TransportFour$End" 228 yX0_giveUp ∈ TB := mB (mT4 (List.mem_of_getElem? (i := 25) (by decide +kernel))) rfl
theorem mi_X0_giveUp : Cond.instanceMethod yX0_giveUp ∈ TB := mB (mT4 (List.mem_of_getElem? (i := 26) (by decide +kernel))) rfl
theorem mx_X0_giveUp : Cond.selects "TransportFour$End" yX0_giveUp yX0_giveUp ∈ TB := mB (mT4 (List.mem_of_getElem? (i := 27) (by decide +kernel))) rfl
theorem mo_X0_giveUp : Cond.code yX0_giveUp cX0_giveUp 1 none ∈ TB := mB (mT4 (List.mem_of_getElem? (i := 28) rfl)) rfl
theorem ml_L_59 : Cond.methodLink "TransportFourLaw" 59 yX9_told ∈ TB := mB (mT4 (List.mem_of_getElem? (i := 29) (by decide +kernel))) rfl
theorem mi_X9_told : Cond.instanceMethod yX9_told ∈ TB := mB (mT4 (List.mem_of_getElem? (i := 30) (by decide +kernel))) rfl
theorem mx_X9_told : Cond.selects "TransportFour" yX9_told yX9_told ∈ TB := mB (mT4 (List.mem_of_getElem? (i := 31) (by decide +kernel))) rfl
theorem mo_X9_told : Cond.code yX9_told cX9_told 3 (some FieldType.int) ∈ TB := mB (mT4 (List.mem_of_getElem? (i := 32) rfl)) rfl
theorem ml_X9_93 : Cond.methodLink "TransportFour" 93 yX0_tell ∈ TB := mB (mT4 (List.mem_of_getElem? (i := 33) (by decide +kernel))) rfl
theorem mi_X0_tell : Cond.instanceMethod yX0_tell ∈ TB := mB (mT4 (List.mem_of_getElem? (i := 34) (by decide +kernel))) rfl
theorem mx_X0_tell : Cond.selects "TransportFour$End" yX0_tell yX0_tell ∈ TB := mB (mT4 (List.mem_of_getElem? (i := 35) (by decide +kernel))) rfl
theorem mo_X0_tell : Cond.code yX0_tell cX0_tell 2 (some FieldType.int) ∈ TB := mB (mT4 (List.mem_of_getElem? (i := 36) rfl)) rfl
theorem ml_L_63 : Cond.methodLink "TransportFourLaw" 63 yX9_sent ∈ TB := mB (mT4 (List.mem_of_getElem? (i := 37) (by decide +kernel))) rfl
theorem mi_X9_sent : Cond.instanceMethod yX9_sent ∈ TB := mB (mT4 (List.mem_of_getElem? (i := 38) (by decide +kernel))) rfl
theorem mx_X9_sent : Cond.selects "TransportFour" yX9_sent yX9_sent ∈ TB := mB (mT4 (List.mem_of_getElem? (i := 39) (by decide +kernel))) rfl
theorem mo_X9_sent : Cond.code yX9_sent cX9_sent 1 (some FieldType.int) ∈ TB := mB (mT4 (List.mem_of_getElem? (i := 40) rfl)) rfl
theorem ml_L_68 : Cond.methodLink "TransportFourLaw" 68 yX9_byteOf ∈ TB := mB (mT4 (List.mem_of_getElem? (i := 41) (by decide +kernel))) rfl
theorem mi_X9_byteOf : Cond.instanceMethod yX9_byteOf ∈ TB := mB (mT4 (List.mem_of_getElem? (i := 42) (by decide +kernel))) rfl
theorem mx_X9_byteOf : Cond.selects "TransportFour" yX9_byteOf yX9_byteOf ∈ TB := mB (mT4 (List.mem_of_getElem? (i := 43) (by decide +kernel))) rfl
theorem mo_X9_byteOf : Cond.code yX9_byteOf cX9_byteOf 3 (some FieldType.int) ∈ TB := mB (mT4 (List.mem_of_getElem? (i := 44) rfl)) rfl
theorem ml_X9_96 : Cond.methodLink "TransportFour" 96 yX2_recordedByte ∈ TB := mB (mT4 (List.mem_of_getElem? (i := 45) (by decide +kernel))) rfl
theorem mi_X2_recordedByte : Cond.instanceMethod yX2_recordedByte ∈ TB := mB (mT4 (List.mem_of_getElem? (i := 46) (by decide +kernel))) rfl
theorem mx_X2_recordedByte : Cond.selects "TransportFour$Net" yX2_recordedByte yX2_recordedByte ∈ TB := mB (mT4 (List.mem_of_getElem? (i := 47) (by decide +kernel))) rfl
theorem mo_X2_recordedByte : Cond.code yX2_recordedByte cX2_recordedByte 4 (some FieldType.int) ∈ TB := mB (mT4 (List.mem_of_getElem? (i := 48) rfl)) rfl
