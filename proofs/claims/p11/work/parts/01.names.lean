-- ===== PART A: goes FIRST, ahead of the names: the tables' words, and 'selects' of the private methods out of them =====
/-- a private method of a class that the tables say can be made, by its rows of tables_1 -/
def lw_okq (q : MethodName × Nat) : Prop := (q.1.cls ≠ "java/lang/invoke/MethodHandle" ∧ q.1.cls ≠ "java/lang/invoke/VarHandle") ∧ Cond.instantiable q.1.cls q.2 ∈ tables_1 ∧ Cond.privateMethod q.1 ∈ tables_1 ∧ Cond.instanceMethod q.1 ∈ tables_1
theorem lw_p0 : lw_okq (⟨"TransportFour", "deliver", "(Z)V"⟩, 4) := ⟨⟨by decide +kernel, by decide +kernel⟩, List.mem_of_getElem? (i := 15) (by decide +kernel), List.mem_of_getElem? (i := 592) (by decide +kernel), List.mem_of_getElem? (i := 593) (by decide +kernel)⟩
theorem lw_p1 : lw_okq (⟨"TransportFourModel", "fresh", "(I)V"⟩, 64) := ⟨⟨by decide +kernel, by decide +kernel⟩, List.mem_of_getElem? (i := 774) (by decide +kernel), List.mem_of_getElem? (i := 981) (by decide +kernel), List.mem_of_getElem? (i := 982) (by decide +kernel)⟩
theorem lw_p2 : lw_okq (⟨"TransportFourModel", "sendCode", "(IIIII)V"⟩, 64) := ⟨⟨by decide +kernel, by decide +kernel⟩, List.mem_of_getElem? (i := 774) (by decide +kernel), List.mem_of_getElem? (i := 986) (by decide +kernel), List.mem_of_getElem? (i := 987) (by decide +kernel)⟩
theorem lw_p3 : lw_okq (⟨"TransportFourModel", "begin", "(II)V"⟩, 64) := ⟨⟨by decide +kernel, by decide +kernel⟩, List.mem_of_getElem? (i := 774) (by decide +kernel), List.mem_of_getElem? (i := 990) (by decide +kernel), List.mem_of_getElem? (i := 991) (by decide +kernel)⟩
theorem lw_p4 : lw_okq (⟨"TransportFourModel", "push", "(I)V"⟩, 64) := ⟨⟨by decide +kernel, by decide +kernel⟩, List.mem_of_getElem? (i := 774) (by decide +kernel), List.mem_of_getElem? (i := 994) (by decide +kernel), List.mem_of_getElem? (i := 995) (by decide +kernel)⟩
theorem lw_p5 : lw_okq (⟨"TransportFourModel", "endHead", "()V"⟩, 64) := ⟨⟨by decide +kernel, by decide +kernel⟩, List.mem_of_getElem? (i := 774) (by decide +kernel), List.mem_of_getElem? (i := 998) (by decide +kernel), List.mem_of_getElem? (i := 999) (by decide +kernel)⟩
theorem lw_p6 : lw_okq (⟨"TransportFourModel", "check", "()V"⟩, 64) := ⟨⟨by decide +kernel, by decide +kernel⟩, List.mem_of_getElem? (i := 774) (by decide +kernel), List.mem_of_getElem? (i := 1002) (by decide +kernel), List.mem_of_getElem? (i := 1003) (by decide +kernel)⟩
theorem lw_p7 : lw_okq (⟨"TransportFourModel", "sendMade", "(I)V"⟩, 64) := ⟨⟨by decide +kernel, by decide +kernel⟩, List.mem_of_getElem? (i := 774) (by decide +kernel), List.mem_of_getElem? (i := 1009) (by decide +kernel), List.mem_of_getElem? (i := 1010) (by decide +kernel)⟩
theorem lw_p8 : lw_okq (⟨"TransportFourModel", "wait", "(I)V"⟩, 64) := ⟨⟨by decide +kernel, by decide +kernel⟩, List.mem_of_getElem? (i := 774) (by decide +kernel), List.mem_of_getElem? (i := 1013) (by decide +kernel), List.mem_of_getElem? (i := 1014) (by decide +kernel)⟩
theorem lw_p9 : lw_okq (⟨"TransportFourModel", "setReason", "(II)V"⟩, 64) := ⟨⟨by decide +kernel, by decide +kernel⟩, List.mem_of_getElem? (i := 774) (by decide +kernel), List.mem_of_getElem? (i := 1021) (by decide +kernel), List.mem_of_getElem? (i := 1022) (by decide +kernel)⟩
theorem lw_p10 : lw_okq (⟨"TransportFourModel", "goOn", "(I)V"⟩, 64) := ⟨⟨by decide +kernel, by decide +kernel⟩, List.mem_of_getElem? (i := 774) (by decide +kernel), List.mem_of_getElem? (i := 1034) (by decide +kernel), List.mem_of_getElem? (i := 1035) (by decide +kernel)⟩
theorem lw_p11 : lw_okq (⟨"TransportFourModel", "sendPiece", "(II)V"⟩, 64) := ⟨⟨by decide +kernel, by decide +kernel⟩, List.mem_of_getElem? (i := 774) (by decide +kernel), List.mem_of_getElem? (i := 1041) (by decide +kernel), List.mem_of_getElem? (i := 1042) (by decide +kernel)⟩
theorem lw_p12 : lw_okq (⟨"TransportFourModel", "sendUrge", "(I)V"⟩, 64) := ⟨⟨by decide +kernel, by decide +kernel⟩, List.mem_of_getElem? (i := 774) (by decide +kernel), List.mem_of_getElem? (i := 1045) (by decide +kernel), List.mem_of_getElem? (i := 1046) (by decide +kernel)⟩
theorem lw_p13 : lw_okq (⟨"TransportFourModel", "arriveAll", "()V"⟩, 64) := ⟨⟨by decide +kernel, by decide +kernel⟩, List.mem_of_getElem? (i := 774) (by decide +kernel), List.mem_of_getElem? (i := 1057) (by decide +kernel), List.mem_of_getElem? (i := 1058) (by decide +kernel)⟩
theorem lw_p14 : lw_okq (⟨"TransportFourModel", "hasFault", "(II)Z"⟩, 64) := ⟨⟨by decide +kernel, by decide +kernel⟩, List.mem_of_getElem? (i := 774) (by decide +kernel), List.mem_of_getElem? (i := 1061) (by decide +kernel), List.mem_of_getElem? (i := 1062) (by decide +kernel)⟩
theorem lw_p15 : lw_okq (⟨"TransportFourModel", "carry", "(I)V"⟩, 64) := ⟨⟨by decide +kernel, by decide +kernel⟩, List.mem_of_getElem? (i := 774) (by decide +kernel), List.mem_of_getElem? (i := 1065) (by decide +kernel), List.mem_of_getElem? (i := 1066) (by decide +kernel)⟩
def lw_privs_1 : List (MethodName × Nat) := [(⟨"TransportFour", "deliver", "(Z)V"⟩, 4), (⟨"TransportFourModel", "fresh", "(I)V"⟩, 64), (⟨"TransportFourModel", "sendCode", "(IIIII)V"⟩, 64), (⟨"TransportFourModel", "begin", "(II)V"⟩, 64), (⟨"TransportFourModel", "push", "(I)V"⟩, 64), (⟨"TransportFourModel", "endHead", "()V"⟩, 64), (⟨"TransportFourModel", "check", "()V"⟩, 64), (⟨"TransportFourModel", "sendMade", "(I)V"⟩, 64), (⟨"TransportFourModel", "wait", "(I)V"⟩, 64), (⟨"TransportFourModel", "setReason", "(II)V"⟩, 64), (⟨"TransportFourModel", "goOn", "(I)V"⟩, 64), (⟨"TransportFourModel", "sendPiece", "(II)V"⟩, 64), (⟨"TransportFourModel", "sendUrge", "(I)V"⟩, 64), (⟨"TransportFourModel", "arriveAll", "()V"⟩, 64), (⟨"TransportFourModel", "hasFault", "(II)Z"⟩, 64), (⟨"TransportFourModel", "carry", "(I)V"⟩, 64)]
theorem lw_r1 : ∀ q ∈ lw_privs_1, lw_okq q := List.forall_mem_cons.mpr ⟨lw_p0, List.forall_mem_cons.mpr ⟨lw_p1, List.forall_mem_cons.mpr ⟨lw_p2, List.forall_mem_cons.mpr ⟨lw_p3, List.forall_mem_cons.mpr ⟨lw_p4, List.forall_mem_cons.mpr ⟨lw_p5, List.forall_mem_cons.mpr ⟨lw_p6, List.forall_mem_cons.mpr ⟨lw_p7, List.forall_mem_cons.mpr ⟨lw_p8, List.forall_mem_cons.mpr ⟨lw_p9, List.forall_mem_cons.mpr ⟨lw_p10, List.forall_mem_cons.mpr ⟨lw_p11, List.forall_mem_cons.mpr ⟨lw_p12, List.forall_mem_cons.mpr ⟨lw_p13, List.forall_mem_cons.mpr ⟨lw_p14, List.forall_mem_cons.mpr ⟨lw_p15, fun _ h => absurd h List.not_mem_nil⟩⟩⟩⟩⟩⟩⟩⟩⟩⟩⟩⟩⟩⟩⟩⟩
theorem lw_p16 : lw_okq (⟨"TransportFourModel", "arrive", "(I)V"⟩, 64) := ⟨⟨by decide +kernel, by decide +kernel⟩, List.mem_of_getElem? (i := 774) (by decide +kernel), List.mem_of_getElem? (i := 1069) (by decide +kernel), List.mem_of_getElem? (i := 1070) (by decide +kernel)⟩
theorem lw_p17 : lw_okq (⟨"TransportFourModel", "isGood", "()Z"⟩, 64) := ⟨⟨by decide +kernel, by decide +kernel⟩, List.mem_of_getElem? (i := 774) (by decide +kernel), List.mem_of_getElem? (i := 1073) (by decide +kernel), List.mem_of_getElem? (i := 1074) (by decide +kernel)⟩
theorem lw_p18 : lw_okq (⟨"TransportFourModel", "arriveCall", "(I)V"⟩, 64) := ⟨⟨by decide +kernel, by decide +kernel⟩, List.mem_of_getElem? (i := 774) (by decide +kernel), List.mem_of_getElem? (i := 1083) (by decide +kernel), List.mem_of_getElem? (i := 1084) (by decide +kernel)⟩
theorem lw_p19 : lw_okq (⟨"TransportFourModel", "two", "(I)I"⟩, 64) := ⟨⟨by decide +kernel, by decide +kernel⟩, List.mem_of_getElem? (i := 774) (by decide +kernel), List.mem_of_getElem? (i := 1087) (by decide +kernel), List.mem_of_getElem? (i := 1088) (by decide +kernel)⟩
theorem lw_p20 : lw_okq (⟨"TransportFourModel", "credit", "(I)I"⟩, 64) := ⟨⟨by decide +kernel, by decide +kernel⟩, List.mem_of_getElem? (i := 774) (by decide +kernel), List.mem_of_getElem? (i := 1091) (by decide +kernel), List.mem_of_getElem? (i := 1092) (by decide +kernel)⟩
theorem lw_p21 : lw_okq (⟨"TransportFourModel", "arriveAnswer", "(I)V"⟩, 64) := ⟨⟨by decide +kernel, by decide +kernel⟩, List.mem_of_getElem? (i := 774) (by decide +kernel), List.mem_of_getElem? (i := 1095) (by decide +kernel), List.mem_of_getElem? (i := 1096) (by decide +kernel)⟩
theorem lw_p22 : lw_okq (⟨"TransportFourModel", "sendReceipt", "(I)V"⟩, 64) := ⟨⟨by decide +kernel, by decide +kernel⟩, List.mem_of_getElem? (i := 774) (by decide +kernel), List.mem_of_getElem? (i := 1099) (by decide +kernel), List.mem_of_getElem? (i := 1100) (by decide +kernel)⟩
theorem lw_p23 : lw_okq (⟨"TransportFourModel", "sendNumber", "(III)V"⟩, 64) := ⟨⟨by decide +kernel, by decide +kernel⟩, List.mem_of_getElem? (i := 774) (by decide +kernel), List.mem_of_getElem? (i := 1103) (by decide +kernel), List.mem_of_getElem? (i := 1104) (by decide +kernel)⟩
theorem lw_p24 : lw_okq (⟨"TransportFourModel", "arriveReceipt", "(I)V"⟩, 64) := ⟨⟨by decide +kernel, by decide +kernel⟩, List.mem_of_getElem? (i := 774) (by decide +kernel), List.mem_of_getElem? (i := 1107) (by decide +kernel), List.mem_of_getElem? (i := 1108) (by decide +kernel)⟩
theorem lw_p25 : lw_okq (⟨"TransportFourModel", "arriveData", "(I)V"⟩, 64) := ⟨⟨by decide +kernel, by decide +kernel⟩, List.mem_of_getElem? (i := 774) (by decide +kernel), List.mem_of_getElem? (i := 1111) (by decide +kernel), List.mem_of_getElem? (i := 1112) (by decide +kernel)⟩
theorem lw_p26 : lw_okq (⟨"TransportFourModel", "putBehind", "(I)V"⟩, 64) := ⟨⟨by decide +kernel, by decide +kernel⟩, List.mem_of_getElem? (i := 774) (by decide +kernel), List.mem_of_getElem? (i := 1115) (by decide +kernel), List.mem_of_getElem? (i := 1116) (by decide +kernel)⟩
theorem lw_p27 : lw_okq (⟨"TransportFourModel", "arriveUrgent", "(I)V"⟩, 64) := ⟨⟨by decide +kernel, by decide +kernel⟩, List.mem_of_getElem? (i := 774) (by decide +kernel), List.mem_of_getElem? (i := 1119) (by decide +kernel), List.mem_of_getElem? (i := 1120) (by decide +kernel)⟩
theorem lw_p28 : lw_okq (⟨"TransportFourModel", "arriveUrgentReceipt", "(I)V"⟩, 64) := ⟨⟨by decide +kernel, by decide +kernel⟩, List.mem_of_getElem? (i := 774) (by decide +kernel), List.mem_of_getElem? (i := 1123) (by decide +kernel), List.mem_of_getElem? (i := 1124) (by decide +kernel)⟩
theorem lw_p29 : lw_okq (⟨"TransportFourModel", "arriveEnd", "(I)V"⟩, 64) := ⟨⟨by decide +kernel, by decide +kernel⟩, List.mem_of_getElem? (i := 774) (by decide +kernel), List.mem_of_getElem? (i := 1127) (by decide +kernel), List.mem_of_getElem? (i := 1128) (by decide +kernel)⟩
theorem lw_p30 : lw_okq (⟨"TransportFourModel", "freeze", "(I)V"⟩, 64) := ⟨⟨by decide +kernel, by decide +kernel⟩, List.mem_of_getElem? (i := 774) (by decide +kernel), List.mem_of_getElem? (i := 1131) (by decide +kernel), List.mem_of_getElem? (i := 1132) (by decide +kernel)⟩
theorem lw_p31 : lw_okq (⟨"TransportFourModel", "step", "(I)V"⟩, 64) := ⟨⟨by decide +kernel, by decide +kernel⟩, List.mem_of_getElem? (i := 774) (by decide +kernel), List.mem_of_getElem? (i := 1135) (by decide +kernel), List.mem_of_getElem? (i := 1136) (by decide +kernel)⟩
def lw_privs_2 : List (MethodName × Nat) := [(⟨"TransportFourModel", "arrive", "(I)V"⟩, 64), (⟨"TransportFourModel", "isGood", "()Z"⟩, 64), (⟨"TransportFourModel", "arriveCall", "(I)V"⟩, 64), (⟨"TransportFourModel", "two", "(I)I"⟩, 64), (⟨"TransportFourModel", "credit", "(I)I"⟩, 64), (⟨"TransportFourModel", "arriveAnswer", "(I)V"⟩, 64), (⟨"TransportFourModel", "sendReceipt", "(I)V"⟩, 64), (⟨"TransportFourModel", "sendNumber", "(III)V"⟩, 64), (⟨"TransportFourModel", "arriveReceipt", "(I)V"⟩, 64), (⟨"TransportFourModel", "arriveData", "(I)V"⟩, 64), (⟨"TransportFourModel", "putBehind", "(I)V"⟩, 64), (⟨"TransportFourModel", "arriveUrgent", "(I)V"⟩, 64), (⟨"TransportFourModel", "arriveUrgentReceipt", "(I)V"⟩, 64), (⟨"TransportFourModel", "arriveEnd", "(I)V"⟩, 64), (⟨"TransportFourModel", "freeze", "(I)V"⟩, 64), (⟨"TransportFourModel", "step", "(I)V"⟩, 64)]
theorem lw_r2 : ∀ q ∈ lw_privs_2, lw_okq q := List.forall_mem_cons.mpr ⟨lw_p16, List.forall_mem_cons.mpr ⟨lw_p17, List.forall_mem_cons.mpr ⟨lw_p18, List.forall_mem_cons.mpr ⟨lw_p19, List.forall_mem_cons.mpr ⟨lw_p20, List.forall_mem_cons.mpr ⟨lw_p21, List.forall_mem_cons.mpr ⟨lw_p22, List.forall_mem_cons.mpr ⟨lw_p23, List.forall_mem_cons.mpr ⟨lw_p24, List.forall_mem_cons.mpr ⟨lw_p25, List.forall_mem_cons.mpr ⟨lw_p26, List.forall_mem_cons.mpr ⟨lw_p27, List.forall_mem_cons.mpr ⟨lw_p28, List.forall_mem_cons.mpr ⟨lw_p29, List.forall_mem_cons.mpr ⟨lw_p30, List.forall_mem_cons.mpr ⟨lw_p31, fun _ h => absurd h List.not_mem_nil⟩⟩⟩⟩⟩⟩⟩⟩⟩⟩⟩⟩⟩⟩⟩⟩
theorem lw_p32 : lw_okq (⟨"TransportFourModel", "resend", "(I)V"⟩, 64) := ⟨⟨by decide +kernel, by decide +kernel⟩, List.mem_of_getElem? (i := 774) (by decide +kernel), List.mem_of_getElem? (i := 1139) (by decide +kernel), List.mem_of_getElem? (i := 1140) (by decide +kernel)⟩
theorem lw_p33 : lw_okq (⟨"TransportFourModel", "isDue", "(III)Z"⟩, 64) := ⟨⟨by decide +kernel, by decide +kernel⟩, List.mem_of_getElem? (i := 774) (by decide +kernel), List.mem_of_getElem? (i := 1143) (by decide +kernel), List.mem_of_getElem? (i := 1144) (by decide +kernel)⟩
theorem lw_p34 : lw_okq (⟨"TransportFourModel", "giveUp", "(I)V"⟩, 64) := ⟨⟨by decide +kernel, by decide +kernel⟩, List.mem_of_getElem? (i := 774) (by decide +kernel), List.mem_of_getElem? (i := 1147) (by decide +kernel), List.mem_of_getElem? (i := 1148) (by decide +kernel)⟩
def lw_privs_3 : List (MethodName × Nat) := [(⟨"TransportFourModel", "resend", "(I)V"⟩, 64), (⟨"TransportFourModel", "isDue", "(III)Z"⟩, 64), (⟨"TransportFourModel", "giveUp", "(I)V"⟩, 64)]
theorem lw_r3 : ∀ q ∈ lw_privs_3, lw_okq q := List.forall_mem_cons.mpr ⟨lw_p32, List.forall_mem_cons.mpr ⟨lw_p33, List.forall_mem_cons.mpr ⟨lw_p34, fun _ h => absurd h List.not_mem_nil⟩⟩⟩
def lw_privs : List (MethodName × Nat) := lw_privs_1 ++ (lw_privs_2 ++ (lw_privs_3))
def lw_tbl : List Cond := k2_sels lw_privs ++ tables_1
theorem lw_privs_ok : ∀ q ∈ lw_privs, lw_okq q := by
  show ∀ q ∈ lw_privs_1 ++ (lw_privs_2 ++ (lw_privs_3)), lw_okq q
  exact List.forall_mem_append.mpr ⟨lw_r1, List.forall_mem_append.mpr ⟨lw_r2, lw_r3⟩⟩
def RX0 : String := "TransportFour$End"
def TX0 : u_T := fun k => match k with
  | 0 => ("TransportFour$End", "index", "I", true)
  | 1 => ("TransportFour$End", "net", "LTransportFour$Net;", true)
  | 2 => ("TransportFour$End", "outbox", "LTransportFour$Outbox;", true)
  | 3 => ("TransportFour$End", "inbox", "LTransportFour$Inbox;", true)
  | 4 => ("TransportFour$End", "urgentOut", "LTransportFour$UrgentOut;", true)
  | 5 => ("TransportFour$End", "urgentIn", "LTransportFour$UrgentIn;", true)
  | 6 => ("TransportFour$End", "linkWait", "LTransportFour$Wait;", true)
  | 7 => ("TransportFour$End", "linkCode", "I", false)
  | 8 => ("TransportFour$End", "state", "I", false)
  | 9 => ("TransportFour$End", "reference", "I", false)
  | 10 => ("TransportFour$End", "peerReference", "I", false)
  | 11 => ("TransportFour$End", "reason", "I", false)
  | 12 => ("TransportFour$End", "answered", "Z", false)
  | 13 => ("TransportFour$End", "heardAt", "I", false)
  | _ => ("TransportFour$End", "frozenAt", "I", false)
def tyX0 : Nat → FieldType := fun k => match k with
  | 0 => .int
  | 1 => .object "TransportFour$Net"
  | 2 => .object "TransportFour$Outbox"
  | 3 => .object "TransportFour$Inbox"
  | 4 => .object "TransportFour$UrgentOut"
  | 5 => .object "TransportFour$UrgentIn"
  | 6 => .object "TransportFour$Wait"
  | 7 => .int
  | 8 => .int
  | 9 => .int
  | 10 => .int
  | 11 => .int
  | 12 => .boolean
  | 13 => .int
  | _ => .int
theorem nmX0 : ∀ a, a < 15 → ∀ b, b < 15 → a ≠ b → (TX0 a).2.1 ≠ (TX0 b).2.1 := by decide +kernel
theorem tyX0_ok : ∀ k, k < 15 → parseFieldDescriptor (TX0 k).2.2.1 = some (tyX0 k) := by decide +kernel
abbrev cX0_init : ByteArray := prog_2_method_1_code
def yX0_init : MethodName := ⟨RX0, "<init>", "(ILTransportFour$Net;)V"⟩
abbrev cX0_callPeer : ByteArray := prog_2_method_2_code
def yX0_callPeer : MethodName := ⟨RX0, "callPeer", "()I"⟩
abbrev cX0_beginConnection : ByteArray := prog_2_method_3_code
def yX0_beginConnection : MethodName := ⟨RX0, "beginConnection", "(II)V"⟩
abbrev cX0_sendMessage : ByteArray := prog_2_method_4_code
def yX0_sendMessage : MethodName := ⟨RX0, "sendMessage", "([II)I"⟩
abbrev cX0_sendUrgentByte : ByteArray := prog_2_method_5_code
def yX0_sendUrgentByte : MethodName := ⟨RX0, "sendUrgentByte", "(I)I"⟩
abbrev cX0_endConnection : ByteArray := prog_2_method_6_code
def yX0_endConnection : MethodName := ⟨RX0, "endConnection", "()I"⟩
abbrev cX0_takeMessage : ByteArray := prog_2_method_7_code
def yX0_takeMessage : MethodName := ⟨RX0, "takeMessage", "()I"⟩
abbrev cX0_tell : ByteArray := prog_2_method_8_code
def yX0_tell : MethodName := ⟨RX0, "tell", "(I)I"⟩
abbrev cX0_hasConnection : ByteArray := prog_2_method_9_code
def yX0_hasConnection : MethodName := ⟨RX0, "hasConnection", "()Z"⟩
abbrev cX0_noteReason : ByteArray := prog_2_method_10_code
def yX0_noteReason : MethodName := ⟨RX0, "noteReason", "(I)V"⟩
abbrev cX0_freeze : ByteArray := prog_2_method_11_code
def yX0_freeze : MethodName := ⟨RX0, "freeze", "()V"⟩
abbrev cX0_hear : ByteArray := prog_2_method_12_code
def yX0_hear : MethodName := ⟨RX0, "hear", "(LTransportFour$Unit;)V"⟩
abbrev cX0_hearCall : ByteArray := prog_2_method_13_code
def yX0_hearCall : MethodName := ⟨RX0, "hearCall", "(LTransportFour$Unit;)V"⟩
abbrev cX0_hearForConnection : ByteArray := prog_2_method_14_code
def yX0_hearForConnection : MethodName := ⟨RX0, "hearForConnection", "(LTransportFour$Unit;I)V"⟩
abbrev cX0_acceptsAnswer : ByteArray := prog_2_method_15_code
def yX0_acceptsAnswer : MethodName := ⟨RX0, "acceptsAnswer", "(LTransportFour$Unit;)Z"⟩
abbrev cX0_hearEnd : ByteArray := prog_2_method_16_code
def yX0_hearEnd : MethodName := ⟨RX0, "hearEnd", "(LTransportFour$Unit;)V"⟩
abbrev cX0_passTick : ByteArray := prog_2_method_17_code
def yX0_passTick : MethodName := ⟨RX0, "passTick", "()V"⟩
abbrev cX0_sendDueAgain : ByteArray := prog_2_method_18_code
def yX0_sendDueAgain : MethodName := ⟨RX0, "sendDueAgain", "()V"⟩
abbrev cX0_mustGiveUp : ByteArray := prog_2_method_19_code
def yX0_mustGiveUp : MethodName := ⟨RX0, "mustGiveUp", "()Z"⟩
abbrev cX0_giveUp : ByteArray := prog_2_method_20_code
def yX0_giveUp : MethodName := ⟨RX0, "giveUp", "()V"⟩
abbrev cX0_awaitLink : ByteArray := prog_2_method_21_code
def yX0_awaitLink : MethodName := ⟨RX0, "awaitLink", "(I)V"⟩
abbrev cX0_endWaitOf : ByteArray := prog_2_method_22_code
def yX0_endWaitOf : MethodName := ⟨RX0, "endWaitOf", "(I)V"⟩
abbrev cX0_sendAwaitedLink : ByteArray := prog_2_method_23_code
def yX0_sendAwaitedLink : MethodName := ⟨RX0, "sendAwaitedLink", "()V"⟩
abbrev cX0_sendLink : ByteArray := prog_2_method_24_code
def yX0_sendLink : MethodName := ⟨RX0, "sendLink", "(IIII)V"⟩
abbrev cX0_sendReceipt : ByteArray := prog_2_method_25_code
def yX0_sendReceipt : MethodName := ⟨RX0, "sendReceipt", "()V"⟩
abbrev cX0_sendNumbered : ByteArray := prog_2_method_26_code
def yX0_sendNumbered : MethodName := ⟨RX0, "sendNumbered", "(II)V"⟩
abbrev cX0_sendNewData : ByteArray := prog_2_method_27_code
def yX0_sendNewData : MethodName := ⟨RX0, "sendNewData", "()V"⟩
abbrev cX0_sendPiece : ByteArray := prog_2_method_28_code
def yX0_sendPiece : MethodName := ⟨RX0, "sendPiece", "(I)V"⟩
abbrev cX0_sendNewUrgent : ByteArray := prog_2_method_29_code
def yX0_sendNewUrgent : MethodName := ⟨RX0, "sendNewUrgent", "()V"⟩
abbrev cX0_sendFirstUrgent : ByteArray := prog_2_method_30_code
def yX0_sendFirstUrgent : MethodName := ⟨RX0, "sendFirstUrgent", "()V"⟩
def RX1 : String := "TransportFour$Inbox"
def TX1 : u_T := fun k => match k with
  | 0 => ("TransportFour$Inbox", "kept", "[[I", true)
  | 1 => ("TransportFour$Inbox", "keptLengths", "[I", true)
  | 2 => ("TransportFour$Inbox", "keptIsLast", "[Z", true)
  | 3 => ("TransportFour$Inbox", "isKept", "[Z", true)
  | 4 => ("TransportFour$Inbox", "bytes", "[I", true)
  | 5 => ("TransportFour$Inbox", "lengths", "[I", true)
  | 6 => ("TransportFour$Inbox", "units", "[I", true)
  | 7 => ("TransportFour$Inbox", "taken", "[I", true)
  | 8 => ("TransportFour$Inbox", "expected", "I", false)
  | 9 => ("TransportFour$Inbox", "filled", "I", false)
  | 10 => ("TransportFour$Inbox", "messages", "I", false)
  | 11 => ("TransportFour$Inbox", "unitsThere", "I", false)
  | 12 => ("TransportFour$Inbox", "unfinishedLength", "I", false)
  | 13 => ("TransportFour$Inbox", "unfinishedUnits", "I", false)
  | _ => ("TransportFour$Inbox", "takenLength", "I", false)
def tyX1 : Nat → FieldType := fun k => match k with
  | 0 => .array (.array .int)
  | 1 => .array .int
  | 2 => .array .boolean
  | 3 => .array .boolean
  | 4 => .array .int
  | 5 => .array .int
  | 6 => .array .int
  | 7 => .array .int
  | 8 => .int
  | 9 => .int
  | 10 => .int
  | 11 => .int
  | 12 => .int
  | 13 => .int
  | _ => .int
theorem nmX1 : ∀ a, a < 15 → ∀ b, b < 15 → a ≠ b → (TX1 a).2.1 ≠ (TX1 b).2.1 := by decide +kernel
theorem tyX1_ok : ∀ k, k < 15 → parseFieldDescriptor (TX1 k).2.2.1 = some (tyX1 k) := by decide +kernel
abbrev cX1_init : ByteArray := prog_3_method_1_code
def yX1_init : MethodName := ⟨RX1, "<init>", "()V"⟩
abbrev cX1_clear : ByteArray := prog_3_method_2_code
def yX1_clear : MethodName := ⟨RX1, "clear", "()V"⟩
abbrev cX1_credit : ByteArray := prog_3_method_3_code
def yX1_credit : MethodName := ⟨RX1, "credit", "()I"⟩
abbrev cX1_accept : ByteArray := prog_3_method_4_code
def yX1_accept : MethodName := ⟨RX1, "accept", "(LTransportFour$Unit;)V"⟩
abbrev cX1_appendExpected : ByteArray := prog_3_method_5_code
def yX1_appendExpected : MethodName := ⟨RX1, "appendExpected", "()V"⟩
abbrev cX1_finishMessage : ByteArray := prog_3_method_6_code
def yX1_finishMessage : MethodName := ⟨RX1, "finishMessage", "()V"⟩
abbrev cX1_takeNext : ByteArray := prog_3_method_7_code
def yX1_takeNext : MethodName := ⟨RX1, "takeNext", "()I"⟩
abbrev cX1_takenByte : ByteArray := prog_3_method_8_code
def yX1_takenByte : MethodName := ⟨RX1, "takenByte", "(I)I"⟩
def RX2 : String := "TransportFour$Net"
def TX2 : u_T := fun k => match k with
  | 0 => ("TransportFour$Net", "ring", "[LTransportFour$Unit;", true)
  | 1 => ("TransportFour$Net", "arriving", "LTransportFour$Unit;", true)
  | 2 => ("TransportFour$Net", "faultKinds", "[I", true)
  | 3 => ("TransportFour$Net", "faultNumbers", "[I", true)
  | 4 => ("TransportFour$Net", "faultPlaces", "[I", true)
  | 5 => ("TransportFour$Net", "faultMasks", "[I", true)
  | 6 => ("TransportFour$Net", "latest", "[I", true)
  | 7 => ("TransportFour$Net", "faults", "I", false)
  | 8 => ("TransportFour$Net", "count", "I", false)
  | 9 => ("TransportFour$Net", "oldest", "I", false)
  | _ => ("TransportFour$Net", "now", "I", false)
def tyX2 : Nat → FieldType := fun k => match k with
  | 0 => .array (.object "TransportFour$Unit")
  | 1 => .object "TransportFour$Unit"
  | 2 => .array .int
  | 3 => .array .int
  | 4 => .array .int
  | 5 => .array .int
  | 6 => .array .int
  | 7 => .int
  | 8 => .int
  | 9 => .int
  | _ => .int
theorem nmX2 : ∀ a, a < 11 → ∀ b, b < 11 → a ≠ b → (TX2 a).2.1 ≠ (TX2 b).2.1 := by decide +kernel
theorem tyX2_ok : ∀ k, k < 11 → parseFieldDescriptor (TX2 k).2.2.1 = some (tyX2 k) := by decide +kernel
abbrev cX2_init : ByteArray := prog_4_method_1_code
def yX2_init : MethodName := ⟨RX2, "<init>", "()V"⟩
abbrev cX2_addFault : ByteArray := prog_4_method_2_code
def yX2_addFault : MethodName := ⟨RX2, "addFault", "(IIII)I"⟩
abbrev cX2_unitOf : ByteArray := prog_4_method_3_code
def yX2_unitOf : MethodName := ⟨RX2, "unitOf", "(I)LTransportFour$Unit;"⟩
abbrev cX2_nextUnit : ByteArray := prog_4_method_4_code
def yX2_nextUnit : MethodName := ⟨RX2, "nextUnit", "()LTransportFour$Unit;"⟩
abbrev cX2_dispatch : ByteArray := prog_4_method_5_code
def yX2_dispatch : MethodName := ⟨RX2, "dispatch", "(I)V"⟩
abbrev cX2_applyFaults : ByteArray := prog_4_method_6_code
def yX2_applyFaults : MethodName := ⟨RX2, "applyFaults", "(LTransportFour$Unit;)V"⟩
abbrev cX2_arrivesNow : ByteArray := prog_4_method_7_code
def yX2_arrivesNow : MethodName := ⟨RX2, "arrivesNow", "(IZ)Z"⟩
abbrev cX2_unitAsItArrives : ByteArray := prog_4_method_8_code
def yX2_unitAsItArrives : MethodName := ⟨RX2, "unitAsItArrives", "(I)LTransportFour$Unit;"⟩
abbrev cX2_forgetArrived : ByteArray := prog_4_method_9_code
def yX2_forgetArrived : MethodName := ⟨RX2, "forgetArrived", "()V"⟩
abbrev cX2_recordedByte : ByteArray := prog_4_method_10_code
def yX2_recordedByte : MethodName := ⟨RX2, "recordedByte", "(II)I"⟩
def RX3 : String := "TransportFour$Outbox"
def TX3 : u_T := fun k => match k with
  | 0 => ("TransportFour$Outbox", "ring", "[LTransportFour$Piece;", true)
  | 1 => ("TransportFour$Outbox", "first", "I", false)
  | 2 => ("TransportFour$Outbox", "waiting", "I", false)
  | 3 => ("TransportFour$Outbox", "started", "I", false)
  | 4 => ("TransportFour$Outbox", "peerExpects", "I", false)
  | _ => ("TransportFour$Outbox", "peerCredit", "I", false)
def tyX3 : Nat → FieldType := fun k => match k with
  | 0 => .array (.object "TransportFour$Piece")
  | 1 => .int
  | 2 => .int
  | 3 => .int
  | 4 => .int
  | _ => .int
theorem nmX3 : ∀ a, a < 6 → ∀ b, b < 6 → a ≠ b → (TX3 a).2.1 ≠ (TX3 b).2.1 := by decide +kernel
theorem tyX3_ok : ∀ k, k < 6 → parseFieldDescriptor (TX3 k).2.2.1 = some (tyX3 k) := by decide +kernel
abbrev cX3_init : ByteArray := prog_5_method_1_code
def yX3_init : MethodName := ⟨RX3, "<init>", "()V"⟩
abbrev cX3_clear : ByteArray := prog_5_method_2_code
def yX3_clear : MethodName := ⟨RX3, "clear", "()V"⟩
abbrev cX3_pieceAt : ByteArray := prog_5_method_3_code
def yX3_pieceAt : MethodName := ⟨RX3, "pieceAt", "(I)LTransportFour$Piece;"⟩
abbrev cX3_numberAt : ByteArray := prog_5_method_4_code
def yX3_numberAt : MethodName := ⟨RX3, "numberAt", "(I)I"⟩
abbrev cX3_piecesOf : ByteArray := prog_5_method_5_code
def yX3_piecesOf : MethodName := ⟨RX3, "piecesOf", "(I)I"⟩
abbrev cX3_hasRoomFor : ByteArray := prog_5_method_6_code
def yX3_hasRoomFor : MethodName := ⟨RX3, "hasRoomFor", "(I)Z"⟩
abbrev cX3_addMessage : ByteArray := prog_5_method_7_code
def yX3_addMessage : MethodName := ⟨RX3, "addMessage", "([II)V"⟩
abbrev cX3_maySendNext : ByteArray := prog_5_method_8_code
def yX3_maySendNext : MethodName := ⟨RX3, "maySendNext", "()Z"⟩
abbrev cX3_dropUnsent : ByteArray := prog_5_method_9_code
def yX3_dropUnsent : MethodName := ⟨RX3, "dropUnsent", "()V"⟩
abbrev cX3_readReceipt : ByteArray := prog_5_method_10_code
def yX3_readReceipt : MethodName := ⟨RX3, "readReceipt", "(II)V"⟩
abbrev cX3_isSpent : ByteArray := prog_5_method_11_code
def yX3_isSpent : MethodName := ⟨RX3, "isSpent", "(I)Z"⟩
def RX4 : String := "TransportFour$Piece"
def TX4 : u_T := fun k => match k with
  | 0 => ("TransportFour$Piece", "bytes", "[I", true)
  | 1 => ("TransportFour$Piece", "wait", "LTransportFour$Wait;", true)
  | 2 => ("TransportFour$Piece", "length", "I", false)
  | _ => ("TransportFour$Piece", "last", "Z", false)
def tyX4 : Nat → FieldType := fun k => match k with
  | 0 => .array .int
  | 1 => .object "TransportFour$Wait"
  | 2 => .int
  | _ => .boolean
theorem nmX4 : ∀ a, a < 4 → ∀ b, b < 4 → a ≠ b → (TX4 a).2.1 ≠ (TX4 b).2.1 := by decide +kernel
theorem tyX4_ok : ∀ k, k < 4 → parseFieldDescriptor (TX4 k).2.2.1 = some (tyX4 k) := by decide +kernel
abbrev cX4_init : ByteArray := prog_6_method_1_code
def yX4_init : MethodName := ⟨RX4, "<init>", "()V"⟩
def RX5 : String := "TransportFour$Unit"
def TX5 : u_T := fun k => match k with
  | 0 => ("TransportFour$Unit", "bytes", "[I", true)
  | 1 => ("TransportFour$Unit", "length", "I", false)
  | 2 => ("TransportFour$Unit", "sender", "I", false)
  | 3 => ("TransportFour$Unit", "arrival", "I", false)
  | 4 => ("TransportFour$Unit", "secondArrival", "I", false)
  | 5 => ("TransportFour$Unit", "spoiledPlace", "I", false)
  | _ => ("TransportFour$Unit", "spoilingMask", "I", false)
def tyX5 : Nat → FieldType := fun k => match k with
  | 0 => .array .int
  | 1 => .int
  | 2 => .int
  | 3 => .int
  | 4 => .int
  | 5 => .int
  | _ => .int
theorem nmX5 : ∀ a, a < 7 → ∀ b, b < 7 → a ≠ b → (TX5 a).2.1 ≠ (TX5 b).2.1 := by decide +kernel
theorem tyX5_ok : ∀ k, k < 7 → parseFieldDescriptor (TX5 k).2.2.1 = some (tyX5 k) := by decide +kernel
abbrev cX5_init : ByteArray := prog_7_method_1_code
def yX5_init : MethodName := ⟨RX5, "<init>", "()V"⟩
abbrev cX5_writeLink : ByteArray := prog_7_method_2_code
def yX5_writeLink : MethodName := ⟨RX5, "writeLink", "(IIII)V"⟩
abbrev cX5_writeNumbered : ByteArray := prog_7_method_3_code
def yX5_writeNumbered : MethodName := ⟨RX5, "writeNumbered", "(III)V"⟩
abbrev cX5_writeHead : ByteArray := prog_7_method_4_code
def yX5_writeHead : MethodName := ⟨RX5, "writeHead", "(III)V"⟩
abbrev cX5_add : ByteArray := prog_7_method_5_code
def yX5_add : MethodName := ⟨RX5, "add", "(I)V"⟩
abbrev cX5_plainSum : ByteArray := prog_7_method_6_code
def yX5_plainSum : MethodName := ⟨RX5, "plainSum", "()I"⟩
abbrev cX5_weightedSum : ByteArray := prog_7_method_7_code
def yX5_weightedSum : MethodName := ⟨RX5, "weightedSum", "()I"⟩
abbrev cX5_fillChecks : ByteArray := prog_7_method_8_code
def yX5_fillChecks : MethodName := ⟨RX5, "fillChecks", "(II)V"⟩
abbrev cX5_kind : ByteArray := prog_7_method_9_code
def yX5_kind : MethodName := ⟨RX5, "kind", "()I"⟩
abbrev cX5_headLengthOfKind : ByteArray := prog_7_method_10_code
def yX5_headLengthOfKind : MethodName := ⟨RX5, "headLengthOfKind", "()I"⟩
abbrev cX5_isGood : ByteArray := prog_7_method_11_code
def yX5_isGood : MethodName := ⟨RX5, "isGood", "()Z"⟩
abbrev cX5_hasBodyOfKind : ByteArray := prog_7_method_12_code
def yX5_hasBodyOfKind : MethodName := ⟨RX5, "hasBodyOfKind", "(I)Z"⟩
abbrev cX5_pairAt : ByteArray := prog_7_method_13_code
def yX5_pairAt : MethodName := ⟨RX5, "pairAt", "(I)I"⟩
abbrev cX5_to : ByteArray := prog_7_method_14_code
def yX5_to : MethodName := ⟨RX5, "to", "()I"⟩
abbrev cX5_from : ByteArray := prog_7_method_15_code
def yX5_from : MethodName := ⟨RX5, "from", "()I"⟩
abbrev cX5_credit : ByteArray := prog_7_method_16_code
def yX5_credit : MethodName := ⟨RX5, "credit", "()I"⟩
abbrev cX5_number : ByteArray := prog_7_method_17_code
def yX5_number : MethodName := ⟨RX5, "number", "()I"⟩
abbrev cX5_isLast : ByteArray := prog_7_method_18_code
def yX5_isLast : MethodName := ⟨RX5, "isLast", "()Z"⟩
abbrev cX5_reason : ByteArray := prog_7_method_19_code
def yX5_reason : MethodName := ⟨RX5, "reason", "()I"⟩
def RX6 : String := "TransportFour$UrgentIn"
def TX6 : u_T := fun k => match k with
  | 0 => ("TransportFour$UrgentIn", "ring", "[I", true)
  | 1 => ("TransportFour$UrgentIn", "first", "I", false)
  | 2 => ("TransportFour$UrgentIn", "there", "I", false)
  | _ => ("TransportFour$UrgentIn", "expected", "I", false)
def tyX6 : Nat → FieldType := fun k => match k with
  | 0 => .array .int
  | 1 => .int
  | 2 => .int
  | _ => .int
theorem nmX6 : ∀ a, a < 4 → ∀ b, b < 4 → a ≠ b → (TX6 a).2.1 ≠ (TX6 b).2.1 := by decide +kernel
theorem tyX6_ok : ∀ k, k < 4 → parseFieldDescriptor (TX6 k).2.2.1 = some (tyX6 k) := by decide +kernel
abbrev cX6_init : ByteArray := prog_8_method_1_code
def yX6_init : MethodName := ⟨RX6, "<init>", "()V"⟩
abbrev cX6_clear : ByteArray := prog_8_method_2_code
def yX6_clear : MethodName := ⟨RX6, "clear", "()V"⟩
abbrev cX6_accept : ByteArray := prog_8_method_3_code
def yX6_accept : MethodName := ⟨RX6, "accept", "(II)V"⟩
abbrev cX6_takeByte : ByteArray := prog_8_method_4_code
def yX6_takeByte : MethodName := ⟨RX6, "takeByte", "()I"⟩
def RX7 : String := "TransportFour$UrgentOut"
def TX7 : u_T := fun k => match k with
  | 0 => ("TransportFour$UrgentOut", "bytes", "[I", true)
  | 1 => ("TransportFour$UrgentOut", "wait", "LTransportFour$Wait;", true)
  | 2 => ("TransportFour$UrgentOut", "waiting", "I", false)
  | _ => ("TransportFour$UrgentOut", "number", "I", false)
def tyX7 : Nat → FieldType := fun k => match k with
  | 0 => .array .int
  | 1 => .object "TransportFour$Wait"
  | 2 => .int
  | _ => .int
theorem nmX7 : ∀ a, a < 4 → ∀ b, b < 4 → a ≠ b → (TX7 a).2.1 ≠ (TX7 b).2.1 := by decide +kernel
theorem tyX7_ok : ∀ k, k < 4 → parseFieldDescriptor (TX7 k).2.2.1 = some (tyX7 k) := by decide +kernel
abbrev cX7_init : ByteArray := prog_9_method_1_code
def yX7_init : MethodName := ⟨RX7, "<init>", "()V"⟩
abbrev cX7_clear : ByteArray := prog_9_method_2_code
def yX7_clear : MethodName := ⟨RX7, "clear", "()V"⟩
abbrev cX7_add : ByteArray := prog_9_method_3_code
def yX7_add : MethodName := ⟨RX7, "add", "(I)I"⟩
abbrev cX7_maySendNext : ByteArray := prog_9_method_4_code
def yX7_maySendNext : MethodName := ⟨RX7, "maySendNext", "()Z"⟩
abbrev cX7_dropUnsent : ByteArray := prog_9_method_5_code
def yX7_dropUnsent : MethodName := ⟨RX7, "dropUnsent", "()V"⟩
abbrev cX7_readReceipt : ByteArray := prog_9_method_6_code
def yX7_readReceipt : MethodName := ⟨RX7, "readReceipt", "(I)V"⟩
def RX8 : String := "TransportFour$Wait"
def TX8 : u_T := fun k => match k with
  | 0 => ("TransportFour$Wait", "times", "I", false)
  | _ => ("TransportFour$Wait", "latest", "I", false)
def tyX8 : Nat → FieldType := fun k => match k with
  | 0 => .int
  | _ => .int
theorem nmX8 : ∀ a, a < 2 → ∀ b, b < 2 → a ≠ b → (TX8 a).2.1 ≠ (TX8 b).2.1 := by decide +kernel
theorem tyX8_ok : ∀ k, k < 2 → parseFieldDescriptor (TX8 k).2.2.1 = some (tyX8 k) := by decide +kernel
abbrev cX8_init : ByteArray := prog_10_method_1_code
def yX8_init : MethodName := ⟨RX8, "<init>", "()V"⟩
abbrev cX8_clear : ByteArray := prog_10_method_2_code
def yX8_clear : MethodName := ⟨RX8, "clear", "()V"⟩
abbrev cX8_count : ByteArray := prog_10_method_3_code
def yX8_count : MethodName := ⟨RX8, "count", "(I)V"⟩
abbrev cX8_isOver : ByteArray := prog_10_method_4_code
def yX8_isOver : MethodName := ⟨RX8, "isOver", "(I)Z"⟩
abbrev cX8_isDueAgain : ByteArray := prog_10_method_5_code
def yX8_isDueAgain : MethodName := ⟨RX8, "isDueAgain", "(I)Z"⟩
abbrev cX8_isSpent : ByteArray := prog_10_method_6_code
def yX8_isSpent : MethodName := ⟨RX8, "isSpent", "(I)Z"⟩
def RX9 : String := "TransportFour"
def TX9 : u_T := fun k => match k with
  | 0 => ("TransportFour", "net", "LTransportFour$Net;", true)
  | 1 => ("TransportFour", "ends", "[LTransportFour$End;", true)
  | 2 => ("TransportFour", "tape", "[I", true)
  | _ => ("TransportFour", "tapeLength", "I", false)
def tyX9 : Nat → FieldType := fun k => match k with
  | 0 => .object "TransportFour$Net"
  | 1 => .array (.object "TransportFour$End")
  | 2 => .array .int
  | _ => .int
theorem nmX9 : ∀ a, a < 4 → ∀ b, b < 4 → a ≠ b → (TX9 a).2.1 ≠ (TX9 b).2.1 := by decide +kernel
theorem tyX9_ok : ∀ k, k < 4 → parseFieldDescriptor (TX9 k).2.2.1 = some (tyX9 k) := by decide +kernel
abbrev cX9_init : ByteArray := prog_1_method_1_code
def yX9_init : MethodName := ⟨RX9, "<init>", "()V"⟩
abbrev cX9_call : ByteArray := prog_1_method_2_code
def yX9_call : MethodName := ⟨RX9, "call", "(I)I"⟩
abbrev cX9_type : ByteArray := prog_1_method_3_code
def yX9_type : MethodName := ⟨RX9, "type", "(JI)I"⟩
abbrev cX9_send : ByteArray := prog_1_method_4_code
def yX9_send : MethodName := ⟨RX9, "send", "(I)I"⟩
abbrev cX9_urge : ByteArray := prog_1_method_5_code
def yX9_urge : MethodName := ⟨RX9, "urge", "(II)I"⟩
abbrev cX9_end : ByteArray := prog_1_method_6_code
def yX9_end : MethodName := ⟨RX9, "end", "(I)I"⟩
abbrev cX9_take : ByteArray := prog_1_method_7_code
def yX9_take : MethodName := ⟨RX9, "take", "(I)I"⟩
abbrev cX9_read : ByteArray := prog_1_method_8_code
def yX9_read : MethodName := ⟨RX9, "read", "(II)I"⟩
abbrev cX9_urgent : ByteArray := prog_1_method_9_code
def yX9_urgent : MethodName := ⟨RX9, "urgent", "(I)I"⟩
abbrev cX9_fault : ByteArray := prog_1_method_10_code
def yX9_fault : MethodName := ⟨RX9, "fault", "(IIII)I"⟩
abbrev cX9_tick : ByteArray := prog_1_method_11_code
def yX9_tick : MethodName := ⟨RX9, "tick", "(I)I"⟩
abbrev cX9_told : ByteArray := prog_1_method_12_code
def yX9_told : MethodName := ⟨RX9, "told", "(II)I"⟩
abbrev cX9_sent : ByteArray := prog_1_method_13_code
def yX9_sent : MethodName := ⟨RX9, "sent", "()I"⟩
abbrev cX9_byteOf : ByteArray := prog_1_method_14_code
def yX9_byteOf : MethodName := ⟨RX9, "byteOf", "(II)I"⟩
abbrev cX9_clock : ByteArray := prog_1_method_15_code
def yX9_clock : MethodName := ⟨RX9, "clock", "()I"⟩
abbrev cX9_isNoEnd : ByteArray := prog_1_method_16_code
def yX9_isNoEnd : MethodName := ⟨RX9, "isNoEnd", "(I)Z"⟩
abbrev cX9_deliver : ByteArray := prog_1_method_17_code
def yX9_deliver : MethodName := ⟨RX9, "deliver", "(Z)V"⟩
def RX10 : String := "TransportFourModel"
def TX10 : u_T := fun k => match k with
  | 0 => ("TransportFourModel", "now", "I", false)
  | 1 => ("TransportFourModel", "state", "[I", true)
  | 2 => ("TransportFourModel", "reference", "[I", true)
  | 3 => ("TransportFourModel", "peer", "[I", true)
  | 4 => ("TransportFourModel", "answered", "[Z", true)
  | 5 => ("TransportFourModel", "reason", "[I", true)
  | 6 => ("TransportFourModel", "frozen", "[I", true)
  | 7 => ("TransportFourModel", "lastSent", "[I", true)
  | 8 => ("TransportFourModel", "lastHeard", "[I", true)
  | 9 => ("TransportFourModel", "waitTimes", "[I", true)
  | 10 => ("TransportFourModel", "waitLatest", "[I", true)
  | 11 => ("TransportFourModel", "waitUnit", "[I", true)
  | 12 => ("TransportFourModel", "waitBytes", "[I", true)
  | 13 => ("TransportFourModel", "waitSize", "[I", true)
  | 14 => ("TransportFourModel", "queued", "[I", true)
  | 15 => ("TransportFourModel", "flying", "[I", true)
  | 16 => ("TransportFourModel", "pieceSize", "[I", true)
  | 17 => ("TransportFourModel", "pieceLast", "[Z", true)
  | 18 => ("TransportFourModel", "pieceNumber", "[I", true)
  | 19 => ("TransportFourModel", "pieceTimes", "[I", true)
  | 20 => ("TransportFourModel", "pieceLatest", "[I", true)
  | 21 => ("TransportFourModel", "pieceBytes", "[I", true)
  | 22 => ("TransportFourModel", "nextNumber", "[I", true)
  | 23 => ("TransportFourModel", "peerExpects", "[I", true)
  | 24 => ("TransportFourModel", "allowed", "[I", true)
  | 25 => ("TransportFourModel", "urging", "[I", true)
  | 26 => ("TransportFourModel", "urges", "[I", true)
  | 27 => ("TransportFourModel", "urgeNumber", "[I", true)
  | 28 => ("TransportFourModel", "urgeTimes", "[I", true)
  | 29 => ("TransportFourModel", "urgeLatest", "[I", true)
  | 30 => ("TransportFourModel", "expected", "[I", true)
  | 31 => ("TransportFourModel", "urgentExpected", "[I", true)
  | 32 => ("TransportFourModel", "keptSize", "[I", true)
  | 33 => ("TransportFourModel", "keptLast", "[Z", true)
  | 34 => ("TransportFourModel", "keptBytes", "[I", true)
  | 35 => ("TransportFourModel", "partSize", "[I", true)
  | 36 => ("TransportFourModel", "partUnits", "[I", true)
  | 37 => ("TransportFourModel", "part", "[I", true)
  | 38 => ("TransportFourModel", "messages", "[I", true)
  | 39 => ("TransportFourModel", "messageSize", "[I", true)
  | 40 => ("TransportFourModel", "messageUnits", "[I", true)
  | 41 => ("TransportFourModel", "store", "[I", true)
  | 42 => ("TransportFourModel", "stored", "[I", true)
  | 43 => ("TransportFourModel", "takenSize", "[I", true)
  | 44 => ("TransportFourModel", "taken", "[I", true)
  | 45 => ("TransportFourModel", "urgents", "[I", true)
  | 46 => ("TransportFourModel", "urgentBytes", "[I", true)
  | 47 => ("TransportFourModel", "tape", "[I", true)
  | 48 => ("TransportFourModel", "length", "I", false)
  | 49 => ("TransportFourModel", "faults", "I", false)
  | 50 => ("TransportFourModel", "faultKind", "[I", true)
  | 51 => ("TransportFourModel", "faultNumber", "[I", true)
  | 52 => ("TransportFourModel", "faultPlace", "[I", true)
  | 53 => ("TransportFourModel", "faultMask", "[I", true)
  | 54 => ("TransportFourModel", "sentCount", "I", false)
  | 55 => ("TransportFourModel", "oldest", "I", false)
  | 56 => ("TransportFourModel", "units", "[I", true)
  | 57 => ("TransportFourModel", "unitSize", "[I", true)
  | 58 => ("TransportFourModel", "unitTo", "[I", true)
  | 59 => ("TransportFourModel", "unitTime", "[I", true)
  | 60 => ("TransportFourModel", "arrived", "[I", true)
  | 61 => ("TransportFourModel", "arrivedSize", "I", false)
  | 62 => ("TransportFourModel", "made", "[I", true)
  | _ => ("TransportFourModel", "madeSize", "I", false)
def tyX10 : Nat → FieldType := fun k => match k with
  | 0 => .int
  | 1 => .array .int
  | 2 => .array .int
  | 3 => .array .int
  | 4 => .array .boolean
  | 5 => .array .int
  | 6 => .array .int
  | 7 => .array .int
  | 8 => .array .int
  | 9 => .array .int
  | 10 => .array .int
  | 11 => .array .int
  | 12 => .array .int
  | 13 => .array .int
  | 14 => .array .int
  | 15 => .array .int
  | 16 => .array .int
  | 17 => .array .boolean
  | 18 => .array .int
  | 19 => .array .int
  | 20 => .array .int
  | 21 => .array .int
  | 22 => .array .int
  | 23 => .array .int
  | 24 => .array .int
  | 25 => .array .int
  | 26 => .array .int
  | 27 => .array .int
  | 28 => .array .int
  | 29 => .array .int
  | 30 => .array .int
  | 31 => .array .int
  | 32 => .array .int
  | 33 => .array .boolean
  | 34 => .array .int
  | 35 => .array .int
  | 36 => .array .int
  | 37 => .array .int
  | 38 => .array .int
  | 39 => .array .int
  | 40 => .array .int
  | 41 => .array .int
  | 42 => .array .int
  | 43 => .array .int
  | 44 => .array .int
  | 45 => .array .int
  | 46 => .array .int
  | 47 => .array .int
  | 48 => .int
  | 49 => .int
  | 50 => .array .int
  | 51 => .array .int
  | 52 => .array .int
  | 53 => .array .int
  | 54 => .int
  | 55 => .int
  | 56 => .array .int
  | 57 => .array .int
  | 58 => .array .int
  | 59 => .array .int
  | 60 => .array .int
  | 61 => .int
  | 62 => .array .int
  | _ => .int
theorem nmX10 : ∀ a, a < 64 → ∀ b, b < 64 → a ≠ b → (TX10 a).2.1 ≠ (TX10 b).2.1 := by decide +kernel
theorem tyX10_ok : ∀ k, k < 64 → parseFieldDescriptor (TX10 k).2.2.1 = some (tyX10 k) := by decide +kernel
abbrev cX10_init : ByteArray := prog_12_method_1_code
def yX10_init : MethodName := ⟨RX10, "<init>", "()V"⟩
abbrev cX10_isEnd : ByteArray := prog_12_method_3_code
def yX10_isEnd : MethodName := ⟨RX10, "isEnd", "(I)Z"⟩
abbrev cX10_mod : ByteArray := prog_12_method_4_code
def yX10_mod : MethodName := ⟨RX10, "mod", "(I)I"⟩
abbrev cX10_begin : ByteArray := prog_12_method_5_code
def yX10_begin : MethodName := ⟨RX10, "begin", "(II)V"⟩
abbrev cX10_push : ByteArray := prog_12_method_6_code
def yX10_push : MethodName := ⟨RX10, "push", "(I)V"⟩
abbrev cX10_endHead : ByteArray := prog_12_method_7_code
def yX10_endHead : MethodName := ⟨RX10, "endHead", "()V"⟩
abbrev cX10_mod255 : ByteArray := prog_12_method_8_code
def yX10_mod255 : MethodName := ⟨RX10, "mod255", "(I)I"⟩
abbrev cX10_check : ByteArray := prog_12_method_9_code
def yX10_check : MethodName := ⟨RX10, "check", "()V"⟩
abbrev cX10_sendMade : ByteArray := prog_12_method_10_code
def yX10_sendMade : MethodName := ⟨RX10, "sendMade", "(I)V"⟩
abbrev cX10_sendCode : ByteArray := prog_12_method_11_code
def yX10_sendCode : MethodName := ⟨RX10, "sendCode", "(IIIII)V"⟩
abbrev cX10_sendNumber : ByteArray := prog_12_method_12_code
def yX10_sendNumber : MethodName := ⟨RX10, "sendNumber", "(III)V"⟩
abbrev cX10_credit : ByteArray := prog_12_method_13_code
def yX10_credit : MethodName := ⟨RX10, "credit", "(I)I"⟩
abbrev cX10_sendReceipt : ByteArray := prog_12_method_14_code
def yX10_sendReceipt : MethodName := ⟨RX10, "sendReceipt", "(I)V"⟩
abbrev cX10_wait : ByteArray := prog_12_method_15_code
def yX10_wait : MethodName := ⟨RX10, "wait", "(I)V"⟩
abbrev cX10_sendPiece : ByteArray := prog_12_method_16_code
def yX10_sendPiece : MethodName := ⟨RX10, "sendPiece", "(II)V"⟩
abbrev cX10_sendUrge : ByteArray := prog_12_method_17_code
def yX10_sendUrge : MethodName := ⟨RX10, "sendUrge", "(I)V"⟩
abbrev cX10_goOn : ByteArray := prog_12_method_18_code
def yX10_goOn : MethodName := ⟨RX10, "goOn", "(I)V"⟩
abbrev cX10_fresh : ByteArray := prog_12_method_19_code
def yX10_fresh : MethodName := ⟨RX10, "fresh", "(I)V"⟩
abbrev cX10_call : ByteArray := prog_12_method_20_code
def yX10_call : MethodName := ⟨RX10, "call", "(I)I"⟩
abbrev cX10_setReason : ByteArray := prog_12_method_21_code
def yX10_setReason : MethodName := ⟨RX10, "setReason", "(II)V"⟩
abbrev cX10_freeze : ByteArray := prog_12_method_22_code
def yX10_freeze : MethodName := ⟨RX10, "freeze", "(I)V"⟩
abbrev cX10_giveUp : ByteArray := prog_12_method_23_code
def yX10_giveUp : MethodName := ⟨RX10, "giveUp", "(I)V"⟩
abbrev cX10_end : ByteArray := prog_12_method_24_code
def yX10_end : MethodName := ⟨RX10, "end", "(I)I"⟩
abbrev cX10_type : ByteArray := prog_12_method_25_code
def yX10_type : MethodName := ⟨RX10, "type", "(JI)I"⟩
abbrev cX10_send : ByteArray := prog_12_method_26_code
def yX10_send : MethodName := ⟨RX10, "send", "(I)I"⟩
abbrev cX10_urge : ByteArray := prog_12_method_27_code
def yX10_urge : MethodName := ⟨RX10, "urge", "(II)I"⟩
abbrev cX10_two : ByteArray := prog_12_method_28_code
def yX10_two : MethodName := ⟨RX10, "two", "(I)I"⟩
abbrev cX10_codeOf : ByteArray := prog_12_method_29_code
def yX10_codeOf : MethodName := ⟨RX10, "codeOf", "(I)I"⟩
abbrev cX10_headOf : ByteArray := prog_12_method_30_code
def yX10_headOf : MethodName := ⟨RX10, "headOf", "(I)I"⟩
abbrev cX10_isGood : ByteArray := prog_12_method_31_code
def yX10_isGood : MethodName := ⟨RX10, "isGood", "()Z"⟩
abbrev cX10_arriveCall : ByteArray := prog_12_method_32_code
def yX10_arriveCall : MethodName := ⟨RX10, "arriveCall", "(I)V"⟩
abbrev cX10_arriveAnswer : ByteArray := prog_12_method_33_code
def yX10_arriveAnswer : MethodName := ⟨RX10, "arriveAnswer", "(I)V"⟩
abbrev cX10_arriveReceipt : ByteArray := prog_12_method_34_code
def yX10_arriveReceipt : MethodName := ⟨RX10, "arriveReceipt", "(I)V"⟩
abbrev cX10_putBehind : ByteArray := prog_12_method_35_code
def yX10_putBehind : MethodName := ⟨RX10, "putBehind", "(I)V"⟩
abbrev cX10_arriveData : ByteArray := prog_12_method_36_code
def yX10_arriveData : MethodName := ⟨RX10, "arriveData", "(I)V"⟩
abbrev cX10_arriveUrgent : ByteArray := prog_12_method_37_code
def yX10_arriveUrgent : MethodName := ⟨RX10, "arriveUrgent", "(I)V"⟩
abbrev cX10_arriveUrgentReceipt : ByteArray := prog_12_method_38_code
def yX10_arriveUrgentReceipt : MethodName := ⟨RX10, "arriveUrgentReceipt", "(I)V"⟩
abbrev cX10_arriveEnd : ByteArray := prog_12_method_39_code
def yX10_arriveEnd : MethodName := ⟨RX10, "arriveEnd", "(I)V"⟩
abbrev cX10_arrive : ByteArray := prog_12_method_40_code
def yX10_arrive : MethodName := ⟨RX10, "arrive", "(I)V"⟩
abbrev cX10_hasFault : ByteArray := prog_12_method_41_code
def yX10_hasFault : MethodName := ⟨RX10, "hasFault", "(II)Z"⟩
abbrev cX10_carry : ByteArray := prog_12_method_42_code
def yX10_carry : MethodName := ⟨RX10, "carry", "(I)V"⟩
abbrev cX10_arriveAll : ByteArray := prog_12_method_43_code
def yX10_arriveAll : MethodName := ⟨RX10, "arriveAll", "()V"⟩
abbrev cX10_isDue : ByteArray := prog_12_method_44_code
def yX10_isDue : MethodName := ⟨RX10, "isDue", "(III)Z"⟩
abbrev cX10_resend : ByteArray := prog_12_method_45_code
def yX10_resend : MethodName := ⟨RX10, "resend", "(I)V"⟩
abbrev cX10_step : ByteArray := prog_12_method_46_code
def yX10_step : MethodName := ⟨RX10, "step", "(I)V"⟩
abbrev cX10_tick : ByteArray := prog_12_method_47_code
def yX10_tick : MethodName := ⟨RX10, "tick", "(I)I"⟩
abbrev cX10_fault : ByteArray := prog_12_method_48_code
def yX10_fault : MethodName := ⟨RX10, "fault", "(IIII)I"⟩
abbrev cX10_take : ByteArray := prog_12_method_49_code
def yX10_take : MethodName := ⟨RX10, "take", "(I)I"⟩
abbrev cX10_read : ByteArray := prog_12_method_50_code
def yX10_read : MethodName := ⟨RX10, "read", "(II)I"⟩
abbrev cX10_urgent : ByteArray := prog_12_method_51_code
def yX10_urgent : MethodName := ⟨RX10, "urgent", "(I)I"⟩
abbrev cX10_told : ByteArray := prog_12_method_52_code
def yX10_told : MethodName := ⟨RX10, "told", "(II)I"⟩
abbrev cX10_sent : ByteArray := prog_12_method_53_code
def yX10_sent : MethodName := ⟨RX10, "sent", "()I"⟩
abbrev cX10_byteOf : ByteArray := prog_12_method_54_code
def yX10_byteOf : MethodName := ⟨RX10, "byteOf", "(II)I"⟩
abbrev cX10_clock : ByteArray := prog_12_method_55_code
def yX10_clock : MethodName := ⟨RX10, "clock", "()I"⟩
def RJ9 : String := "java/lang/Math"
def TJ9 : u_T := fun k => match k with
  | _ => ("", "", "", false)
def tyJ9 : Nat → FieldType := fun k => match k with
  | _ => .int
theorem nmJ9 : ∀ a, a < 0 → ∀ b, b < 0 → a ≠ b → (TJ9 a).2.1 ≠ (TJ9 b).2.1 := by decide +kernel
theorem tyJ9_ok : ∀ k, k < 0 → parseFieldDescriptor (TJ9 k).2.2.1 = some (tyJ9 k) := by decide +kernel
abbrev cJ9_max_7cf53 : ByteArray := prog_13_method_65_code
def yJ9_max_7cf53 : MethodName := ⟨RJ9, "max", "(II)I"⟩
abbrev cJ9_min_7cf53 : ByteArray := prog_13_method_69_code
def yJ9_min_7cf53 : MethodName := ⟨RJ9, "min", "(II)I"⟩
def RJ10 : String := "java/lang/System"
def TJ10 : u_T := fun k => match k with
  | _ => ("", "", "", false)
def tyJ10 : Nat → FieldType := fun k => match k with
  | _ => .int
theorem nmJ10 : ∀ a, a < 0 → ∀ b, b < 0 → a ≠ b → (TJ10 a).2.1 ≠ (TJ10 b).2.1 := by decide +kernel
theorem tyJ10_ok : ∀ k, k < 0 → parseFieldDescriptor (TJ10 k).2.2.1 = some (tyJ10 k) := by decide +kernel
def RL : String := "TransportFourLaw"
abbrev cL_law : ByteArray := code
def yL_law : MethodName := ⟨RL, "law", "([I)Z"⟩
abbrev vwCl : List vw_C := [(RX0, TX0, 15), (RX1, TX1, 15), (RX2, TX2, 11), (RX3, TX3, 6), (RX4, TX4, 4), (RX5, TX5, 7), (RX6, TX6, 4), (RX7, TX7, 4), (RX8, TX8, 2), (RX9, TX9, 4), (RX10, TX10, 64)]
/-- the words that every method takes along: those of the tables that stay whatever is warmed -/
def TB : List Cond := lw_tbl.filter goodWord
theorem mB {w : Cond} (h : w ∈ lw_tbl) (hg : goodWord w = true) : w ∈ TB := List.mem_filter.mpr ⟨h, hg⟩
theorem TB_in {w : Cond} (h : w ∈ TB) : w ∈ lw_tbl := (List.mem_filter.mp h).1
theorem TB_good {w : Cond} (h : w ∈ TB) : (w.onTables && w.keeps) = true ∨ ∃ ty, w = .arrayClass ty := good_of_word (List.mem_filter.mp h).2
theorem mT0 {w : Cond} (h : w ∈ tables_1) : w ∈ lw_tbl := List.mem_append_right _ h
theorem mT1 {w : Cond} (h : w ∈ tables_1_1) : w ∈ lw_tbl := mT0 (List.mem_append_left _ h)
theorem mT2 {w : Cond} (h : w ∈ tables_1_2) : w ∈ lw_tbl := mT0 (List.mem_append_right _ (List.mem_append_left _ h))
theorem mT3 {w : Cond} (h : w ∈ tables_1_3) : w ∈ lw_tbl := mT0 (List.mem_append_right _ (List.mem_append_right _ (List.mem_append_left _ h)))
theorem mT4 {w : Cond} (h : w ∈ tables_1_4) : w ∈ lw_tbl := mT0 (List.mem_append_right _ (List.mem_append_right _ (List.mem_append_right _ (List.mem_append_left _ h))))
theorem mT5 {w : Cond} (h : w ∈ tables_1_5) : w ∈ lw_tbl := mT0 (List.mem_append_right _ (List.mem_append_right _ (List.mem_append_right _ (List.mem_append_right _ (h)))))
theorem mP {w : Cond} (h : w ∈ k2_sels lw_privs) : w ∈ lw_tbl := List.mem_append_left _ h
