
set_option maxHeartbeats 1000000 in
theorem s_X0_beginConnection {n : Int32} {w v : VV} (J0 : Jc n w v) (o : Nat) (ho : isO 0 o) (p1 : Int32) (p2 : Int32)   {Q : VV → Prop} (k : ∀ v1 : VV, Jc n w v1 → Q v1) : w_X0_beginConnection o p1 p2 v Q := by
  have lm1 : Int32.toInt (-1) = -1 := by decide
  have l0 : Int32.toInt 0 = 0 := by decide
  have l1 : Int32.toInt 1 = 1 := by decide
  have l2 : Int32.toInt 2 = 2 := by decide
  have l65535 : Int32.toInt 65535 = 65535 := by decide
  unfold w_X0_beginConnection
  refine s_X3_clear J0 (o + 1) (ch0_2 ho).2  (fun v1 J1 => ?_)
  refine s_X1_clear J1 (o + 123) (ch0_3 ho).2  (fun v2 J2 => ?_)
  refine s_X7_clear J2 (o + 140) (ch0_4 ho).2  (fun v3 J3 => ?_)
  refine s_X6_clear J3 (o + 143) (ch0_5 ho).2  (fun v4 J4 => ?_)
  intro x30 ex30
  refine ⟨fun c35 => ?_, fun c35 => ?_⟩
  · have ic35 := i_ne c35
    intro x43 ex43
    intro x47 ex47
    unfold b_X0_beginConnection_48
    intro v5 hv5
    have J5 : Jc n w v5 := by rw [hv5]; exact J4.free ho (ho.l (by decide)) (by decide) (sp_o ho (by decide)) (by decide)
    intro v6 hv6
    have J6 : Jc n w v6 := by rw [hv6]; exact J5.free ho (ho.l (by decide)) (by decide) (sp_o ho (by decide)) (by decide)
    intro v7 hv7
    have J7 : Jc n w v7 := by rw [hv7]; exact J6.free ho (ho.l (by decide)) (by decide) (sp_o ho (by decide)) (by decide)
    refine ⟨fun c64 => ?_, fun c64 => ?_⟩
    · have ic64 := i_ne c64
      unfold b_X0_beginConnection_72
      refine ⟨by decide, ?_⟩
      intro v8 hv8
      have J8 : Jc n w v8 := by rw [hv8]; exact J7.free ho (ho.l (by decide)) (by decide) (sp_o ho (by decide)) (by decide)
      intro x80 ex80
      intro v9 hv9
      have J9 : Jc n w v9 := by rw [hv9]; exact J8.free ho (ho.l (by decide)) (by decide) (sp_o ho (by decide)) (by decide)
      intro v10 hv10
      have J10 : Jc n w v10 := by rw [hv10]; exact J9.free ho (ho.l (by decide)) (by decide) (sp_o ho (by decide)) (by decide)
      exact k  v10 J10  
    · have ic64 := i_eq c64
      unfold b_X0_beginConnection_72
      refine ⟨by decide, ?_⟩
      intro v11 hv11
      have J11 : Jc n w v11 := by rw [hv11]; exact J7.free ho (ho.l (by decide)) (by decide) (sp_o ho (by decide)) (by decide)
      intro x80 ex80
      intro v12 hv12
      have J12 : Jc n w v12 := by rw [hv12]; exact J11.free ho (ho.l (by decide)) (by decide) (sp_o ho (by decide)) (by decide)
      intro v13 hv13
      have J13 : Jc n w v13 := by rw [hv13]; exact J12.free ho (ho.l (by decide)) (by decide) (sp_o ho (by decide)) (by decide)
      exact k  v13 J13  
  · have ic35 := i_eq c35
    unfold b_X0_beginConnection_48
    intro v14 hv14
    have J14 : Jc n w v14 := by rw [hv14]; exact J4.free ho (ho.l (by decide)) (by decide) (sp_o ho (by decide)) (by decide)
    intro v15 hv15
    have J15 : Jc n w v15 := by rw [hv15]; exact J14.free ho (ho.l (by decide)) (by decide) (sp_o ho (by decide)) (by decide)
    intro v16 hv16
    have J16 : Jc n w v16 := by rw [hv16]; exact J15.free ho (ho.l (by decide)) (by decide) (sp_o ho (by decide)) (by decide)
    refine ⟨fun c64 => ?_, fun c64 => ?_⟩
    · have ic64 := i_ne c64
      unfold b_X0_beginConnection_72
      refine ⟨by decide, ?_⟩
      intro v17 hv17
      have J17 : Jc n w v17 := by rw [hv17]; exact J16.free ho (ho.l (by decide)) (by decide) (sp_o ho (by decide)) (by decide)
      intro x80 ex80
      intro v18 hv18
      have J18 : Jc n w v18 := by rw [hv18]; exact J17.free ho (ho.l (by decide)) (by decide) (sp_o ho (by decide)) (by decide)
      intro v19 hv19
      have J19 : Jc n w v19 := by rw [hv19]; exact J18.free ho (ho.l (by decide)) (by decide) (sp_o ho (by decide)) (by decide)
      exact k  v19 J19  
    · have ic64 := i_eq c64
      unfold b_X0_beginConnection_72
      refine ⟨by decide, ?_⟩
      intro v20 hv20
      have J20 : Jc n w v20 := by rw [hv20]; exact J16.free ho (ho.l (by decide)) (by decide) (sp_o ho (by decide)) (by decide)
      intro x80 ex80
      intro v21 hv21
      have J21 : Jc n w v21 := by rw [hv21]; exact J20.free ho (ho.l (by decide)) (by decide) (sp_o ho (by decide)) (by decide)
      intro v22 hv22
      have J22 : Jc n w v22 := by rw [hv22]; exact J21.free ho (ho.l (by decide)) (by decide) (sp_o ho (by decide)) (by decide)
      exact k  v22 J22  
set_option maxHeartbeats 1000000 in
theorem s_X0_awaitLink {n : Int32} {w v : VV} (J0 : Jc n w v) (o : Nat) (ho : isO 0 o) (p1 : Int32)   {Q : VV → Prop} (k : ∀ v1 : VV, Jc n w v1 → (∀ a, a < 522 → v1 a = v a) → Q v1) : w_X0_awaitLink o p1 v Q := by
  have l0 : Int32.toInt 0 = 0 := by decide
  have l1 : Int32.toInt 1 = 1 := by decide
  unfold w_X0_awaitLink
  intro v1 hv1
  have J1 : Jc n w v1 := by rw [hv1]; exact J0.free ho (ho.l (by decide)) (by decide) (sp_o ho (by decide)) (by decide)
  refine s_X8_clear J1 (o + 145) (ch0_6 ho).2  (fun v2 J2 r9 => ?_)
  exact k  v2 J2  (fun a ha => by rw [r9, up2_of _ _ _ _ (by have := w_ge (ch0_6 ho).2; omega), hv1, up2_of _ _ _ _ (by have := e_ge ho; omega)])
set_option maxHeartbeats 1000000 in
theorem s_X0_endWaitOf {n : Int32} {w v : VV} (J0 : Jc n w v) (o : Nat) (ho : isO 0 o) (p1 : Int32)   {Q : VV → Prop} (k : ∀ v1 : VV, Jc n w v1 → (∀ a, a < 522 → v1 a = v a) → Q v1) : w_X0_endWaitOf o p1 v Q := by
  have l0 : Int32.toInt 0 = 0 := by decide
  have l1 : Int32.toInt 1 = 1 := by decide
  unfold w_X0_endWaitOf
  intro x1 ex1
  refine ⟨fun c5 => ?_, fun c5 => ?_⟩
  · have ic5 := i_ne c5
    exact k  v J0  (by first | exact r10 | exact fun a ha => rfl)
  · have ic5 := i_eq c5
    refine s_X0_awaitLink J0 o ho 0  (fun v1 J1 r10 => ?_)
    exact k  v1 J1  (by first | exact r10 | exact fun a ha => rfl)
set_option maxHeartbeats 1000000 in
theorem s_X0_sendLink {n : Int32} {w v : VV} (J0 : Jc n w v) (o : Nat) (ho : isO 0 o) (p1 : Int32) (p2 : Int32) (p3 : Int32) (p4 : Int32)   {Q : VV → Prop} (k : ∀ v1 : VV, Jc n w v1 → Q v1) : w_X0_sendLink o p1 p2 p3 p4 v Q := by
  have l0 : Int32.toInt 0 = 0 := by decide
  have l1 : Int32.toInt 1 = 1 := by decide
  unfold w_X0_sendLink
  refine s_X2_nextUnit J0   (fun t4 r4 => ?_)
  refine ⟨r4.1, ?_⟩
  have qt4 : isO 5 t4 := r4.1
  refine s_X5_writeLink J0 t4 qt4 p1 p2 p3 p4  (fun v2 J1 f12 => ?_)
  intro x20 ex20
  have bx20 := g0_0 J1 ho
  rw [← ex20] at bx20
  have bx20 := zb_i bx20
  refine s_X2_dispatch J1 x20 (by have q := g0_0 J1 ho; rw [← ex20] at q; exact q) (fun v3 J2 f23 => ?_)
  exact k  v3 J2  
set_option maxHeartbeats 1000000 in
theorem s_X0_sendAwaitedLink {n : Int32} {w v : VV} (J0 : Jc n w v) (o : Nat) (ho : isO 0 o)   {Q : VV → Prop} (k : ∀ v1 : VV, Jc n w v1 → Q v1) : w_X0_sendAwaitedLink o v Q := by
  have l0 : Int32.toInt 0 = 0 := by decide
  have l1 : Int32.toInt 1 = 1 := by decide
  have l64 : Int32.toInt 64 = 64 := by decide
  have l128 : Int32.toInt 128 = 128 := by decide
  unfold w_X0_sendAwaitedLink
  intro x8 ex8
  refine s_X8_count J0 (o + 145) (ch0_6 ho).2 x8  (fun v1 J1 f11 => ?_)
  intro x16 ex16
  intro x20 ex20
  intro x24 ex24
  intro x28 ex28
  refine ⟨fun c34 => ?_, fun c34 => ?_⟩
  · have ic34 := i_ne c34
    unfold b_X0_sendAwaitedLink_43
    refine s_X0_sendLink J1 o ho x16 x20 x24 64  (fun v2 J2 => ?_)
    exact k  v2 J2  
  · have ic34 := i_eq c34
    unfold b_X0_sendAwaitedLink_43
    refine s_X0_sendLink J1 o ho x16 x20 x24 0  (fun v3 J3 => ?_)
    exact k  v3 J3  
set_option maxHeartbeats 1000000 in
theorem s_X0_callPeer {n : Int32} {w v : VV} (J0 : Jc n w v) (o : Nat) (ho : isO 0 o)   {Q : Int32 → VV → Prop} (k : ∀ (x : Int32) (v1 : VV), Jc n w v1 → Q x v1) : w_X0_callPeer o v Q := by
  have lm2 : Int32.toInt (-2) = -2 := by decide
  have l0 : Int32.toInt 0 = 0 := by decide
  have l1 : Int32.toInt 1 = 1 := by decide
  have l230 : Int32.toInt 230 = 230 := by decide
  unfold w_X0_callPeer
  intro x1 ex1
  refine ⟨fun c4 => ?_, fun c4 => ?_⟩
  · have ic4 := i_eq c4
    refine s_X0_beginConnection J0 o ho 1 0  (fun v1 J1 => ?_)
    refine s_X0_awaitLink J1 o ho 230  (fun v2 J2 r20 => ?_)
    refine s_X0_sendAwaitedLink J2 o ho  (fun v3 J3 => ?_)
    intro x28 ex28
    exact k x28 v3 J3  
  · have ic4 := i_ne c4
    exact k ((-2)) v J0  
set_option maxHeartbeats 1000000 in
theorem sl_X0_sendPiece_58 {n : Int32} {w : VV} (o : Nat) (ho : isO 0 o) (p1 : Int32) {v0 : VV}  {Q : VV → Prop} (k : ∀ v1 : VV, Jc n w v1 → FrW v0 v1 → Q v1) : ∀ (m : Nat) (a1 : Int32) (a2 : Nat) (ha2 : isO 4 a2) (a3 : Int32) (a4 : Nat) (ha4 : isO 5 a4) (a5 : Int32) (v : VV), Jc n w v → FrW v0 v → 0 ≤ a5.toInt ∧ a5.toInt ≤ 8 → 8 - a5.toInt < (m : Int) → b_X0_sendPiece_58 o p1 Q  m a1 a2 a3 a4 a5 v := by
  have l0 : Int32.toInt 0 = 0 := by decide
  have l1 : Int32.toInt 1 = 1 := by decide
  have l128 : Int32.toInt 128 = 128 := by decide
  have l240 : Int32.toInt 240 = 240 := by decide
  intro m
  induction m with
  | zero =>
    intro a1 a2 ha2 a3 a4 ha4 a5 v J0 F0 h1 hm
    exfalso
    omega
  | succ m ih =>
    intro a1 a2 ha2 a3 a4 ha4 a5 v J0 F0 h1 hm
    intro x61 ex61
    have bx61 := g4_2 J0 ha2
    rw [← ex61] at bx61
    refine ⟨fun c64 => ?_, fun c64 => ?_⟩
    · have ic64 := i_le c64
      intro x93 ex93
      refine s_X8_count J0 (a2 + 2) (ch4_1 ha2).2 x93  (fun v1 J1 f96 => ?_)
      have F1 : FrW v0 v1 := F0.tr f96
      intro x104 ex104
      have bx104 := g0_0 J1 ho
      rw [← ex104] at bx104
      have bx104 := zb_i bx104
      refine s_X2_dispatch J1 x104 (by have q := g0_0 J1 ho; rw [← ex104] at q; exact q) (fun v2 J2 f107 => ?_)
      have F2 : FrW v0 v2 := F1.tr f107
      exact k  v2 J2 F2 
    · have ic64 := i_nle c64
      refine ⟨in_of (by omega) (by omega), ?_⟩
      intro x75 ex75
      refine s_X5_add J0 a4 ha4 x75  (fun v3 J3 f76 => ?_)
      have F3 : FrW v0 v3 := F0.tr f76
      intro x79 ex79
      have ix79 := i_add ex79 (by omega) (by omega)
      exact ih a1 a2 ha2 a3 a4 ha4 x79 v3 J3 F3 (by omega) (by omega)
set_option maxHeartbeats 1000000 in
theorem s_X0_sendPiece {n : Int32} {w v : VV} (J0 : Jc n w v) (o : Nat) (ho : isO 0 o) (p1 : Int32)  (hp : 0 ≤ p1.toInt ∧ p1.toInt ≤ 100) {Q : VV → Prop} (k : ∀ v1 : VV, Jc n w v1 → FrW v v1 → Q v1) : w_X0_sendPiece o p1 v Q := by
  have l0 : Int32.toInt 0 = 0 := by decide
  have l1 : Int32.toInt 1 = 1 := by decide
  have l128 : Int32.toInt 128 = 128 := by decide
  have l240 : Int32.toInt 240 = 240 := by decide
  have F0 : FrW v v := FrW.rf
  unfold w_X0_sendPiece
  refine s_X3_pieceAt J0 (o + 1) (ch0_2 ho).2 p1 (by omega) (fun t5 r5 => ?_)
  refine ⟨r5.1, ?_⟩
  have qt5 : isO 4 t5 := r5.1
  refine s_X3_numberAt J0 (o + 1) (ch0_2 ho).2 p1  (fun x14 => ?_)
  refine s_X2_nextUnit J0   (fun t22 r22 => ?_)
  refine ⟨r22.1, ?_⟩
  have qt22 : isO 5 t22 := r22.1
  intro x33 ex33
  intro x37 ex37
  refine ⟨fun c40 => ?_, fun c40 => ?_⟩
  · have ic40 := i_eq c40
    unfold b_X0_sendPiece_52
    refine s_X5_writeNumbered J0 t22 qt22 240 x33 x14  (fun v4 J1 f52 => ?_)
    have F1 : FrW v v4 := F0.tr f52
    exact ⟨100, sl_X0_sendPiece_58 o ho p1  k  100 p1 t5 qt5 x14 t22 qt22 0 v4 J1 F1 (by omega) (by omega)⟩
  · have ic40 := i_ne c40
    intro x47 ex47
    unfold b_X0_sendPiece_52
    refine s_X5_writeNumbered J0 t22 qt22 240 x33 x47  (fun v5 J2 f52 => ?_)
    have F2 : FrW v v5 := F0.tr f52
    exact ⟨100, sl_X0_sendPiece_58 o ho p1  k  100 p1 t5 qt5 x14 t22 qt22 0 v5 J2 F2 (by omega) (by omega)⟩
set_option maxHeartbeats 1000000 in
theorem sl_X0_sendNewData_2 {n : Int32} {w : VV} (o : Nat) (ho : isO 0 o)  {Q : VV → Prop} (k : ∀ v1 : VV, Jc n w v1 → Q v1) : ∀ (m : Nat) (a1 : Int32) (v : VV), Jc n w v → 0 ≤ a1.toInt ∧ a1.toInt ≤ 40 → 40 - a1.toInt < (m : Int) → b_X0_sendNewData_2 o Q  m a1 v := by
  have l0 : Int32.toInt 0 = 0 := by decide
  have l1 : Int32.toInt 1 = 1 := by decide
  have l40 : Int32.toInt 40 = 40 := by decide
  intro m
  induction m with
  | zero =>
    intro a1 v J0 h1 hm
    exfalso
    omega
  | succ m ih =>
    intro a1 v J0 h1 hm
    refine ⟨fun c5 => ?_, fun c5 => ?_⟩
    · have ic5 := i_le c5
      exact k  v J0  
    · have ic5 := i_nle c5
      refine s_X3_maySendNext J0 (o + 1) (ch0_2 ho).2  (fun x12 r12 => ?_)
      refine ⟨fun c15 => ?_, fun c15 => ?_⟩
      · have ic15 := i_eq c15
        exact k  v J0  
      · have ic15 := i_ne c15
        intro x23 ex23
        have bx23 := g3_3 J0 (ch0_2 ho).2
        rw [← ex23] at bx23
        refine s_X0_sendPiece J0 o ho x23 (by omega) (fun v2 J1 f26 => ?_)
        have fo := f26 (o + 1) (by have := e_ge ho; omega) (by rw [(ch0_2 ho).2.2]; decide)
        intro x34 ex34
        have bx34 := g3_3 J1 (ch0_2 ho).2
        rw [← ex34] at bx34
        intro x38 ex38
        have ix38 := i_add ex38 (by omega) (by omega)
        intro v3 hv3
        have J2 : Jc n w v3 := by rw [hv3]; exact p3_3 J1 (ch0_2 ho).2 (by have q := r12 c15; have e1 : x34 = v (o + 1) 3 := by { rw [ex34, fo] }; have e1 := i_eq e1; rw [fo]; omega)
        intro x42 ex42
        have ix42 := i_add ex42 (by omega) (by omega)
        exact ih x42 v3 J2 (by omega) (by omega)
set_option maxHeartbeats 1000000 in
theorem s_X0_sendNewData {n : Int32} {w v : VV} (J0 : Jc n w v) (o : Nat) (ho : isO 0 o)   {Q : VV → Prop} (k : ∀ v1 : VV, Jc n w v1 → Q v1) : w_X0_sendNewData o v Q := by
  have l0 : Int32.toInt 0 = 0 := by decide
  have l1 : Int32.toInt 1 = 1 := by decide
  have l40 : Int32.toInt 40 = 40 := by decide
  unfold w_X0_sendNewData
  exact ⟨100, sl_X0_sendNewData_2 o ho  k  100 0 v J0 (by omega) (by omega)⟩
set_option maxHeartbeats 1000000 in
theorem s_X0_sendMessage {n : Int32} {w v : VV} (J0 : Jc n w v) (o : Nat) (ho : isO 0 o) (p2 : Int32)  (hp : 0 ≤ p2.toInt ∧ p2.toInt ≤ 64) {Q : Int32 → VV → Prop} (k : ∀ (x : Int32) (v1 : VV), Jc n w v1 → Q x v1) : w_X0_sendMessage o p2 v Q := by
  have lm3 : Int32.toInt (-3) = -3 := by decide
  have lm2 : Int32.toInt (-2) = -2 := by decide
  have l0 : Int32.toInt 0 = 0 := by decide
  have l1 : Int32.toInt 1 = 1 := by decide
  have l2 : Int32.toInt 2 = 2 := by decide
  unfold w_X0_sendMessage
  intro x1 ex1
  refine ⟨fun c5 => ?_, fun c5 => ?_⟩
  · have ic5 := i_eq c5
    refine s_X3_hasRoomFor J0 (o + 1) (ch0_2 ho).2 p2 (by omega) (fun x16 r16 => ?_)
    refine ⟨fun c19 => ?_, fun c19 => ?_⟩
    · have ic19 := i_ne c19
      refine s_X3_addMessage J0 (o + 1) (ch0_2 ho).2 p2 hp (r16 c19) (fun v2 J1 => ?_)
      refine s_X0_sendNewData J1 o ho  (fun v3 J2 => ?_)
      intro x42 ex42
      have bx42 := g3_2 J2 (ch0_2 ho).2
      rw [← ex42] at bx42
      exact k x42 v3 J2  
    · have ic19 := i_eq c19
      exact k ((-3)) v J0  
  · have ic5 := i_ne c5
    exact k ((-2)) v J0  
set_option maxHeartbeats 1000000 in
theorem s_X0_sendFirstUrgent {n : Int32} {w v : VV} (J0 : Jc n w v) (o : Nat) (ho : isO 0 o)   {Q : VV → Prop} (k : ∀ v1 : VV, Jc n w v1 → Q v1) : w_X0_sendFirstUrgent o v Q := by
  have l0 : Int32.toInt 0 = 0 := by decide
  have l1 : Int32.toInt 1 = 1 := by decide
  have l16 : Int32.toInt 16 = 16 := by decide
  unfold w_X0_sendFirstUrgent
  refine s_X2_nextUnit J0   (fun t4 r4 => ?_)
  refine ⟨r4.1, ?_⟩
  have qt4 : isO 5 t4 := r4.1
  intro x12 ex12
  intro x19 ex19
  refine s_X5_writeNumbered J0 t4 qt4 16 x12 x19  (fun v2 J1 f22 => ?_)
  intro x34 ex34
  refine s_X5_add J1 t4 qt4 x34  (fun v3 J2 f35 => ?_)
  intro x49 ex49
  refine s_X8_count J2 (o + 140 + 2) (ch7_1 (ch0_4 ho).2).2 x49  (fun v4 J3 f52 => ?_)
  intro x60 ex60
  have bx60 := g0_0 J3 ho
  rw [← ex60] at bx60
  have bx60 := zb_i bx60
  refine s_X2_dispatch J3 x60 (by have q := g0_0 J3 ho; rw [← ex60] at q; exact q) (fun v5 J4 f63 => ?_)
  exact k  v5 J4  
set_option maxHeartbeats 1000000 in
theorem s_X0_sendNewUrgent {n : Int32} {w v : VV} (J0 : Jc n w v) (o : Nat) (ho : isO 0 o)   {Q : VV → Prop} (k : ∀ v1 : VV, Jc n w v1 → Q v1) : w_X0_sendNewUrgent o v Q := by
  have l0 : Int32.toInt 0 = 0 := by decide
  have l1 : Int32.toInt 1 = 1 := by decide
  unfold w_X0_sendNewUrgent
  refine s_X7_maySendNext J0 (o + 140) (ch0_4 ho).2  (fun x4 => ?_)
  refine ⟨fun c7 => ?_, fun c7 => ?_⟩
  · have ic7 := i_eq c7
    exact k  v J0  
  · have ic7 := i_ne c7
    refine s_X0_sendFirstUrgent J0 o ho  (fun v2 J1 => ?_)
    exact k  v2 J1  
set_option maxHeartbeats 1000000 in
theorem s_X0_sendUrgentByte {n : Int32} {w v : VV} (J0 : Jc n w v) (o : Nat) (ho : isO 0 o) (p1 : Int32)   {Q : Int32 → VV → Prop} (k : ∀ (x : Int32) (v1 : VV), Jc n w v1 → Q x v1) : w_X0_sendUrgentByte o p1 v Q := by
  have lm2 : Int32.toInt (-2) = -2 := by decide
  have l0 : Int32.toInt 0 = 0 := by decide
  have l1 : Int32.toInt 1 = 1 := by decide
  have l2 : Int32.toInt 2 = 2 := by decide
  unfold w_X0_sendUrgentByte
  intro x1 ex1
  refine ⟨fun c5 => ?_, fun c5 => ?_⟩
  · have ic5 := i_eq c5
    refine s_X7_add J0 (o + 140) (ch0_4 ho).2 p1  (fun x16 v1 J1 => ?_)
    refine s_X0_sendNewUrgent J1 o ho  (fun v2 J2 => ?_)
    exact k x16 v2 J2  
  · have ic5 := i_ne c5
    exact k ((-2)) v J0  
set_option maxHeartbeats 1000000 in
theorem s_X0_noteReason {n : Int32} {w v : VV} (J0 : Jc n w v) (o : Nat) (ho : isO 0 o) (p1 : Int32)   {Q : VV → Prop} (k : ∀ v1 : VV, Jc n w v1 → Q v1) : w_X0_noteReason o p1 v Q := by
  have lm1 : Int32.toInt (-1) = -1 := by decide
  have l0 : Int32.toInt 0 = 0 := by decide
  have l1 : Int32.toInt 1 = 1 := by decide
  unfold w_X0_noteReason
  intro x1 ex1
  refine ⟨fun c5 => ?_, fun c5 => ?_⟩
  · have ic5 := i_ne c5
    exact k  v J0  
  · have ic5 := i_eq c5
    intro v1 hv1
    have J1 : Jc n w v1 := by rw [hv1]; exact J0.free ho (ho.l (by decide)) (by decide) (sp_o ho (by decide)) (by decide)
    exact k  v1 J1  
set_option maxHeartbeats 1000000 in
theorem s_X0_endConnection {n : Int32} {w v : VV} (J0 : Jc n w v) (o : Nat) (ho : isO 0 o)   {Q : Int32 → VV → Prop} (k : ∀ (x : Int32) (v1 : VV), Jc n w v1 → Q x v1) : w_X0_endConnection o v Q := by
  have lm2 : Int32.toInt (-2) = -2 := by decide
  have l0 : Int32.toInt 0 = 0 := by decide
  have l1 : Int32.toInt 1 = 1 := by decide
  have l2 : Int32.toInt 2 = 2 := by decide
  have l3 : Int32.toInt 3 = 3 := by decide
  have l128 : Int32.toInt 128 = 128 := by decide
  unfold w_X0_endConnection
  intro x1 ex1
  refine ⟨fun c5 => ?_, fun c5 => ?_⟩
  · have ic5 := i_eq c5
    unfold b_X0_endConnection_19
    refine s_X3_dropUnsent J0 (o + 1) (ch0_2 ho).2  (fun v1 J1 => ?_)
    refine s_X7_dropUnsent J1 (o + 140) (ch0_4 ho).2  (fun v2 J2 => ?_)
    intro v3 hv3
    have J3 : Jc n w v3 := by rw [hv3]; exact J2.free ho (ho.l (by decide)) (by decide) (sp_o ho (by decide)) (by decide)
    refine s_X0_noteReason J3 o ho 0  (fun v4 J4 => ?_)
    refine s_X0_awaitLink J4 o ho 128  (fun v5 J5 r47 => ?_)
    refine s_X0_sendAwaitedLink J5 o ho  (fun v6 J6 => ?_)
    exact k 1 v6 J6  
  · have ic5 := i_ne c5
    intro x9 ex9
    refine ⟨fun c13 => ?_, fun c13 => ?_⟩
    · have ic13 := i_eq c13
      unfold b_X0_endConnection_19
      refine s_X3_dropUnsent J0 (o + 1) (ch0_2 ho).2  (fun v7 J7 => ?_)
      refine s_X7_dropUnsent J7 (o + 140) (ch0_4 ho).2  (fun v8 J8 => ?_)
      intro v9 hv9
      have J9 : Jc n w v9 := by rw [hv9]; exact J8.free ho (ho.l (by decide)) (by decide) (sp_o ho (by decide)) (by decide)
      refine s_X0_noteReason J9 o ho 0  (fun v10 J10 => ?_)
      refine s_X0_awaitLink J10 o ho 128  (fun v11 J11 r47 => ?_)
      refine s_X0_sendAwaitedLink J11 o ho  (fun v12 J12 => ?_)
      exact k 1 v12 J12  
    · have ic13 := i_ne c13
      exact k ((-2)) v J0  
set_option maxHeartbeats 1000000 in
theorem s_X0_sendNumbered {n : Int32} {w v : VV} (J0 : Jc n w v) (o : Nat) (ho : isO 0 o) (p1 : Int32) (p2 : Int32)   {Q : VV → Prop} (k : ∀ v1 : VV, Jc n w v1 → Q v1) : w_X0_sendNumbered o p1 p2 v Q := by
  have l0 : Int32.toInt 0 = 0 := by decide
  have l1 : Int32.toInt 1 = 1 := by decide
  unfold w_X0_sendNumbered
  refine s_X2_nextUnit J0   (fun t4 r4 => ?_)
  refine ⟨r4.1, ?_⟩
  have qt4 : isO 5 t4 := r4.1
  intro x9 ex9
  refine s_X5_writeNumbered J0 t4 qt4 p1 x9 p2  (fun v2 J1 f13 => ?_)
  intro x21 ex21
  have bx21 := g0_0 J1 ho
  rw [← ex21] at bx21
  have bx21 := zb_i bx21
  refine s_X2_dispatch J1 x21 (by have q := g0_0 J1 ho; rw [← ex21] at q; exact q) (fun v3 J2 f24 => ?_)
  exact k  v3 J2  
set_option maxHeartbeats 1000000 in
theorem s_X0_sendReceipt {n : Int32} {w v : VV} (J0 : Jc n w v) (o : Nat) (ho : isO 0 o)   {Q : VV → Prop} (k : ∀ v1 : VV, Jc n w v1 → Q v1) : w_X0_sendReceipt o v Q := by
  have l0 : Int32.toInt 0 = 0 := by decide
  have l1 : Int32.toInt 1 = 1 := by decide
  have l96 : Int32.toInt 96 = 96 := by decide
  unfold w_X0_sendReceipt
  refine s_X1_credit J0 (o + 123) (ch0_3 ho).2  (fun x7 => ?_)
  intro x10 ex10
  intro x15 ex15
  refine s_X0_sendNumbered J0 o ho x10 x15  (fun v2 J1 => ?_)
  exact k  v2 J1  
set_option maxHeartbeats 1000000 in
theorem s_X0_takeMessage {n : Int32} {w v : VV} (J0 : Jc n w v) (o : Nat) (ho : isO 0 o)   {Q : Int32 → VV → Prop} (k : ∀ (x : Int32) (v1 : VV), Jc n w v1 → Q x v1) : w_X0_takeMessage o v Q := by
  have l0 : Int32.toInt 0 = 0 := by decide
  have l1 : Int32.toInt 1 = 1 := by decide
  have l2 : Int32.toInt 2 = 2 := by decide
  unfold w_X0_takeMessage
  refine s_X1_credit J0 (o + 123) (ch0_3 ho).2  (fun x4 => ?_)
  refine ⟨fun c7 => ?_, fun c7 => ?_⟩
  · have ic7 := i_ne c7
    unfold b_X0_takeMessage_15
    refine s_X1_takeNext J0 (o + 123) (ch0_3 ho).2  (fun x20 v2 J1 => ?_)
    refine ⟨fun c25 => ?_, fun c25 => ?_⟩
    · have ic25 := i_lt c25
      unfold b_X0_takeMessage_44
      exact k x20 v2 J1  
    · have ic25 := i_nlt c25
      refine ⟨fun c29 => ?_, fun c29 => ?_⟩
      · have ic29 := i_eq c29
        unfold b_X0_takeMessage_44
        exact k x20 v2 J1  
      · exact absurd c29 (by decide)
  · have ic7 := i_eq c7
    unfold b_X0_takeMessage_15
    refine s_X1_takeNext J0 (o + 123) (ch0_3 ho).2  (fun x20 v3 J2 => ?_)
    refine ⟨fun c25 => ?_, fun c25 => ?_⟩
    · have ic25 := i_lt c25
      unfold b_X0_takeMessage_44
      exact k x20 v3 J2  
    · have ic25 := i_nlt c25
      refine ⟨fun c29 => ?_, fun c29 => ?_⟩
      · exact absurd c29 (by decide)
      · have ic29 := i_ne c29
        intro x33 ex33
        refine ⟨fun c37 => ?_, fun c37 => ?_⟩
        · have ic37 := i_ne c37
          unfold b_X0_takeMessage_44
          exact k x20 v3 J2  
        · have ic37 := i_eq c37
          refine s_X0_sendReceipt J2 o ho  (fun v4 J3 => ?_)
          unfold b_X0_takeMessage_44
          exact k x20 v4 J3  
set_option maxHeartbeats 1000000 in
theorem s_X0_tell {n : Int32} {w v : VV} (J0 : Jc n w v) (o : Nat) (ho : isO 0 o) (p1 : Int32)   {Q : Int32 → VV → Prop} (k : ∀ x : Int32, Q x v) : w_X0_tell o p1 v Q := by
  have lm1 : Int32.toInt (-1) = -1 := by decide
  have l0 : Int32.toInt 0 = 0 := by decide
  have l1 : Int32.toInt 1 = 1 := by decide
  unfold w_X0_tell
  refine ⟨fun z1_0 => ?_, fun z1_1 => ?_, fun z1_2 => ?_, fun z1_3 => ?_, fun z1_4 => ?_, fun z1_5 => ?_, fun z1_6 => ?_, fun z1_7 => ?_, fun z1_8 => ?_, fun z1_9 => ?_, fun z1_0 z1_1 z1_2 z1_3 z1_4 z1_5 z1_6 z1_7 z1_8 z1_9 => ?_⟩
  · have iz1_0 := i_eq z1_0
    intro x57 ex57
    exact k x57 
  · have iz1_1 := i_eq z1_1
    intro x62 ex62
    exact k x62 
  · have iz1_2 := i_eq z1_2
    intro x67 ex67
    exact k x67 
  · have iz1_3 := i_eq z1_3
    intro x79 ex79
    have bx79 := g3_3 J0 (ch0_2 ho).2
    rw [← ex79] at bx79
    refine s_X3_numberAt J0 (o + 1) (ch0_2 ho).2 x79  (fun x82 => ?_)
    exact k x82 
  · have iz1_4 := i_eq z1_4
    intro x90 ex90
    exact k x90 
  · have iz1_5 := i_eq z1_5
    refine s_X1_credit J0 (o + 123) (ch0_3 ho).2  (fun x98 => ?_)
    exact k x98 
  · have iz1_6 := i_eq z1_6
    intro x110 ex110
    refine s_X3_numberAt J0 (o + 1) (ch0_2 ho).2 x110  (fun x113 => ?_)
    exact k x113 
  · have iz1_7 := i_eq z1_7
    intro x121 ex121
    have bx121 := g1_10 J0 (ch0_3 ho).2
    rw [← ex121] at bx121
    exact k x121 
  · have iz1_8 := i_eq z1_8
    intro x129 ex129
    have bx129 := g6_2 J0 (ch0_5 ho).2
    rw [← ex129] at bx129
    exact k x129 
  · have iz1_9 := i_eq z1_9
    intro x134 ex134
    exact k x134 
  · have iz1_0 := i_ne z1_0
    have iz1_1 := i_ne z1_1
    have iz1_2 := i_ne z1_2
    have iz1_3 := i_ne z1_3
    have iz1_4 := i_ne z1_4
    have iz1_5 := i_ne z1_5
    have iz1_6 := i_ne z1_6
    have iz1_7 := i_ne z1_7
    have iz1_8 := i_ne z1_8
    have iz1_9 := i_ne z1_9
    exact k ((-1)) 
set_option maxHeartbeats 1000000 in
theorem s_X0_hasConnection {n : Int32} {w v : VV} (J0 : Jc n w v) (o : Nat) (ho : isO 0 o)   {Q : Int32 → VV → Prop} (k : ∀ x : Int32, Q x v) : w_X0_hasConnection o v Q := by
  have l0 : Int32.toInt 0 = 0 := by decide
  have l1 : Int32.toInt 1 = 1 := by decide
  have l2 : Int32.toInt 2 = 2 := by decide
  have l3 : Int32.toInt 3 = 3 := by decide
  unfold w_X0_hasConnection
  intro x1 ex1
  refine ⟨fun c5 => ?_, fun c5 => ?_⟩
  · have ic5 := i_eq c5
    unfold b_X0_hasConnection_24
    exact k 1 
  · have ic5 := i_ne c5
    intro x9 ex9
    refine ⟨fun c13 => ?_, fun c13 => ?_⟩
    · have ic13 := i_eq c13
      unfold b_X0_hasConnection_24
      exact k 1 
    · have ic13 := i_ne c13
      intro x17 ex17
      refine ⟨fun c21 => ?_, fun c21 => ?_⟩
      · have ic21 := i_ne c21
        exact k 0 
      · have ic21 := i_eq c21
        unfold b_X0_hasConnection_24
        exact k 1 
set_option maxHeartbeats 1000000 in
theorem s_X0_freeze {n : Int32} {w v : VV} (J0 : Jc n w v) (o : Nat) (ho : isO 0 o)   {Q : VV → Prop} (k : ∀ v1 : VV, Jc n w v1 → Q v1) : w_X0_freeze o v Q := by
  have l0 : Int32.toInt 0 = 0 := by decide
  have l1 : Int32.toInt 1 = 1 := by decide
  have l4 : Int32.toInt 4 = 4 := by decide
  unfold w_X0_freeze
  intro v1 hv1
  have J1 : Jc n w v1 := by rw [hv1]; exact J0.free ho (ho.l (by decide)) (by decide) (sp_o ho (by decide)) (by decide)
  intro x10 ex10
  intro v2 hv2
  have J2 : Jc n w v2 := by rw [hv2]; exact J1.free ho (ho.l (by decide)) (by decide) (sp_o ho (by decide)) (by decide)
  exact k  v2 J2  
set_option maxHeartbeats 1000000 in
theorem s_X0_hearCall {n : Int32} {w v : VV} (J0 : Jc n w v) (o : Nat) (ho : isO 0 o) (p1 : Nat) (hp1 : isO 5 p1)   {Q : VV → Prop} (k : ∀ v1 : VV, Jc n w v1 → Q v1) : w_X0_hearCall o p1 v Q := by
  have l0 : Int32.toInt 0 = 0 := by decide
  have l1 : Int32.toInt 1 = 1 := by decide
  have l2 : Int32.toInt 2 = 2 := by decide
  have l128 : Int32.toInt 128 = 128 := by decide
  have l214 : Int32.toInt 214 = 214 := by decide
  unfold w_X0_hearCall
  intro x1 ex1
  refine ⟨fun c4 => ?_, fun c4 => ?_⟩
  · have ic4 := i_ne c4
    intro x40 ex40
    refine ⟨fun c44 => ?_, fun c44 => ?_⟩
    · have ic44 := i_ne c44
      unfold b_X0_hearCall_69
      unfold b_X0_hearCall_70
      refine ⟨fun c72 => ?_, fun c72 => ?_⟩
      · exact absurd c72 (by decide)
      · have ic72 := i_eq c72
        refine s_X5_from J0 p1 hp1  (fun x80 => ?_)
        refine s_X0_sendLink J0 o ho 128 x80 0 2  (fun v2 J1 => ?_)
        exact k  v2 J1  
    · have ic44 := i_eq c44
      intro x48 ex48
      refine ⟨fun c51 => ?_, fun c51 => ?_⟩
      · have ic51 := i_eq c51
        unfold b_X0_hearCall_69
        unfold b_X0_hearCall_70
        refine ⟨fun c72 => ?_, fun c72 => ?_⟩
        · exact absurd c72 (by decide)
        · have ic72 := i_eq c72
          refine s_X5_from J0 p1 hp1  (fun x80 => ?_)
          refine s_X0_sendLink J0 o ho 128 x80 0 2  (fun v4 J2 => ?_)
          exact k  v4 J2  
      · have ic51 := i_ne c51
        intro x55 ex55
        refine s_X5_from J0 p1 hp1  (fun x59 => ?_)
        refine ⟨fun c62 => ?_, fun c62 => ?_⟩
        · have ic62 := i_ne c62
          unfold b_X0_hearCall_69
          unfold b_X0_hearCall_70
          refine ⟨fun c72 => ?_, fun c72 => ?_⟩
          · exact absurd c72 (by decide)
          · have ic72 := i_eq c72
            refine s_X5_from J0 p1 hp1  (fun x80 => ?_)
            refine s_X0_sendLink J0 o ho 128 x80 0 2  (fun v7 J3 => ?_)
            exact k  v7 J3  
        · have ic62 := i_eq c62
          unfold b_X0_hearCall_70
          refine ⟨fun c72 => ?_, fun c72 => ?_⟩
          · have ic72 := i_ne c72
            exact k  v J0  
          · exact absurd c72 (by decide)
  · have ic4 := i_eq c4
    refine s_X5_from J0 p1 hp1  (fun x10 => ?_)
    refine s_X0_beginConnection J0 o ho 2 x10  (fun v9 J4 => ?_)
    refine s_X5_credit J4 p1 hp1  (fun x21 => ?_)
    intro v11 hv11
    have J5 : Jc n w v11 := by rw [hv11]; exact J4.free (ch0_2 ho).2 ((ch0_2 ho).2.l (by decide)) (by decide) (sp_o (ch0_2 ho).2 (by decide)) (by decide)
    refine s_X0_awaitLink J5 o ho 214  (fun v12 J6 r31 => ?_)
    refine s_X0_sendAwaitedLink J6 o ho  (fun v13 J7 => ?_)
    exact k  v13 J7  
set_option maxHeartbeats 1000000 in
theorem s_X0_acceptsAnswer {n : Int32} {w v : VV} (J0 : Jc n w v) (o : Nat) (ho : isO 0 o) (p1 : Nat) (hp1 : isO 5 p1)   {Q : Int32 → VV → Prop} (k : ∀ (x : Int32) (v1 : VV), Jc n w v1 → Q x v1) : w_X0_acceptsAnswer o p1 v Q := by
  have l0 : Int32.toInt 0 = 0 := by decide
  have l1 : Int32.toInt 1 = 1 := by decide
  have l2 : Int32.toInt 2 = 2 := by decide
  have l230 : Int32.toInt 230 = 230 := by decide
  unfold w_X0_acceptsAnswer
  intro x1 ex1
  refine ⟨fun c5 => ?_, fun c5 => ?_⟩
  · have ic5 := i_ne c5
    intro x42 ex42
    refine ⟨fun c46 => ?_, fun c46 => ?_⟩
    · have ic46 := i_ne c46
      unfold b_X0_acceptsAnswer_64
      exact k 0 v J0  
    · have ic46 := i_eq c46
      intro x50 ex50
      refine s_X5_from J0 p1 hp1  (fun x54 => ?_)
      refine ⟨fun c57 => ?_, fun c57 => ?_⟩
      · have ic57 := i_ne c57
        unfold b_X0_acceptsAnswer_64
        exact k 0 v J0  
      · have ic57 := i_eq c57
        exact k 1 v J0  
  · have ic5 := i_eq c5
    intro v2 hv2
    have J1 : Jc n w v2 := by rw [hv2]; exact J0.free ho (ho.l (by decide)) (by decide) (sp_o ho (by decide)) (by decide)
    refine s_X5_from J1 p1 hp1  (fun x15 => ?_)
    intro v4 hv4
    have J2 : Jc n w v4 := by rw [hv4]; exact J1.free ho (ho.l (by decide)) (by decide) (sp_o ho (by decide)) (by decide)
    refine s_X5_credit J2 p1 hp1  (fun x26 => ?_)
    intro v6 hv6
    have J3 : Jc n w v6 := by rw [hv6]; exact J2.free (ch0_2 ho).2 ((ch0_2 ho).2.l (by decide)) (by decide) (sp_o (ch0_2 ho).2 (by decide)) (by decide)
    refine s_X0_endWaitOf J3 o ho 230  (fun v7 J4 r36 => ?_)
    exact k 1 v7 J4  
set_option maxHeartbeats 1000000 in
theorem s_X0_hearEnd {n : Int32} {w v : VV} (J0 : Jc n w v) (o : Nat) (ho : isO 0 o) (p1 : Nat) (hp1 : isO 5 p1)   {Q : VV → Prop} (k : ∀ v1 : VV, Jc n w v1 → Q v1) : w_X0_hearEnd o p1 v Q := by
  have l0 : Int32.toInt 0 = 0 := by decide
  have l1 : Int32.toInt 1 = 1 := by decide
  have l192 : Int32.toInt 192 = 192 := by decide
  unfold w_X0_hearEnd
  refine s_X5_reason J0 p1 hp1  (fun x2 => ?_)
  refine s_X0_noteReason J0 o ho x2  (fun v2 J1 => ?_)
  refine s_X5_from J1 p1 hp1  (fun x13 => ?_)
  intro x17 ex17
  refine s_X0_sendLink J1 o ho 192 x13 x17 0  (fun v4 J2 => ?_)
  intro x25 ex25
  refine ⟨fun c29 => ?_, fun c29 => ?_⟩
  · have ic29 := i_ne c29
    refine s_X0_freeze J2 o ho  (fun v5 J3 => ?_)
    exact k  v5 J3  
  · have ic29 := i_eq c29
    intro v6 hv6
    have J4 : Jc n w v6 := by rw [hv6]; exact J2.free ho (ho.l (by decide)) (by decide) (sp_o ho (by decide)) (by decide)
    exact k  v6 J4  
set_option maxHeartbeats 1000000 in
theorem s_X0_hearForConnection {n : Int32} {w v : VV} (J0 : Jc n w v) (o : Nat) (ho : isO 0 o) (p1 : Nat) (hp1 : isO 5 p1) (p2 : Int32)  (hk : p2 = kindF (v (p1 + 1) 1)) (hg : Gd p1 v) {Q : VV → Prop} (k : ∀ v1 : VV, Jc n w v1 → Q v1) : w_X0_hearForConnection o p1 p2 v Q := by
  have l0 : Int32.toInt 0 = 0 := by decide
  have l1 : Int32.toInt 1 = 1 := by decide
  have l2 : Int32.toInt 2 = 2 := by decide
  have l3 : Int32.toInt 3 = 3 := by decide
  have l32 : Int32.toInt 32 = 32 := by decide
  unfold w_X0_hearForConnection
  refine ⟨fun z1_0 => ?_, fun z1_1 => ?_, fun z1_2 => ?_, fun z1_3 => ?_, fun z1_4 => ?_, fun z1_5 => ?_, fun z1_6 => ?_, fun z1_0 z1_1 z1_2 z1_3 z1_4 z1_5 z1_6 => ?_⟩
  · have iz1_0 := i_eq z1_0
    refine s_X5_number J0 p1 hp1  (fun x103 r103 => ?_)
    refine s_X5_headLengthOfKind J0 p1 hp1  (fun x111 r111 => ?_)
    have hr := headF_i (kindF (v (p1 + 1) 1))
    have e111 := i_eq r111
    refine ⟨in_of (by omega) (by omega), ?_⟩
    intro x114 ex114
    refine s_X6_accept J0 (o + 143) (ch0_5 ho).2 x103 x114  (fun v3 J1 => ?_)
    intro x125 ex125
    refine s_X0_sendNumbered J1 o ho 32 x125  (fun v4 J2 => ?_)
    exact k  v4 J2  
  · have iz1_1 := i_eq z1_1
    intro x165 ex165
    refine ⟨fun c169 => ?_, fun c169 => ?_⟩
    · have ic169 := i_ne c169
      exact k  v J0  
    · have ic169 := i_eq c169
      refine s_X5_number J0 p1 hp1  (fun x177 r177 => ?_)
      refine s_X7_readReceipt J0 (o + 140) (ch0_4 ho).2 x177  (fun v6 J3 => ?_)
      refine s_X0_sendNewUrgent J3 o ho  (fun v7 J4 => ?_)
      exact k  v7 J4  
  · have iz1_2 := i_eq z1_2
    intro x135 ex135
    refine ⟨fun c139 => ?_, fun c139 => ?_⟩
    · have ic139 := i_ne c139
      exact k  v J0  
    · have ic139 := i_eq c139
      refine s_X5_number J0 p1 hp1  (fun x147 r147 => ?_)
      refine s_X5_credit J0 p1 hp1  (fun x151 => ?_)
      refine s_X3_readReceipt J0 (o + 1) (ch0_2 ho).2 x147 x151  (fun v10 J5 => ?_)
      refine s_X0_sendNewData J5 o ho  (fun v11 J6 => ?_)
      exact k  v11 J6  
  · have iz1_3 := i_eq z1_3
    refine s_X0_hearEnd J0 o ho p1 hp1  (fun v12 J7 => ?_)
    exact k  v12 J7  
  · have iz1_4 := i_eq z1_4
    intro x199 ex199
    refine ⟨fun c203 => ?_, fun c203 => ?_⟩
    · have ic203 := i_ne c203
      exact k  v J0  
    · have ic203 := i_eq c203
      refine s_X0_freeze J0 o ho  (fun v13 J8 => ?_)
      exact k  v13 J8  
  · have iz1_5 := i_eq z1_5
    refine s_X0_acceptsAnswer J0 o ho p1 hp1  (fun x70 v14 J9 => ?_)
    refine ⟨fun c73 => ?_, fun c73 => ?_⟩
    · have ic73 := i_eq c73
      exact k  v14 J9  
    · have ic73 := i_ne c73
      refine s_X0_sendReceipt J9 o ho  (fun v15 J10 => ?_)
      exact k  v15 J10  
  · have iz1_6 := i_eq z1_6
    refine s_X1_accept J0 (o + 123) (ch0_3 ho).2 p1 hp1 (hk.symm.trans z1_6) hg (fun v16 J11 => ?_)
    refine s_X0_sendReceipt J11 o ho  (fun v17 J12 => ?_)
    exact k  v17 J12  
  · have iz1_0 := i_ne z1_0
    have iz1_1 := i_ne z1_1
    have iz1_2 := i_ne z1_2
    have iz1_3 := i_ne z1_3
    have iz1_4 := i_ne z1_4
    have iz1_5 := i_ne z1_5
    have iz1_6 := i_ne z1_6
    exact k  v J0  
set_option maxHeartbeats 1000000 in
theorem s_X0_hear {n : Int32} {w v : VV} (J0 : Jc n w v) (o : Nat) (ho : isO 0 o) (p1 : Nat) (hp1 : isO 5 p1)  (hg : Gd p1 v) {Q : VV → Prop} (k : ∀ v1 : VV, Jc n w v1 → Q v1) : w_X0_hear o p1 v Q := by
  have l0 : Int32.toInt 0 = 0 := by decide
  have l1 : Int32.toInt 1 = 1 := by decide
  have l128 : Int32.toInt 128 = 128 := by decide
  have l192 : Int32.toInt 192 = 192 := by decide
  have l214 : Int32.toInt 214 = 214 := by decide
  have l224 : Int32.toInt 224 = 224 := by decide
  unfold w_X0_hear
  refine s_X5_kind J0 p1 hp1  (fun x1 r1 => ?_)
  refine ⟨fun c9 => ?_, fun c9 => ?_⟩
  · have ic9 := i_ne c9
    refine s_X0_hasConnection J0 o ho  (fun x21 => ?_)
    refine ⟨fun c24 => ?_, fun c24 => ?_⟩
    · have ic24 := i_eq c24
      unfold b_X0_hear_65
      refine ⟨fun c69 => ?_, fun c69 => ?_⟩
      · have ic69 := i_ne c69
        exact k  v J0  
      · have ic69 := i_eq c69
        refine s_X5_from J0 p1 hp1  (fun x77 => ?_)
        refine s_X5_to J0 p1 hp1  (fun x81 => ?_)
        refine s_X0_sendLink J0 o ho 192 x77 x81 0  (fun v5 J1 => ?_)
        exact k  v5 J1  
    · have ic24 := i_ne c24
      refine s_X5_to J0 p1 hp1  (fun x28 => ?_)
      intro x32 ex32
      refine ⟨fun c35 => ?_, fun c35 => ?_⟩
      · have ic35 := i_ne c35
        unfold b_X0_hear_65
        refine ⟨fun c69 => ?_, fun c69 => ?_⟩
        · have ic69 := i_ne c69
          exact k  v J0  
        · have ic69 := i_eq c69
          refine s_X5_from J0 p1 hp1  (fun x77 => ?_)
          refine s_X5_to J0 p1 hp1  (fun x81 => ?_)
          refine s_X0_sendLink J0 o ho 192 x77 x81 0  (fun v9 J2 => ?_)
          exact k  v9 J2  
      · have ic35 := i_eq c35
        intro x43 ex43
        intro v10 hv10
        have J3 : Jc n w v10 := by rw [hv10]; exact J0.free ho (ho.l (by decide)) (by decide) (sp_o ho (by decide)) (by decide)
        refine s_X0_endWaitOf J3 o ho 214  (fun v11 J4 r53 => ?_)
        refine s_X0_hearForConnection J4 o ho p1 hp1 x1 (by rw [r53 (p1 + 1) (u_lt hp1), hv10, up2_of _ _ _ _ (by have := e_ge ho; have := u_lt hp1; omega)]; exact r1) (hg.of (by rw [r53 p1 (by have := u_lt hp1; omega), hv10, up2_of _ _ _ _ (by have := e_ge ho; have := u_lt hp1; omega)]) (by rw [r53 (p1 + 1) (u_lt hp1), hv10, up2_of _ _ _ _ (by have := e_ge ho; have := u_lt hp1; omega)])) (fun v12 J5 => ?_)
        exact k  v12 J5  
  · have ic9 := i_eq c9
    refine s_X0_hearCall J0 o ho p1 hp1  (fun v13 J6 => ?_)
    exact k  v13 J6  
set_option maxHeartbeats 1000000 in
theorem sl_X0_sendDueAgain_23 {n : Int32} {w : VV} (o : Nat) (ho : isO 0 o)  {Q : VV → Prop} (k : ∀ v1 : VV, Jc n w v1 → Q v1) : ∀ (m : Nat) (a1 : Int32) (v : VV), Jc n w v → 0 ≤ a1.toInt ∧ a1.toInt ≤ 40 → 40 - a1.toInt < (m : Int) → b_X0_sendDueAgain_23 o Q  m a1 v := by
  have l0 : Int32.toInt 0 = 0 := by decide
  have l1 : Int32.toInt 1 = 1 := by decide
  intro m
  induction m with
  | zero =>
    intro a1 v J0 h1 hm
    exfalso
    omega
  | succ m ih =>
    intro a1 v J0 h1 hm
    intro x28 ex28
    have bx28 := g3_3 J0 (ch0_2 ho).2
    rw [← ex28] at bx28
    refine ⟨fun c31 => ?_, fun c31 => ?_⟩
    · have ic31 := i_le c31
      intro x80 ex80
      refine s_X8_isDueAgain J0 (o + 140 + 2) (ch7_1 (ch0_4 ho).2).2 x80  (fun x83 => ?_)
      refine ⟨fun c86 => ?_, fun c86 => ?_⟩
      · have ic86 := i_eq c86
        exact k  v J0  
      · have ic86 := i_ne c86
        refine s_X0_sendFirstUrgent J0 o ho  (fun v2 J1 => ?_)
        exact k  v2 J1  
    · have ic31 := i_nle c31
      refine s_X3_pieceAt J0 (o + 1) (ch0_2 ho).2 a1 (by omega) (fun t39 r39 => ?_)
      refine ⟨r39.1, ?_⟩
      have qt39 : isO 4 t39 := r39.1
      intro x49 ex49
      refine s_X8_isDueAgain J0 (t39 + 2) (ch4_1 qt39).2 x49  (fun x52 => ?_)
      refine ⟨fun c55 => ?_, fun c55 => ?_⟩
      · have ic55 := i_eq c55
        unfold b_X0_sendDueAgain_63
        intro x63 ex63
        have ix63 := i_add ex63 (by omega) (by omega)
        exact ih x63 v J0 (by omega) (by omega)
      · have ic55 := i_ne c55
        refine s_X0_sendPiece J0 o ho a1 (by omega) (fun v5 J2 f60 => ?_)
        unfold b_X0_sendDueAgain_63
        intro x63 ex63
        have ix63 := i_add ex63 (by omega) (by omega)
        exact ih x63 v5 J2 (by omega) (by omega)
set_option maxHeartbeats 1000000 in
theorem s_X0_sendDueAgain {n : Int32} {w v : VV} (J0 : Jc n w v) (o : Nat) (ho : isO 0 o)   {Q : VV → Prop} (k : ∀ v1 : VV, Jc n w v1 → Q v1) : w_X0_sendDueAgain o v Q := by
  have l0 : Int32.toInt 0 = 0 := by decide
  have l1 : Int32.toInt 1 = 1 := by decide
  unfold w_X0_sendDueAgain
  intro x8 ex8
  refine s_X8_isDueAgain J0 (o + 145) (ch0_6 ho).2 x8  (fun x11 => ?_)
  refine ⟨fun c14 => ?_, fun c14 => ?_⟩
  · have ic14 := i_eq c14
    unfold b_X0_sendDueAgain_21
    exact ⟨100, sl_X0_sendDueAgain_23 o ho  k  100 0 v J0 (by omega) (by omega)⟩
  · have ic14 := i_ne c14
    refine s_X0_sendAwaitedLink J0 o ho  (fun v2 J1 => ?_)
    unfold b_X0_sendDueAgain_21
    exact ⟨100, sl_X0_sendDueAgain_23 o ho  k  100 0 v2 J1 (by omega) (by omega)⟩
set_option maxHeartbeats 1000000 in
theorem s_X0_mustGiveUp {n : Int32} {w v : VV} (J0 : Jc n w v) (o : Nat) (ho : isO 0 o)   {Q : Int32 → VV → Prop} (k : ∀ x : Int32, Q x v) : w_X0_mustGiveUp o v Q := by
  have l0 : Int32.toInt 0 = 0 := by decide
  have l1 : Int32.toInt 1 = 1 := by decide
  have l2 : Int32.toInt 2 = 2 := by decide
  have l50 : Int32.toInt 50 = 50 := by decide
  unfold w_X0_mustGiveUp
  intro x4 ex4
  refine s_X8_isSpent J0 (o + 145) (ch0_6 ho).2 x4  (fun x13 => ?_)
  refine ⟨fun c16 => ?_, fun c16 => ?_⟩
  · have ic16 := i_ne c16
    unfold b_X0_mustGiveUp_44
    unfold b_X0_mustGiveUp_49
    refine ⟨fun c51 => ?_, fun c51 => ?_⟩
    · have ic51 := i_ne c51
      unfold b_X0_mustGiveUp_73
      exact k 1 
    · exact absurd c51 (by decide)
  · have ic16 := i_eq c16
    refine s_X3_isSpent J0 (o + 1) (ch0_2 ho).2 x4  (fun x24 => ?_)
    refine ⟨fun c27 => ?_, fun c27 => ?_⟩
    · have ic27 := i_ne c27
      unfold b_X0_mustGiveUp_44
      unfold b_X0_mustGiveUp_49
      refine ⟨fun c51 => ?_, fun c51 => ?_⟩
      · have ic51 := i_ne c51
        unfold b_X0_mustGiveUp_73
        exact k 1 
      · exact absurd c51 (by decide)
    · have ic27 := i_eq c27
      refine s_X8_isSpent J0 (o + 140 + 2) (ch7_1 (ch0_4 ho).2).2 x4  (fun x38 => ?_)
      refine ⟨fun c41 => ?_, fun c41 => ?_⟩
      · have ic41 := i_eq c41
        unfold b_X0_mustGiveUp_49
        refine ⟨fun c51 => ?_, fun c51 => ?_⟩
        · exact absurd c51 (by decide)
        · have ic51 := i_eq c51
          intro x55 ex55
          refine ⟨fun c59 => ?_, fun c59 => ?_⟩
          · have ic59 := i_ne c59
            unfold b_X0_mustGiveUp_77
            exact k 0 
          · have ic59 := i_eq c59
            intro x64 ex64
            intro x67 ex67
            refine ⟨fun c70 => ?_, fun c70 => ?_⟩
            · have ic70 := i_lt c70
              unfold b_X0_mustGiveUp_77
              exact k 0 
            · have ic70 := i_nlt c70
              unfold b_X0_mustGiveUp_73
              exact k 1 
      · have ic41 := i_ne c41
        unfold b_X0_mustGiveUp_44
        unfold b_X0_mustGiveUp_49
        refine ⟨fun c51 => ?_, fun c51 => ?_⟩
        · have ic51 := i_ne c51
          unfold b_X0_mustGiveUp_73
          exact k 1 
        · exact absurd c51 (by decide)
set_option maxHeartbeats 1000000 in
theorem s_X0_giveUp {n : Int32} {w v : VV} (J0 : Jc n w v) (o : Nat) (ho : isO 0 o)   {Q : VV → Prop} (k : ∀ v1 : VV, Jc n w v1 → Q v1) : w_X0_giveUp o v Q := by
  have l0 : Int32.toInt 0 = 0 := by decide
  have l1 : Int32.toInt 1 = 1 := by decide
  have l128 : Int32.toInt 128 = 128 := by decide
  unfold w_X0_giveUp
  refine s_X0_noteReason J0 o ho 1  (fun v1 J1 => ?_)
  intro x10 ex10
  intro x14 ex14
  refine s_X0_sendLink J1 o ho 128 x10 x14 1  (fun v2 J2 => ?_)
  refine s_X0_freeze J2 o ho  (fun v3 J3 => ?_)
  exact k  v3 J3  
set_option maxHeartbeats 1000000 in
theorem s_X0_passTick {n : Int32} {w v : VV} (J0 : Jc n w v) (o : Nat) (ho : isO 0 o)   {Q : VV → Prop} (k : ∀ v1 : VV, Jc n w v1 → Q v1) : w_X0_passTick o v Q := by
  have l0 : Int32.toInt 0 = 0 := by decide
  have l1 : Int32.toInt 1 = 1 := by decide
  have l2 : Int32.toInt 2 = 2 := by decide
  have l4 : Int32.toInt 4 = 4 := by decide
  have l12 : Int32.toInt 12 = 12 := by decide
  have l20 : Int32.toInt 20 = 20 := by decide
  unfold w_X0_passTick
  refine s_X0_hasConnection J0 o ho  (fun x1 => ?_)
  refine ⟨fun c4 => ?_, fun c4 => ?_⟩
  · have ic4 := i_eq c4
    unfold b_X0_passTick_62
    intro x63 ex63
    refine ⟨fun c67 => ?_, fun c67 => ?_⟩
    · have ic67 := i_ne c67
      exact k  v J0  
    · have ic67 := i_eq c67
      intro x74 ex74
      intro x78 ex78
      intro x81 ex81
      refine ⟨fun c84 => ?_, fun c84 => ?_⟩
      · have ic84 := i_lt c84
        exact k  v J0  
      · have ic84 := i_nlt c84
        intro v2 hv2
        have J1 : Jc n w v2 := by rw [hv2]; exact J0.free ho (ho.l (by decide)) (by decide) (sp_o ho (by decide)) (by decide)
        exact k  v2 J1  
  · have ic4 := i_ne c4
    refine s_X0_sendDueAgain J0 o ho  (fun v3 J2 => ?_)
    refine s_X0_mustGiveUp J2 o ho  (fun x12 => ?_)
    refine ⟨fun c15 => ?_, fun c15 => ?_⟩
    · have ic15 := i_eq c15
      intro x26 ex26
      refine ⟨fun c30 => ?_, fun c30 => ?_⟩
      · have ic30 := i_ne c30
        unfold b_X0_passTick_62
        intro x63 ex63
        refine ⟨fun c67 => ?_, fun c67 => ?_⟩
        · have ic67 := i_ne c67
          exact k  v3 J2  
        · have ic67 := i_eq c67
          intro x74 ex74
          intro x78 ex78
          intro x81 ex81
          refine ⟨fun c84 => ?_, fun c84 => ?_⟩
          · have ic84 := i_lt c84
            exact k  v3 J2  
          · have ic84 := i_nlt c84
            intro v5 hv5
            have J3 : Jc n w v5 := by rw [hv5]; exact J2.free ho (ho.l (by decide)) (by decide) (sp_o ho (by decide)) (by decide)
            exact k  v5 J3  
      · have ic30 := i_eq c30
        intro x37 ex37
        intro x48 ex48
        have bx48 := g0_0 J2 ho
        rw [← ex48] at bx48
        have bx48 := zb_i bx48
        refine ⟨in_of (by omega) (by omega), ?_⟩
        intro x51 ex51
        intro x52 ex52
        refine ⟨fun c55 => ?_, fun c55 => ?_⟩
        · have ic55 := i_lt c55
          unfold b_X0_passTick_62
          intro x63 ex63
          refine ⟨fun c67 => ?_, fun c67 => ?_⟩
          · have ic67 := i_ne c67
            exact k  v3 J2  
          · have ic67 := i_eq c67
            intro x74 ex74
            intro x78 ex78
            intro x81 ex81
            refine ⟨fun c84 => ?_, fun c84 => ?_⟩
            · have ic84 := i_lt c84
              exact k  v3 J2  
            · have ic84 := i_nlt c84
              intro v6 hv6
              have J4 : Jc n w v6 := by rw [hv6]; exact J2.free ho (ho.l (by decide)) (by decide) (sp_o ho (by decide)) (by decide)
              exact k  v6 J4  
        · have ic55 := i_nlt c55
          refine s_X0_sendReceipt J2 o ho  (fun v7 J5 => ?_)
          unfold b_X0_passTick_62
          intro x63 ex63
          refine ⟨fun c67 => ?_, fun c67 => ?_⟩
          · have ic67 := i_ne c67
            exact k  v7 J5  
          · have ic67 := i_eq c67
            intro x74 ex74
            intro x78 ex78
            intro x81 ex81
            refine ⟨fun c84 => ?_, fun c84 => ?_⟩
            · have ic84 := i_lt c84
              exact k  v7 J5  
            · have ic84 := i_nlt c84
              intro v8 hv8
              have J6 : Jc n w v8 := by rw [hv8]; exact J5.free ho (ho.l (by decide)) (by decide) (sp_o ho (by decide)) (by decide)
              exact k  v8 J6  
    · have ic15 := i_ne c15
      refine s_X0_giveUp J2 o ho  (fun v9 J7 => ?_)
      unfold b_X0_passTick_62
      intro x63 ex63
      refine ⟨fun c67 => ?_, fun c67 => ?_⟩
      · have ic67 := i_ne c67
        exact k  v9 J7  
      · have ic67 := i_eq c67
        intro x74 ex74
        intro x78 ex78
        intro x81 ex81
        refine ⟨fun c84 => ?_, fun c84 => ?_⟩
        · have ic84 := i_lt c84
          exact k  v9 J7  
        · have ic84 := i_nlt c84
          intro v10 hv10
          have J8 : Jc n w v10 := by rw [hv10]; exact J7.free ho (ho.l (by decide)) (by decide) (sp_o ho (by decide)) (by decide)
          exact k  v10 J8  
