
set_option maxHeartbeats 1000000 in
theorem s_X8_clear {n : Int32} {w v : VV} (J0 : Jc n w v) (o : Nat) (ho : isO 8 o)   {Q : VV → Prop} (k : ∀ v1 : VV, Jc n w v1 → (v1 = up2 v o 0 0) → Q v1) : w_X8_clear o v Q := by
  have l0 : Int32.toInt 0 = 0 := by decide
  have l1 : Int32.toInt 1 = 1 := by decide
  unfold w_X8_clear
  intro v1 hv1
  have J1 : Jc n w v1 := by rw [hv1]; exact J0.free ho (ho.l (by decide)) (by decide) (sp_o ho (by decide)) (by decide)
  exact k  v1 J1  hv1
set_option maxHeartbeats 1000000 in
theorem s_X8_count {n : Int32} {w v : VV} (J0 : Jc n w v) (o : Nat) (ho : isO 8 o) (p1 : Int32)   {Q : VV → Prop} (k : ∀ v1 : VV, Jc n w v1 → FrW v v1 → Q v1) : w_X8_count o p1 v Q := by
  have l0 : Int32.toInt 0 = 0 := by decide
  have l1 : Int32.toInt 1 = 1 := by decide
  have F0 : FrW v v := FrW.rf
  unfold w_X8_count
  intro x2 ex2
  intro x6 ex6
  intro v1 hv1
  have J1 : Jc n w v1 := by rw [hv1]; exact J0.free ho (ho.l (by decide)) (by decide) (sp_o ho (by decide)) (by decide)
  have F1 : FrW v v1 := by rw [hv1]; exact F0.up _ _ _ (Or.inr ho.2)
  intro v2 hv2
  have J2 : Jc n w v2 := by rw [hv2]; exact J1.free ho (ho.l (by decide)) (by decide) (sp_o ho (by decide)) (by decide)
  have F2 : FrW v v2 := by rw [hv2]; exact F1.up _ _ _ (Or.inr ho.2)
  exact k  v2 J2 F2 
set_option maxHeartbeats 1000000 in
theorem s_X8_isOver {n : Int32} {w v : VV} (J0 : Jc n w v) (o : Nat) (ho : isO 8 o) (p1 : Int32)   {Q : Int32 → VV → Prop} (k : ∀ x : Int32, Q x v) : w_X8_isOver o p1 v Q := by
  have l0 : Int32.toInt 0 = 0 := by decide
  have l1 : Int32.toInt 1 = 1 := by decide
  have l8 : Int32.toInt 8 = 8 := by decide
  unfold w_X8_isOver
  intro x1 ex1
  refine ⟨fun c4 => ?_, fun c4 => ?_⟩
  · have ic4 := i_le c4
    unfold b_X8_isOver_22
    exact k 0 
  · have ic4 := i_nle c4
    intro x9 ex9
    intro x12 ex12
    refine ⟨fun c15 => ?_, fun c15 => ?_⟩
    · have ic15 := i_lt c15
      unfold b_X8_isOver_22
      exact k 0 
    · have ic15 := i_nlt c15
      exact k 1 
set_option maxHeartbeats 1000000 in
theorem s_X8_isDueAgain {n : Int32} {w v : VV} (J0 : Jc n w v) (o : Nat) (ho : isO 8 o) (p1 : Int32)   {Q : Int32 → VV → Prop} (k : ∀ x : Int32, Q x v) : w_X8_isDueAgain o p1 v Q := by
  have l0 : Int32.toInt 0 = 0 := by decide
  have l1 : Int32.toInt 1 = 1 := by decide
  have l4 : Int32.toInt 4 = 4 := by decide
  unfold w_X8_isDueAgain
  intro x1 ex1
  refine ⟨fun c5 => ?_, fun c5 => ?_⟩
  · have ic5 := i_le c5
    unfold b_X8_isDueAgain_20
    exact k 0 
  · have ic5 := i_nle c5
    refine s_X8_isOver J0 o ho p1  (fun x10 => ?_)
    refine ⟨fun c13 => ?_, fun c13 => ?_⟩
    · have ic13 := i_eq c13
      unfold b_X8_isDueAgain_20
      exact k 0 
    · have ic13 := i_ne c13
      exact k 1 
set_option maxHeartbeats 1000000 in
theorem s_X8_isSpent {n : Int32} {w v : VV} (J0 : Jc n w v) (o : Nat) (ho : isO 8 o) (p1 : Int32)   {Q : Int32 → VV → Prop} (k : ∀ x : Int32, Q x v) : w_X8_isSpent o p1 v Q := by
  have l0 : Int32.toInt 0 = 0 := by decide
  have l1 : Int32.toInt 1 = 1 := by decide
  have l4 : Int32.toInt 4 = 4 := by decide
  unfold w_X8_isSpent
  intro x1 ex1
  refine ⟨fun c5 => ?_, fun c5 => ?_⟩
  · have ic5 := i_lt c5
    unfold b_X8_isSpent_20
    exact k 0 
  · have ic5 := i_nlt c5
    refine s_X8_isOver J0 o ho p1  (fun x10 => ?_)
    refine ⟨fun c13 => ?_, fun c13 => ?_⟩
    · have ic13 := i_eq c13
      unfold b_X8_isSpent_20
      exact k 0 
    · have ic13 := i_ne c13
      exact k 1 
set_option maxHeartbeats 1000000 in
theorem s_X5_writeHead {n : Int32} {w v : VV} (J0 : Jc n w v) (o : Nat) (ho : isO 5 o) (p1 : Int32) (p2 : Int32) (p3 : Int32)  (hp : 5 ≤ p3.toInt ∧ p3.toInt ≤ 13) {Q : VV → Prop} (k : ∀ v1 : VV, Jc n w v1 → FrW v v1 → Q v1) : w_X5_writeHead o p1 p2 p3 v Q := by
  have l0 : Int32.toInt 0 = 0 := by decide
  have l1 : Int32.toInt 1 = 1 := by decide
  have l2 : Int32.toInt 2 = 2 := by decide
  have l3 : Int32.toInt 3 = 3 := by decide
  have l4 : Int32.toInt 4 = 4 := by decide
  have l8 : Int32.toInt 8 = 8 := by decide
  have l195 : Int32.toInt 195 = 195 := by decide
  have l255 : Int32.toInt 255 = 255 := by decide
  have F0 : FrW v v := FrW.rf
  unfold w_X5_writeHead
  intro x7 ex7
  have ix7 := i_add ex7 (by omega) (by omega)
  intro v1 hv1
  have J1 : Jc n w v1 := by rw [hv1]; exact J0.free (ch5_0 ho).2.1 (al_5_0 ho) rfl (as_5_0 ho) (fun q => absurd q (by decide))
  have F1 : FrW v v1 := by rw [hv1]; exact F0.up _ _ _ (Or.inl (by have := u_lt ho; omega))
  intro v2 hv2
  have J2 : Jc n w v2 := by rw [hv2]; exact J1.free (ch5_0 ho).2.1 (al_5_0 ho) rfl (as_5_0 ho) (fun q => absurd q (by decide))
  have F2 : FrW v v2 := by rw [hv2]; exact F1.up _ _ _ (Or.inl (by have := u_lt ho; omega))
  intro x24 ex24
  intro v3 hv3
  have J3 : Jc n w v3 := by rw [hv3]; exact J2.free (ch5_0 ho).2.1 (al_5_0 ho) rfl (as_5_0 ho) (fun q => absurd q (by decide))
  have F3 : FrW v v3 := by rw [hv3]; exact F2.up _ _ _ (Or.inl (by have := u_lt ho; omega))
  intro x35 ex35
  have ix35 := i_and ex35 (by decide)
  intro v4 hv4
  have J4 : Jc n w v4 := by rw [hv4]; exact J3.free (ch5_0 ho).2.1 (al_5_0 ho) rfl (as_5_0 ho) (fun q => absurd q (by decide))
  have F4 : FrW v v4 := by rw [hv4]; exact F3.up _ _ _ (Or.inl (by have := u_lt ho; omega))
  refine ⟨in_of (by omega) (by omega), ?_⟩
  intro v5 hv5
  have J5 : Jc n w v5 := by rw [hv5]; exact J4.free (ch5_0 ho).2.1 (al_5_0 ho) rfl (as_5_0 ho) (fun q => absurd q (by decide))
  have F5 : FrW v v5 := by rw [hv5]; exact F4.up _ _ _ (Or.inl (by have := u_lt ho; omega))
  intro x52 ex52
  have ix52 := i_add ex52 (by omega) (by omega)
  refine ⟨in_of (by omega) (by omega), ?_⟩
  intro v6 hv6
  have J6 : Jc n w v6 := by rw [hv6]; exact J5.free (ch5_0 ho).2.1 (al_5_0 ho) rfl (as_5_0 ho) (fun q => absurd q (by decide))
  have F6 : FrW v v6 := by rw [hv6]; exact F5.up _ _ _ (Or.inl (by have := u_lt ho; omega))
  intro x61 ex61
  have ix61 := i_add ex61 (by omega) (by omega)
  refine ⟨in_of (by omega) (by omega), ?_⟩
  intro v7 hv7
  have J7 : Jc n w v7 := by rw [hv7]; exact J6.free (ch5_0 ho).2.1 (al_5_0 ho) rfl (as_5_0 ho) (fun q => absurd q (by decide))
  have F7 : FrW v v7 := by rw [hv7]; exact F6.up _ _ _ (Or.inl (by have := u_lt ho; omega))
  intro x70 ex70
  have ix70 := i_add ex70 (by omega) (by omega)
  refine ⟨in_of (by omega) (by omega), ?_⟩
  intro v8 hv8
  have J8 : Jc n w v8 := by rw [hv8]; exact J7.free (ch5_0 ho).2.1 (al_5_0 ho) rfl (as_5_0 ho) (fun q => absurd q (by decide))
  have F8 : FrW v v8 := by rw [hv8]; exact F7.up _ _ _ (Or.inl (by have := u_lt ho; omega))
  intro x76 ex76
  have ix76 := i_add ex76 (by omega) (by omega)
  intro v9 hv9
  have J9 : Jc n w v9 := by rw [hv9]; exact p5_1 J8 ho (by omega)
  have F9 : FrW v v9 := by rw [hv9]; exact F8.up _ _ _ (Or.inl (by have := u_lt ho; omega))
  exact k  v9 J9 F9 
set_option maxHeartbeats 1000000 in
theorem s_X5_writeLink {n : Int32} {w v : VV} (J0 : Jc n w v) (o : Nat) (ho : isO 5 o) (p1 : Int32) (p2 : Int32) (p3 : Int32) (p4 : Int32)   {Q : VV → Prop} (k : ∀ v1 : VV, Jc n w v1 → FrW v v1 → Q v1) : w_X5_writeLink o p1 p2 p3 p4 v Q := by
  have l0 : Int32.toInt 0 = 0 := by decide
  have l1 : Int32.toInt 1 = 1 := by decide
  have l4 : Int32.toInt 4 = 4 := by decide
  have l5 : Int32.toInt 5 = 5 := by decide
  have l6 : Int32.toInt 6 = 6 := by decide
  have l7 : Int32.toInt 7 = 7 := by decide
  have l8 : Int32.toInt 8 = 8 := by decide
  have l192 : Int32.toInt 192 = 192 := by decide
  have l255 : Int32.toInt 255 = 255 := by decide
  have F0 : FrW v v := FrW.rf
  unfold w_X5_writeLink
  intro x8 ex8
  intro v1 hv1
  have J1 : Jc n w v1 := by rw [hv1]; exact J0.free (ch5_0 ho).2.1 (al_5_0 ho) rfl (as_5_0 ho) (fun q => absurd q (by decide))
  have F1 : FrW v v1 := by rw [hv1]; exact F0.up _ _ _ (Or.inl (by have := u_lt ho; omega))
  intro x19 ex19
  have ix19 := i_and ex19 (by decide)
  intro v2 hv2
  have J2 : Jc n w v2 := by rw [hv2]; exact J1.free (ch5_0 ho).2.1 (al_5_0 ho) rfl (as_5_0 ho) (fun q => absurd q (by decide))
  have F2 : FrW v v2 := by rw [hv2]; exact F1.up _ _ _ (Or.inl (by have := u_lt ho; omega))
  refine ⟨fun c25 => ?_, fun c25 => ?_⟩
  · have ic25 := i_ne c25
    intro v3 hv3
    have J3 : Jc n w v3 := by rw [hv3]; exact J2.free (ch5_0 ho).2.1 (al_5_0 ho) rfl (as_5_0 ho) (fun q => absurd q (by decide))
    have F3 : FrW v v3 := by rw [hv3]; exact F2.up _ _ _ (Or.inl (by have := u_lt ho; omega))
    refine s_X5_writeHead J3 o ho p1 p2 7 (by omega) (fun v4 J4 f53 => ?_)
    have F4 : FrW v v4 := F3.tr f53
    exact k  v4 J4 F4 
  · have ic25 := i_eq c25
    refine s_X5_writeHead J2 o ho p1 p2 6 (by omega) (fun v5 J5 f33 => ?_)
    have F5 : FrW v v5 := F2.tr f33
    exact k  v5 J5 F5 
set_option maxHeartbeats 1000000 in
theorem s_X5_writeNumbered {n : Int32} {w v : VV} (J0 : Jc n w v) (o : Nat) (ho : isO 5 o) (p1 : Int32) (p2 : Int32) (p3 : Int32)   {Q : VV → Prop} (k : ∀ v1 : VV, Jc n w v1 → FrW v v1 → Q v1) : w_X5_writeNumbered o p1 p2 p3 v Q := by
  have l0 : Int32.toInt 0 = 0 := by decide
  have l1 : Int32.toInt 1 = 1 := by decide
  have l4 : Int32.toInt 4 = 4 := by decide
  have l5 : Int32.toInt 5 = 5 := by decide
  have F0 : FrW v v := FrW.rf
  unfold w_X5_writeNumbered
  intro v1 hv1
  have J1 : Jc n w v1 := by rw [hv1]; exact J0.free (ch5_0 ho).2.1 (al_5_0 ho) rfl (as_5_0 ho) (fun q => absurd q (by decide))
  have F1 : FrW v v1 := by rw [hv1]; exact F0.up _ _ _ (Or.inl (by have := u_lt ho; omega))
  refine s_X5_writeHead J1 o ho p1 p2 5 (by omega) (fun v2 J2 f11 => ?_)
  have F2 : FrW v v2 := F1.tr f11
  exact k  v2 J2 F2 
set_option maxHeartbeats 1000000 in
theorem s_X5_add {n : Int32} {w v : VV} (J0 : Jc n w v) (o : Nat) (ho : isO 5 o) (p1 : Int32)   {Q : VV → Prop} (k : ∀ v1 : VV, Jc n w v1 → FrW v v1 → Q v1) : w_X5_add o p1 v Q := by
  have l0 : Int32.toInt 0 = 0 := by decide
  have l1 : Int32.toInt 1 = 1 := by decide
  have l17 : Int32.toInt 17 = 17 := by decide
  have F0 : FrW v v := FrW.rf
  unfold w_X5_add
  intro x1 ex1
  have bx1 := g5_1 J0 ho
  rw [← ex1] at bx1
  refine ⟨fun c6 => ?_, fun c6 => ?_⟩
  · have ic6 := i_le c6
    exact k  v J0 F0 
  · have ic6 := i_nle c6
    intro x14 ex14
    have bx14 := g5_1 J0 ho
    rw [← ex14] at bx14
    have e14 := i_eq (ex14.trans ex1.symm)
    refine ⟨in_of (by omega) (by omega), ?_⟩
    intro v1 hv1
    have J1 : Jc n w v1 := by rw [hv1]; exact J0.free (ch5_0 ho).2.1 (al_5_0 ho) rfl (as_5_0 ho) (fun q => absurd q (by decide))
    have F1 : FrW v v1 := by rw [hv1]; exact F0.up _ _ _ (Or.inl (by have := u_lt ho; omega))
    intro x21 ex21
    have bx21 := g5_1 J1 ho
    rw [← ex21] at bx21
    have e21 : x21 = x1 := by rw [ex21, hv1, up2_o _ _ _ _ _ (by omega), ← ex1]
    have e21 := i_eq e21
    intro x25 ex25
    have ix25 := i_add ex25 (by omega) (by omega)
    intro v2 hv2
    have J2 : Jc n w v2 := by rw [hv2]; exact p5_1 J1 ho (by omega)
    have F2 : FrW v v2 := by rw [hv2]; exact F1.up _ _ _ (Or.inl (by have := u_lt ho; omega))
    exact k  v2 J2 F2 
set_option maxHeartbeats 1000000 in
theorem sl_X5_plainSum_4 {n : Int32} {w : VV} (o : Nat) (ho : isO 5 o)  {Q : Int32 → VV → Prop}  : ∀ (m : Nat) (a1 : Int32) (a2 : Int32) (v : VV), Jc n w v → 0 ≤ a2.toInt ∧ a2.toInt ≤ 17 → (∀ x : Int32, Q x v) → 17 - a2.toInt < (m : Int) → b_X5_plainSum_4 o Q  m a1 a2 v := by
  have l0 : Int32.toInt 0 = 0 := by decide
  have l1 : Int32.toInt 1 = 1 := by decide
  intro m
  induction m with
  | zero =>
    intro a1 a2 v J0 h1 k hm
    exfalso
    omega
  | succ m ih =>
    intro a1 a2 v J0 h1 k hm
    intro x6 ex6
    have bx6 := g5_1 J0 ho
    rw [← ex6] at bx6
    refine ⟨fun c9 => ?_, fun c9 => ?_⟩
    · have ic9 := i_le c9
      exact k a1 
    · have ic9 := i_nle c9
      refine ⟨in_of (by omega) (by omega), ?_⟩
      intro x18 ex18
      intro x19 ex19
      intro x21 ex21
      have ix21 := i_add ex21 (by omega) (by omega)
      exact ih x19 x21 v J0 (by omega) k (by omega)
set_option maxHeartbeats 1000000 in
theorem s_X5_plainSum {n : Int32} {w v : VV} (J0 : Jc n w v) (o : Nat) (ho : isO 5 o)   {Q : Int32 → VV → Prop} (k : ∀ x : Int32, Q x v) : w_X5_plainSum o v Q := by
  have l0 : Int32.toInt 0 = 0 := by decide
  have l1 : Int32.toInt 1 = 1 := by decide
  unfold w_X5_plainSum
  exact ⟨100, sl_X5_plainSum_4 o ho    100 0 0 v J0 (by omega) k (by omega)⟩
set_option maxHeartbeats 1000000 in
theorem sl_X5_weightedSum_4 {n : Int32} {w : VV} (o : Nat) (ho : isO 5 o)  {Q : Int32 → VV → Prop}  : ∀ (m : Nat) (a1 : Int32) (a2 : Int32) (v : VV), Jc n w v → 0 ≤ a2.toInt ∧ a2.toInt ≤ 17 → (∀ x : Int32, Q x v) → 17 - a2.toInt < (m : Int) → b_X5_weightedSum_4 o Q  m a1 a2 v := by
  have l0 : Int32.toInt 0 = 0 := by decide
  have l1 : Int32.toInt 1 = 1 := by decide
  intro m
  induction m with
  | zero =>
    intro a1 a2 v J0 h1 k hm
    exfalso
    omega
  | succ m ih =>
    intro a1 a2 v J0 h1 k hm
    intro x6 ex6
    have bx6 := g5_1 J0 ho
    rw [← ex6] at bx6
    refine ⟨fun c9 => ?_, fun c9 => ?_⟩
    · have ic9 := i_le c9
      exact k a1 
    · have ic9 := i_nle c9
      intro x14 ex14
      have bx14 := g5_1 J0 ho
      rw [← ex14] at bx14
      intro x18 ex18
      refine ⟨in_of (by omega) (by omega), ?_⟩
      intro x24 ex24
      intro x25 ex25
      intro x26 ex26
      intro x28 ex28
      have ix28 := i_add ex28 (by omega) (by omega)
      exact ih x26 x28 v J0 (by omega) k (by omega)
set_option maxHeartbeats 1000000 in
theorem s_X5_weightedSum {n : Int32} {w v : VV} (J0 : Jc n w v) (o : Nat) (ho : isO 5 o)   {Q : Int32 → VV → Prop} (k : ∀ x : Int32, Q x v) : w_X5_weightedSum o v Q := by
  have l0 : Int32.toInt 0 = 0 := by decide
  have l1 : Int32.toInt 1 = 1 := by decide
  unfold w_X5_weightedSum
  exact ⟨100, sl_X5_weightedSum_4 o ho    100 0 0 v J0 (by omega) k (by omega)⟩
set_option maxHeartbeats 1000000 in
theorem s_X5_fillChecks {n : Int32} {w v : VV} (J0 : Jc n w v) (o : Nat) (ho : isO 5 o) (p1 : Int32) (p2 : Int32)   {Q : VV → Prop} (k : ∀ v1 : VV, Jc n w v1 → FrW v v1 → Q v1) : w_X5_fillChecks o p1 p2 v Q := by
  have l0 : Int32.toInt 0 = 0 := by decide
  have l1 : Int32.toInt 1 = 1 := by decide
  have l255 : Int32.toInt 255 = 255 := by decide
  have F0 : FrW v v := FrW.rf
  unfold w_X5_fillChecks
  intro x5 ex5
  intro x8 ex8
  have bx8 := g5_1 J0 ho
  rw [← ex8] at bx8
  intro x12 ex12
  intro x18 ex18
  intro x20 ex20
  intro x24 ex24
  intro x31 ex31
  intro x33 ex33
  intro x34 ex34
  intro x38 ex38
  refine ⟨fun c43 => ?_, fun c43 => ?_⟩
  · have ic43 := i_lt c43
    exact k  v J0 F0 
  · have ic43 := i_nlt c43
    intro x48 ex48
    have bx48 := g5_1 J0 ho
    rw [← ex48] at bx48
    refine ⟨fun c51 => ?_, fun c51 => ?_⟩
    · have ic51 := i_le c51
      exact k  v J0 F0 
    · have ic51 := i_nle c51
      intro x60 ex60
      have ix60 := i_sub ex60 (by omega) (by omega)
      refine ⟨fun c63 => ?_, fun c63 => ?_⟩
      · have ic63 := i_le c63
        unfold b_X5_fillChecks_77
        refine ⟨in_of (by omega) (by omega), ?_⟩
        intro v1 hv1
        have J1 : Jc n w v1 := by rw [hv1]; exact J0.free (ch5_0 ho).2.1 (al_5_0 ho) rfl (as_5_0 ho) (fun q => absurd q (by decide))
        have F1 : FrW v v1 := by rw [hv1]; exact F0.up _ _ _ (Or.inl (by have := u_lt ho; omega))
        refine ⟨fun c85 => ?_, fun c85 => ?_⟩
        · have ic85 := i_le c85
          unfold b_X5_fillChecks_99
          refine ⟨in_of (by omega) (by omega), ?_⟩
          intro v2 hv2
          have J2 : Jc n w v2 := by rw [hv2]; exact J1.free (ch5_0 ho).2.1 (al_5_0 ho) rfl (as_5_0 ho) (fun q => absurd q (by decide))
          have F2 : FrW v v2 := by rw [hv2]; exact F1.up _ _ _ (Or.inl (by have := u_lt ho; omega))
          exact k  v2 J2 F2 
        · have ic85 := i_nle c85
          intro x93 ex93
          unfold b_X5_fillChecks_99
          refine ⟨in_of (by omega) (by omega), ?_⟩
          intro v3 hv3
          have J3 : Jc n w v3 := by rw [hv3]; exact J1.free (ch5_0 ho).2.1 (al_5_0 ho) rfl (as_5_0 ho) (fun q => absurd q (by decide))
          have F3 : FrW v v3 := by rw [hv3]; exact F1.up _ _ _ (Or.inl (by have := u_lt ho; omega))
          exact k  v3 J3 F3 
      · have ic63 := i_nle c63
        intro x71 ex71
        unfold b_X5_fillChecks_77
        refine ⟨in_of (by omega) (by omega), ?_⟩
        intro v4 hv4
        have J4 : Jc n w v4 := by rw [hv4]; exact J0.free (ch5_0 ho).2.1 (al_5_0 ho) rfl (as_5_0 ho) (fun q => absurd q (by decide))
        have F4 : FrW v v4 := by rw [hv4]; exact F0.up _ _ _ (Or.inl (by have := u_lt ho; omega))
        refine ⟨fun c85 => ?_, fun c85 => ?_⟩
        · have ic85 := i_le c85
          unfold b_X5_fillChecks_99
          refine ⟨in_of (by omega) (by omega), ?_⟩
          intro v5 hv5
          have J5 : Jc n w v5 := by rw [hv5]; exact J4.free (ch5_0 ho).2.1 (al_5_0 ho) rfl (as_5_0 ho) (fun q => absurd q (by decide))
          have F5 : FrW v v5 := by rw [hv5]; exact F4.up _ _ _ (Or.inl (by have := u_lt ho; omega))
          exact k  v5 J5 F5 
        · have ic85 := i_nle c85
          intro x93 ex93
          unfold b_X5_fillChecks_99
          refine ⟨in_of (by omega) (by omega), ?_⟩
          intro v6 hv6
          have J6 : Jc n w v6 := by rw [hv6]; exact J4.free (ch5_0 ho).2.1 (al_5_0 ho) rfl (as_5_0 ho) (fun q => absurd q (by decide))
          have F6 : FrW v v6 := by rw [hv6]; exact F4.up _ _ _ (Or.inl (by have := u_lt ho; omega))
          exact k  v6 J6 F6 
set_option maxHeartbeats 1000000 in
theorem s_X5_kind {n : Int32} {w v : VV} (J0 : Jc n w v) (o : Nat) (ho : isO 5 o)   {Q : Int32 → VV → Prop} (k : ∀ x : Int32, (x = kindF (v (o + 1) 1)) → Q x v) : w_X5_kind o v Q := by
  have l0 : Int32.toInt 0 = 0 := by decide
  have l1 : Int32.toInt 1 = 1 := by decide
  have l96 : Int32.toInt 96 = 96 := by decide
  have l208 : Int32.toInt 208 = 208 := by decide
  have l224 : Int32.toInt 224 = 224 := by decide
  have l240 : Int32.toInt 240 = 240 := by decide
  unfold w_X5_kind
  intro x5 ex5
  intro x9 ex9
  have ix9 := i_and ex9 (by decide)
  refine ⟨fun c15 => ?_, fun c15 => ?_⟩
  · have ic15 := i_eq c15
    unfold b_X5_kind_31
    unfold b_X5_kind_36
    refine ⟨fun c38 => ?_, fun c38 => ?_⟩
    · exact absurd c38 (by decide)
    · have ic38 := i_ne c38
      exact k x9 (by first | (rw [ex9, ex5] at *; unfold kindF; rw [if_pos (by first | exact Or.inl (by assumption) | exact Or.inr (Or.inl (by assumption)) | exact Or.inr (Or.inr (by assumption)))]; rfl) | (rw [ex9, ex5] at *; unfold kindF; rw [if_neg (by intro q; rcases q with q | q | q <;> contradiction)]; assumption))
  · have ic15 := i_ne c15
    refine ⟨fun c22 => ?_, fun c22 => ?_⟩
    · have ic22 := i_eq c22
      unfold b_X5_kind_31
      unfold b_X5_kind_36
      refine ⟨fun c38 => ?_, fun c38 => ?_⟩
      · exact absurd c38 (by decide)
      · have ic38 := i_ne c38
        exact k x9 (by first | (rw [ex9, ex5] at *; unfold kindF; rw [if_pos (by first | exact Or.inl (by assumption) | exact Or.inr (Or.inl (by assumption)) | exact Or.inr (Or.inr (by assumption)))]; rfl) | (rw [ex9, ex5] at *; unfold kindF; rw [if_neg (by intro q; rcases q with q | q | q <;> contradiction)]; assumption))
    · have ic22 := i_ne c22
      refine ⟨fun c28 => ?_, fun c28 => ?_⟩
      · have ic28 := i_ne c28
        unfold b_X5_kind_36
        refine ⟨fun c38 => ?_, fun c38 => ?_⟩
        · have ic38 := i_eq c38
          intro x50 ex50
          exact k x50 (by first | (rw [ex9, ex5] at *; unfold kindF; rw [if_pos (by first | exact Or.inl (by assumption) | exact Or.inr (Or.inl (by assumption)) | exact Or.inr (Or.inr (by assumption)))]; rfl) | (rw [ex9, ex5] at *; unfold kindF; rw [if_neg (by intro q; rcases q with q | q | q <;> contradiction)]; assumption))
        · exact absurd c38 (by decide)
      · have ic28 := i_eq c28
        unfold b_X5_kind_31
        unfold b_X5_kind_36
        refine ⟨fun c38 => ?_, fun c38 => ?_⟩
        · exact absurd c38 (by decide)
        · have ic38 := i_ne c38
          exact k x9 (by first | (rw [ex9, ex5] at *; unfold kindF; rw [if_pos (by first | exact Or.inl (by assumption) | exact Or.inr (Or.inl (by assumption)) | exact Or.inr (Or.inr (by assumption)))]; rfl) | (rw [ex9, ex5] at *; unfold kindF; rw [if_neg (by intro q; rcases q with q | q | q <;> contradiction)]; assumption))
set_option maxHeartbeats 1000000 in
theorem s_X5_headLengthOfKind {n : Int32} {w v : VV} (J0 : Jc n w v) (o : Nat) (ho : isO 5 o)   {Q : Int32 → VV → Prop} (k : ∀ x : Int32, (x = headF (kindF (v (o + 1) 1))) → Q x v) : w_X5_headLengthOfKind o v Q := by
  have l0 : Int32.toInt 0 = 0 := by decide
  have l1 : Int32.toInt 1 = 1 := by decide
  have l9 : Int32.toInt 9 = 9 := by decide
  have l10 : Int32.toInt 10 = 10 := by decide
  have l11 : Int32.toInt 11 = 11 := by decide
  unfold w_X5_headLengthOfKind
  refine s_X5_kind J0 o ho  (fun x1 r1 => ?_)
  refine ⟨fun z4_0 => ?_, fun z4_1 => ?_, fun z4_2 => ?_, fun z4_3 => ?_, fun z4_4 => ?_, fun z4_5 => ?_, fun z4_6 => ?_, fun z4_7 => ?_, fun z4_0 z4_1 z4_2 z4_3 z4_4 z4_5 z4_6 z4_7 => ?_⟩
  · have iz4_0 := i_eq z4_0
    exact k 9 (by rw [← r1]; first | (rw [z4_0]; decide) | (rw [z4_1]; decide) | (rw [z4_2]; decide) | (rw [z4_3]; decide) | (rw [z4_4]; decide) | (rw [z4_5]; decide) | (rw [z4_6]; decide) | (rw [z4_7]; decide))
  · have iz4_1 := i_eq z4_1
    exact k 9 (by rw [← r1]; first | (rw [z4_0]; decide) | (rw [z4_1]; decide) | (rw [z4_2]; decide) | (rw [z4_3]; decide) | (rw [z4_4]; decide) | (rw [z4_5]; decide) | (rw [z4_6]; decide) | (rw [z4_7]; decide))
  · have iz4_2 := i_eq z4_2
    exact k 9 (by rw [← r1]; first | (rw [z4_0]; decide) | (rw [z4_1]; decide) | (rw [z4_2]; decide) | (rw [z4_3]; decide) | (rw [z4_4]; decide) | (rw [z4_5]; decide) | (rw [z4_6]; decide) | (rw [z4_7]; decide))
  · have iz4_3 := i_eq z4_3
    exact k 11 (by rw [← r1]; first | (rw [z4_0]; decide) | (rw [z4_1]; decide) | (rw [z4_2]; decide) | (rw [z4_3]; decide) | (rw [z4_4]; decide) | (rw [z4_5]; decide) | (rw [z4_6]; decide) | (rw [z4_7]; decide))
  · have iz4_4 := i_eq z4_4
    exact k 10 (by rw [← r1]; first | (rw [z4_0]; decide) | (rw [z4_1]; decide) | (rw [z4_2]; decide) | (rw [z4_3]; decide) | (rw [z4_4]; decide) | (rw [z4_5]; decide) | (rw [z4_6]; decide) | (rw [z4_7]; decide))
  · have iz4_5 := i_eq z4_5
    exact k 11 (by rw [← r1]; first | (rw [z4_0]; decide) | (rw [z4_1]; decide) | (rw [z4_2]; decide) | (rw [z4_3]; decide) | (rw [z4_4]; decide) | (rw [z4_5]; decide) | (rw [z4_6]; decide) | (rw [z4_7]; decide))
  · have iz4_6 := i_eq z4_6
    exact k 11 (by rw [← r1]; first | (rw [z4_0]; decide) | (rw [z4_1]; decide) | (rw [z4_2]; decide) | (rw [z4_3]; decide) | (rw [z4_4]; decide) | (rw [z4_5]; decide) | (rw [z4_6]; decide) | (rw [z4_7]; decide))
  · have iz4_7 := i_eq z4_7
    exact k 9 (by rw [← r1]; first | (rw [z4_0]; decide) | (rw [z4_1]; decide) | (rw [z4_2]; decide) | (rw [z4_3]; decide) | (rw [z4_4]; decide) | (rw [z4_5]; decide) | (rw [z4_6]; decide) | (rw [z4_7]; decide))
  · have iz4_0 := i_ne z4_0
    have iz4_1 := i_ne z4_1
    have iz4_2 := i_ne z4_2
    have iz4_3 := i_ne z4_3
    have iz4_4 := i_ne z4_4
    have iz4_5 := i_ne z4_5
    have iz4_6 := i_ne z4_6
    have iz4_7 := i_ne z4_7
    exact k 0 (by rw [← r1]; unfold headF; rw [if_neg (by intro q; rcases q with q | q | q <;> contradiction), if_neg (by assumption), if_neg (by intro q; rcases q with q | q | q | q <;> contradiction)])
set_option maxHeartbeats 1000000 in
theorem s_X5_hasBodyOfKind {n : Int32} {w v : VV} (J0 : Jc n w v) (o : Nat) (ho : isO 5 o) (p1 : Int32)   {Q : Int32 → VV → Prop} (k : ∀ x : Int32, ((x = 0 ∨ x = 1) ∧ (x = 1 → kindF (v (o + 1) 1) = 240 → p1.toInt ≤ 8)) → Q x v) : w_X5_hasBodyOfKind o p1 v Q := by
  have l0 : Int32.toInt 0 = 0 := by decide
  have l1 : Int32.toInt 1 = 1 := by decide
  have l8 : Int32.toInt 8 = 8 := by decide
  unfold w_X5_hasBodyOfKind
  refine s_X5_kind J0 o ho  (fun x1 r1 => ?_)
  refine ⟨fun z4_0 => ?_, fun z4_1 => ?_, fun z4_0 z4_1 => ?_⟩
  · have iz4_0 := i_eq z4_0
    refine ⟨fun c46 => ?_, fun c46 => ?_⟩
    · have ic46 := i_ne c46
      exact k 0 ⟨by decide, fun q1 q2 => by first | omega | (exfalso; revert q1; decide) | (exfalso; simp_all)⟩
    · have ic46 := i_eq c46
      exact k 1 ⟨by decide, fun q1 q2 => by first | omega | (exfalso; revert q1; decide) | (exfalso; simp_all)⟩
  · have iz4_1 := i_eq z4_1
    refine ⟨fun c35 => ?_, fun c35 => ?_⟩
    · have ic35 := i_lt c35
      exact k 0 ⟨by decide, fun q1 q2 => by first | omega | (exfalso; revert q1; decide) | (exfalso; simp_all)⟩
    · have ic35 := i_nlt c35
      exact k 1 ⟨by decide, fun q1 q2 => by first | omega | (exfalso; revert q1; decide) | (exfalso; simp_all)⟩
  · have iz4_0 := i_ne z4_0
    have iz4_1 := i_ne z4_1
    refine ⟨fun c56 => ?_, fun c56 => ?_⟩
    · have ic56 := i_ne c56
      exact k 0 ⟨by decide, fun q1 q2 => by first | omega | (exfalso; revert q1; decide) | (exfalso; simp_all)⟩
    · have ic56 := i_eq c56
      exact k 1 ⟨by decide, fun q1 q2 => by first | omega | (exfalso; revert q1; decide) | (exfalso; simp_all)⟩
set_option maxHeartbeats 1000000 in
theorem s_X5_isGood {n : Int32} {w v : VV} (J0 : Jc n w v) (o : Nat) (ho : isO 5 o)   {Q : Int32 → VV → Prop} (k : ∀ x : Int32, (¬ x = 0 → Gd o v) → Q x v) : w_X5_isGood o v Q := by
  have l0 : Int32.toInt 0 = 0 := by decide
  have l1 : Int32.toInt 1 = 1 := by decide
  have l2 : Int32.toInt 2 = 2 := by decide
  have l3 : Int32.toInt 3 = 3 := by decide
  have l4 : Int32.toInt 4 = 4 := by decide
  have l195 : Int32.toInt 195 = 195 := by decide
  have l255 : Int32.toInt 255 = 255 := by decide
  unfold w_X5_isGood
  refine s_X5_headLengthOfKind J0 o ho  (fun x1 r1 => ?_)
  have hr := headF_i (kindF (v (o + 1) 1))
  have ihd := i_eq r1
  refine ⟨fun c6 => ?_, fun c6 => ?_⟩
  · have ic6 := i_eq c6
    unfold b_X5_isGood_29
    exact k 0 (fun q => absurd rfl q)
  · have ic6 := i_ne c6
    intro x10 ex10
    have bx10 := g5_1 J0 ho
    rw [← ex10] at bx10
    refine ⟨fun c14 => ?_, fun c14 => ?_⟩
    · have ic14 := i_lt c14
      unfold b_X5_isGood_29
      exact k 0 (fun q => absurd rfl q)
    · have ic14 := i_nlt c14
      intro x22 ex22
      intro x25 ex25
      refine ⟨fun c26 => ?_, fun c26 => ?_⟩
      · have ic26 := i_eq c26
        intro x37 ex37
        have ix37 := i_sub ex37 (by omega) (by omega)
        refine ⟨in_of (by omega) (by omega), ?_⟩
        intro x38 ex38
        refine ⟨fun c42 => ?_, fun c42 => ?_⟩
        · have ic42 := i_ne c42
          unfold b_X5_isGood_57
          exact k 0 (fun q => absurd rfl q)
        · have ic42 := i_eq c42
          intro x51 ex51
          have ix51 := i_sub ex51 (by omega) (by omega)
          refine ⟨in_of (by omega) (by omega), ?_⟩
          intro x52 ex52
          refine ⟨fun c54 => ?_, fun c54 => ?_⟩
          · have ic54 := i_eq c54
            refine s_X5_plainSum J0 o ho  (fun x60 => ?_)
            intro x66 ex66
            refine ⟨fun c67 => ?_, fun c67 => ?_⟩
            · have ic67 := i_ne c67
              unfold b_X5_isGood_81
              exact k 0 (fun q => absurd rfl q)
            · have ic67 := i_eq c67
              refine s_X5_weightedSum J0 o ho  (fun x71 => ?_)
              intro x77 ex77
              refine ⟨fun c78 => ?_, fun c78 => ?_⟩
              · have ic78 := i_eq c78
                intro x85 ex85
                have bx85 := g5_1 J0 ho
                rw [← ex85] at bx85
                skip
                intro x89 ex89
                have ix89 := i_sub ex89 (by omega) (by omega)
                refine s_X5_hasBodyOfKind J0 o ho x89  (fun x90 r90 => ?_)
                refine ⟨r90.1, ?_⟩
                exact k x90 (fun q => by
                    intro q2
                    have := r90.2 (r90.1.resolve_left q) q2
                    have h9 : headF (kindF (v (o + 1) 1)) = 9 := by rw [q2]; decide
                    have h10 := i_eq h9
                    have l9 : Int32.toInt 9 = 9 := by decide
                    have e1 := i_eq ex10
                    have e2 := i_eq ex85
                    omega)
              · have ic78 := i_ne c78
                unfold b_X5_isGood_81
                exact k 0 (fun q => absurd rfl q)
          · have ic54 := i_ne c54
            unfold b_X5_isGood_57
            exact k 0 (fun q => absurd rfl q)
      · have ic26 := i_ne c26
        unfold b_X5_isGood_29
        exact k 0 (fun q => absurd rfl q)
set_option maxHeartbeats 1000000 in
theorem s_X5_pairAt {n : Int32} {w v : VV} (J0 : Jc n w v) (o : Nat) (ho : isO 5 o) (p1 : Int32)  (hp : 0 ≤ p1.toInt ∧ p1.toInt ≤ 15) {Q : Int32 → VV → Prop} (k : ∀ x : Int32, Q x v) : w_X5_pairAt o p1 v Q := by
  have l0 : Int32.toInt 0 = 0 := by decide
  have l1 : Int32.toInt 1 = 1 := by decide
  have l256 : Int32.toInt 256 = 256 := by decide
  unfold w_X5_pairAt
  refine ⟨in_of (by omega) (by omega), ?_⟩
  intro x5 ex5
  intro x9 ex9
  intro x16 ex16
  have ix16 := i_add ex16 (by omega) (by omega)
  refine ⟨in_of (by omega) (by omega), ?_⟩
  intro x17 ex17
  intro x18 ex18
  exact k x18 
set_option maxHeartbeats 1000000 in
theorem s_X5_to {n : Int32} {w v : VV} (J0 : Jc n w v) (o : Nat) (ho : isO 5 o)   {Q : Int32 → VV → Prop} (k : ∀ x : Int32, Q x v) : w_X5_to o v Q := by
  have l0 : Int32.toInt 0 = 0 := by decide
  have l1 : Int32.toInt 1 = 1 := by decide
  have l2 : Int32.toInt 2 = 2 := by decide
  unfold w_X5_to
  refine s_X5_pairAt J0 o ho 2 (by omega) (fun x2 => ?_)
  exact k x2 
set_option maxHeartbeats 1000000 in
theorem s_X5_from {n : Int32} {w v : VV} (J0 : Jc n w v) (o : Nat) (ho : isO 5 o)   {Q : Int32 → VV → Prop} (k : ∀ x : Int32, Q x v) : w_X5_from o v Q := by
  have l0 : Int32.toInt 0 = 0 := by decide
  have l1 : Int32.toInt 1 = 1 := by decide
  have l4 : Int32.toInt 4 = 4 := by decide
  unfold w_X5_from
  refine s_X5_pairAt J0 o ho 4 (by omega) (fun x2 => ?_)
  exact k x2 
set_option maxHeartbeats 1000000 in
theorem s_X5_credit {n : Int32} {w v : VV} (J0 : Jc n w v) (o : Nat) (ho : isO 5 o)   {Q : Int32 → VV → Prop} (k : ∀ x : Int32, Q x v) : w_X5_credit o v Q := by
  have l0 : Int32.toInt 0 = 0 := by decide
  have l1 : Int32.toInt 1 = 1 := by decide
  have l15 : Int32.toInt 15 = 15 := by decide
  unfold w_X5_credit
  intro x5 ex5
  intro x8 ex8
  have ix8 := i_and ex8 (by decide)
  exact k x8 
set_option maxHeartbeats 1000000 in
theorem s_X5_reason {n : Int32} {w v : VV} (J0 : Jc n w v) (o : Nat) (ho : isO 5 o)   {Q : Int32 → VV → Prop} (k : ∀ x : Int32, Q x v) : w_X5_reason o v Q := by
  have l0 : Int32.toInt 0 = 0 := by decide
  have l1 : Int32.toInt 1 = 1 := by decide
  have l6 : Int32.toInt 6 = 6 := by decide
  unfold w_X5_reason
  intro x6 ex6
  exact k x6 
set_option maxHeartbeats 1000000 in
theorem s_X5_number {n : Int32} {w v : VV} (J0 : Jc n w v) (o : Nat) (ho : isO 5 o)   {Q : Int32 → VV → Prop} (k : ∀ x : Int32, (0 ≤ x.toInt ∧ x.toInt ≤ 127) → Q x v) : w_X5_number o v Q := by
  have l0 : Int32.toInt 0 = 0 := by decide
  have l1 : Int32.toInt 1 = 1 := by decide
  have l4 : Int32.toInt 4 = 4 := by decide
  have l127 : Int32.toInt 127 = 127 := by decide
  unfold w_X5_number
  intro x5 ex5
  intro x8 ex8
  have ix8 := i_and ex8 (by decide)
  exact k x8 (by omega)
set_option maxHeartbeats 1000000 in
theorem s_X5_isLast {n : Int32} {w v : VV} (J0 : Jc n w v) (o : Nat) (ho : isO 5 o)   {Q : Int32 → VV → Prop} (k : ∀ x : Int32, (x = 0 ∨ x = 1) → Q x v) : w_X5_isLast o v Q := by
  have l0 : Int32.toInt 0 = 0 := by decide
  have l1 : Int32.toInt 1 = 1 := by decide
  have l4 : Int32.toInt 4 = 4 := by decide
  have l128 : Int32.toInt 128 = 128 := by decide
  unfold w_X5_isLast
  intro x5 ex5
  intro x9 ex9
  have ix9 := i_and ex9 (by decide)
  refine ⟨fun c10 => ?_, fun c10 => ?_⟩
  · have ic10 := i_eq c10
    exact k 0 (by decide)
  · have ic10 := i_ne c10
    exact k 1 (by decide)
