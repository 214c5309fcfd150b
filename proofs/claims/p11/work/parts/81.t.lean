
set_option maxHeartbeats 1000000 in
theorem s_X9_isNoEnd {n : Int32} {w v : VV} (J0 : Jc n w v) (p1 : Int32)   {Q : Int32 → VV → Prop} (k : ∀ x : Int32, (x = 0 → 0 ≤ p1.toInt ∧ p1.toInt ≤ 1) → Q x v) : w_X9_isNoEnd p1 v Q := by
  have l0 : Int32.toInt 0 = 0 := by decide
  have l1 : Int32.toInt 1 = 1 := by decide
  unfold w_X9_isNoEnd
  refine ⟨fun c1 => ?_, fun c1 => ?_⟩
  · have ic1 := i_eq c1
    unfold b_X9_isNoEnd_13
    exact k 0 (fun q => by first | omega | (exfalso; revert q; decide))
  · have ic1 := i_ne c1
    refine ⟨fun c6 => ?_, fun c6 => ?_⟩
    · have ic6 := i_eq c6
      unfold b_X9_isNoEnd_13
      exact k 0 (fun q => by first | omega | (exfalso; revert q; decide))
    · have ic6 := i_ne c6
      exact k 1 (fun q => by first | omega | (exfalso; revert q; decide))
set_option maxHeartbeats 1000000 in
theorem s_X9_call {n : Int32} {w v : VV} (J0 : Jc n w v) (p1 : Int32)   {Q : Int32 → VV → Prop} (k : ∀ (x : Int32) (v1 : VV), Jc n w v1 → Q x v1) : w_X9_call p1 v Q := by
  have lm1 : Int32.toInt (-1) = -1 := by decide
  have l0 : Int32.toInt 0 = 0 := by decide
  have l1 : Int32.toInt 1 = 1 := by decide
  unfold w_X9_call
  refine s_X9_isNoEnd J0 p1  (fun x1 r1 => ?_)
  refine ⟨fun c4 => ?_, fun c4 => ?_⟩
  · have ic4 := i_eq c4
    have hb := r1 c4
    have hi14 : vp_in p1 2 := in_of (by omega) (by omega)
    refine ⟨hi14, ?_⟩
    intro t14 et14
    have qt14 := (arE (i := (Int32.toNatClampNeg p1)) (in_lt hi14)).2
    rw [← et14] at qt14
    refine s_X0_callPeer J0 t14 qt14  (fun x15 v2 J1 => ?_)
    exact k x15 v2 J1  
  · have ic4 := i_ne c4
    exact k ((-1)) v J0  
set_option maxHeartbeats 1000000 in
theorem s_X9_end {n : Int32} {w v : VV} (J0 : Jc n w v) (p1 : Int32)   {Q : Int32 → VV → Prop} (k : ∀ (x : Int32) (v1 : VV), Jc n w v1 → Q x v1) : w_X9_end p1 v Q := by
  have lm1 : Int32.toInt (-1) = -1 := by decide
  have l0 : Int32.toInt 0 = 0 := by decide
  have l1 : Int32.toInt 1 = 1 := by decide
  unfold w_X9_end
  refine s_X9_isNoEnd J0 p1  (fun x1 r1 => ?_)
  refine ⟨fun c4 => ?_, fun c4 => ?_⟩
  · have ic4 := i_eq c4
    have hb := r1 c4
    have hi14 : vp_in p1 2 := in_of (by omega) (by omega)
    refine ⟨hi14, ?_⟩
    intro t14 et14
    have qt14 := (arE (i := (Int32.toNatClampNeg p1)) (in_lt hi14)).2
    rw [← et14] at qt14
    refine s_X0_endConnection J0 t14 qt14  (fun x15 v2 J1 => ?_)
    exact k x15 v2 J1  
  · have ic4 := i_ne c4
    exact k ((-1)) v J0  
set_option maxHeartbeats 1000000 in
theorem s_X9_take {n : Int32} {w v : VV} (J0 : Jc n w v) (p1 : Int32)   {Q : Int32 → VV → Prop} (k : ∀ (x : Int32) (v1 : VV), Jc n w v1 → Q x v1) : w_X9_take p1 v Q := by
  have lm1 : Int32.toInt (-1) = -1 := by decide
  have l0 : Int32.toInt 0 = 0 := by decide
  have l1 : Int32.toInt 1 = 1 := by decide
  unfold w_X9_take
  refine s_X9_isNoEnd J0 p1  (fun x1 r1 => ?_)
  refine ⟨fun c4 => ?_, fun c4 => ?_⟩
  · have ic4 := i_eq c4
    have hb := r1 c4
    have hi14 : vp_in p1 2 := in_of (by omega) (by omega)
    refine ⟨hi14, ?_⟩
    intro t14 et14
    have qt14 := (arE (i := (Int32.toNatClampNeg p1)) (in_lt hi14)).2
    rw [← et14] at qt14
    refine s_X0_takeMessage J0 t14 qt14  (fun x15 v2 J1 => ?_)
    exact k x15 v2 J1  
  · have ic4 := i_ne c4
    exact k ((-1)) v J0  
set_option maxHeartbeats 1000000 in
theorem s_X9_read {n : Int32} {w v : VV} (J0 : Jc n w v) (p1 : Int32) (p2 : Int32)   {Q : Int32 → VV → Prop} (k : ∀ (x : Int32) (v1 : VV), Jc n w v1 → Q x v1) : w_X9_read p1 p2 v Q := by
  have lm1 : Int32.toInt (-1) = -1 := by decide
  have l0 : Int32.toInt 0 = 0 := by decide
  have l1 : Int32.toInt 1 = 1 := by decide
  unfold w_X9_read
  refine s_X9_isNoEnd J0 p1  (fun x1 r1 => ?_)
  refine ⟨fun c4 => ?_, fun c4 => ?_⟩
  · have ic4 := i_eq c4
    have hb := r1 c4
    have hi14 : vp_in p1 2 := in_of (by omega) (by omega)
    refine ⟨hi14, ?_⟩
    intro t14 et14
    have qt14 := (arE (i := (Int32.toNatClampNeg p1)) (in_lt hi14)).2
    rw [← et14] at qt14
    refine s_X1_takenByte J0 (t14 + 123) (ch0_3 qt14).2 p2  (fun x19 => ?_)
    exact k x19 v J0  
  · have ic4 := i_ne c4
    exact k ((-1)) v J0  
set_option maxHeartbeats 1000000 in
theorem s_X9_urgent {n : Int32} {w v : VV} (J0 : Jc n w v) (p1 : Int32)   {Q : Int32 → VV → Prop} (k : ∀ (x : Int32) (v1 : VV), Jc n w v1 → Q x v1) : w_X9_urgent p1 v Q := by
  have lm1 : Int32.toInt (-1) = -1 := by decide
  have l0 : Int32.toInt 0 = 0 := by decide
  have l1 : Int32.toInt 1 = 1 := by decide
  unfold w_X9_urgent
  refine s_X9_isNoEnd J0 p1  (fun x1 r1 => ?_)
  refine ⟨fun c4 => ?_, fun c4 => ?_⟩
  · have ic4 := i_eq c4
    have hb := r1 c4
    have hi14 : vp_in p1 2 := in_of (by omega) (by omega)
    refine ⟨hi14, ?_⟩
    intro t14 et14
    have qt14 := (arE (i := (Int32.toNatClampNeg p1)) (in_lt hi14)).2
    rw [← et14] at qt14
    refine s_X6_takeByte J0 (t14 + 143) (ch0_5 qt14).2  (fun x18 v2 J1 => ?_)
    exact k x18 v2 J1  
  · have ic4 := i_ne c4
    exact k ((-1)) v J0  
set_option maxHeartbeats 1000000 in
theorem s_X9_told {n : Int32} {w v : VV} (J0 : Jc n w v) (p1 : Int32) (p2 : Int32)   {Q : Int32 → VV → Prop} (k : ∀ (x : Int32) (v1 : VV), Jc n w v1 → Q x v1) : w_X9_told p1 p2 v Q := by
  have lm1 : Int32.toInt (-1) = -1 := by decide
  have l0 : Int32.toInt 0 = 0 := by decide
  have l1 : Int32.toInt 1 = 1 := by decide
  unfold w_X9_told
  refine s_X9_isNoEnd J0 p1  (fun x1 r1 => ?_)
  refine ⟨fun c4 => ?_, fun c4 => ?_⟩
  · have ic4 := i_eq c4
    have hb := r1 c4
    have hi14 : vp_in p1 2 := in_of (by omega) (by omega)
    refine ⟨hi14, ?_⟩
    intro t14 et14
    have qt14 := (arE (i := (Int32.toNatClampNeg p1)) (in_lt hi14)).2
    rw [← et14] at qt14
    refine s_X0_tell J0 t14 qt14 p2  (fun x16 => ?_)
    exact k x16 v J0  
  · have ic4 := i_ne c4
    exact k ((-1)) v J0  
set_option maxHeartbeats 1000000 in
theorem sl_X9_type_32 {n : Int32} {w : VV} (p1 : Int64) (p2 : Int32)  {Q : Int32 → VV → Prop} (k : ∀ (x : Int32) (v1 : VV), Jc n w v1 → Q x v1) : ∀ (m : Nat) (a1 : Int64) (a3 : Int32) (a4 : Int32) (v : VV), Jc n w v → -1 ≤ a4.toInt ∧ a4.toInt ≤ 7 → (v 0 3).toInt + a4.toInt + 1 ≤ 64 → a4.toInt + 1 < (m : Int) → b_X9_type_32 p1 p2 Q  m a1 a3 a4 v := by
  have lm3 : Int32.toInt (-3) = -3 := by decide
  have lm1 : Int32.toInt (-1) = -1 := by decide
  have l0 : Int32.toInt 0 = 0 := by decide
  have l1 : Int32.toInt 1 = 1 := by decide
  have l8 : Int32.toInt 8 = 8 := by decide
  have l64 : Int32.toInt 64 = 64 := by decide
  have l255 : Int32.toInt 255 = 255 := by decide
  intro m
  induction m with
  | zero =>
    intro a1 a3 a4 v J0 h1 h2 hm
    exfalso
    omega
  | succ m ih =>
    intro a1 a3 a4 v J0 h1 h2 hm
    refine ⟨fun c34 => ?_, fun c34 => ?_⟩
    · have ic34 := i_lt c34
      intro x75 ex75
      have bx75 := g9_3 J0 th9
      rw [← ex75] at bx75
      exact k x75 v J0  
    · have ic34 := i_nlt c34
      intro x42 ex42
      have bx42 := g9_3 J0 th9
      rw [← ex42] at bx42
      have e42 := i_eq ex42
      intro x50 ex50
      have ix50 := i_mul ex50 (by rw [l8]; omega) (by rw [l8]; omega)
      rw [l8] at ix50
      intro x51 ex51
      intro x52 ex52
      intro x56 ex56
      have ix56 := i_and ex56 (by decide)
      refine ⟨in_of (by omega) (by omega), ?_⟩
      intro v1 hv1
      have J1 : Jc n w v1 := by rw [hv1]; exact J0.free (ch9_2 th9).2.1 (by decide) rfl (by decide) (fun q => absurd q (by decide))
      intro x60 ex60
      have bx60 := g9_3 J1 th9
      rw [← ex60] at bx60
      have f60 : x60 = x42 := by rw [ex60, hv1, up2_o _ _ _ _ _ (by decide), ← ex42]
      have e60 := i_eq f60
      intro x64 ex64
      have ix64 := i_add ex64 (by omega) (by omega)
      intro v2 hv2
      have J2 : Jc n w v2 := by rw [hv2]; exact p9_3 J1 th9 (by omega)
      intro x68 ex68
      have ix68 := i_add ex68 (by omega) (by omega)
      exact ih a1 a3 x68 v2 J2 (by omega) (by rw [hv2, up2_s]; omega) (by omega)
set_option maxHeartbeats 1000000 in
theorem s_X9_type {n : Int32} {w v : VV} (J0 : Jc n w v) (p1 : Int64) (p2 : Int32)   {Q : Int32 → VV → Prop} (k : ∀ (x : Int32) (v1 : VV), Jc n w v1 → Q x v1) : w_X9_type p1 p2 v Q := by
  have lm3 : Int32.toInt (-3) = -3 := by decide
  have lm1 : Int32.toInt (-1) = -1 := by decide
  have l0 : Int32.toInt 0 = 0 := by decide
  have l1 : Int32.toInt 1 = 1 := by decide
  have l8 : Int32.toInt 8 = 8 := by decide
  have l64 : Int32.toInt 64 = 64 := by decide
  have l255 : Int32.toInt 255 = 255 := by decide
  unfold w_X9_type
  refine ⟨fun c2 => ?_, fun c2 => ?_⟩
  · have ic2 := i_lt c2
    unfold b_X9_type_11
    exact k ((-1)) v J0  
  · have ic2 := i_nlt c2
    refine ⟨fun c8 => ?_, fun c8 => ?_⟩
    · have ic8 := i_le c8
      intro x14 ex14
      have bx14 := g9_3 J0 th9
      rw [← ex14] at bx14
      intro x18 ex18
      have ix18 := i_add ex18 (by omega) (by omega)
      refine ⟨fun c21 => ?_, fun c21 => ?_⟩
      · have ic21 := i_le c21
        intro x29 ex29
        have ix29 := i_sub ex29 (by omega) (by omega)
        exact ⟨100, sl_X9_type_32 p1 p2  k  100 p1 p2 x29 v J0 (by omega) (by have := i_eq ex14; omega) (by omega)⟩
      · have ic21 := i_nle c21
        exact k ((-3)) v J0  
    · have ic8 := i_nle c8
      unfold b_X9_type_11
      exact k ((-1)) v J0  
set_option maxHeartbeats 1000000 in
theorem s_X9_send {n : Int32} {w v : VV} (J0 : Jc n w v) (p1 : Int32)   {Q : Int32 → VV → Prop} (k : ∀ (x : Int32) (v1 : VV), Jc n w v1 → Q x v1) : w_X9_send p1 v Q := by
  have lm1 : Int32.toInt (-1) = -1 := by decide
  have l0 : Int32.toInt 0 = 0 := by decide
  have l1 : Int32.toInt 1 = 1 := by decide
  unfold w_X9_send
  refine s_X9_isNoEnd J0 p1  (fun x1 r1 => ?_)
  refine ⟨fun c4 => ?_, fun c4 => ?_⟩
  · have ic4 := i_eq c4
    have hb := r1 c4
    have hi14 : vp_in p1 2 := in_of (by omega) (by omega)
    refine ⟨hi14, ?_⟩
    intro t14 et14
    have qt14 := (arE (i := (Int32.toNatClampNeg p1)) (in_lt hi14)).2
    rw [← et14] at qt14
    intro x20 ex20
    have bx20 := g9_3 J0 th9
    rw [← ex20] at bx20
    refine s_X0_sendMessage J0 t14 qt14 x20 (by omega) (fun x23 v2 J1 => ?_)
    refine ⟨fun c28 => ?_, fun c28 => ?_⟩
    · have ic28 := i_lt c28
      unfold b_X9_send_36
      exact k x23 v2 J1  
    · have ic28 := i_nlt c28
      intro v3 hv3
      have J2 : Jc n w v3 := by rw [hv3]; exact p9_3 J1 th9 (by omega)
      unfold b_X9_send_36
      exact k x23 v3 J2  
  · have ic4 := i_ne c4
    exact k ((-1)) v J0  
set_option maxHeartbeats 1000000 in
theorem s_X9_urge {n : Int32} {w v : VV} (J0 : Jc n w v) (p1 : Int32) (p2 : Int32)   {Q : Int32 → VV → Prop} (k : ∀ (x : Int32) (v1 : VV), Jc n w v1 → Q x v1) : w_X9_urge p1 p2 v Q := by
  have lm1 : Int32.toInt (-1) = -1 := by decide
  have l0 : Int32.toInt 0 = 0 := by decide
  have l1 : Int32.toInt 1 = 1 := by decide
  have l255 : Int32.toInt 255 = 255 := by decide
  unfold w_X9_urge
  refine s_X9_isNoEnd J0 p1  (fun x1 r1 => ?_)
  refine ⟨fun c4 => ?_, fun c4 => ?_⟩
  · have ic4 := i_ne c4
    unfold b_X9_urge_18
    exact k ((-1)) v J0  
  · have ic4 := i_eq c4
    have hb := r1 c4
    refine ⟨fun c8 => ?_, fun c8 => ?_⟩
    · have ic8 := i_lt c8
      unfold b_X9_urge_18
      exact k ((-1)) v J0  
    · have ic8 := i_nlt c8
      refine ⟨fun c15 => ?_, fun c15 => ?_⟩
      · have ic15 := i_le c15
        have hi25 : vp_in p1 2 := in_of (by omega) (by omega)
        refine ⟨hi25, ?_⟩
        intro t25 et25
        have qt25 := (arE (i := (Int32.toNatClampNeg p1)) (in_lt hi25)).2
        rw [← et25] at qt25
        refine s_X0_sendUrgentByte J0 t25 qt25 p2  (fun x27 v2 J1 => ?_)
        exact k x27 v2 J1  
      · have ic15 := i_nle c15
        unfold b_X9_urge_18
        exact k ((-1)) v J0  
set_option maxHeartbeats 1000000 in
theorem s_X9_fault {n : Int32} {w v : VV} (J0 : Jc n w v) (p1 : Int32) (p2 : Int32) (p3 : Int32) (p4 : Int32)   {Q : Int32 → VV → Prop} (k : ∀ (x : Int32) (v1 : VV), Jc n w v1 → Q x v1) : w_X9_fault p1 p2 p3 p4 v Q := by
  have lm1 : Int32.toInt (-1) = -1 := by decide
  have l0 : Int32.toInt 0 = 0 := by decide
  have l1 : Int32.toInt 1 = 1 := by decide
  have l4 : Int32.toInt 4 = 4 := by decide
  have l255 : Int32.toInt 255 = 255 := by decide
  unfold w_X9_fault
  refine ⟨fun c2 => ?_, fun c2 => ?_⟩
  · have ic2 := i_lt c2
    unfold b_X9_fault_21
    exact k ((-1)) v J0  
  · have ic2 := i_nlt c2
    refine ⟨fun c7 => ?_, fun c7 => ?_⟩
    · have ic7 := i_lt c7
      unfold b_X9_fault_21
      exact k ((-1)) v J0  
    · have ic7 := i_nlt c7
      intro x15 ex15
      refine ⟨fun c18 => ?_, fun c18 => ?_⟩
      · have ic18 := i_le c18
        refine ⟨fun c25 => ?_, fun c25 => ?_⟩
        · have ic25 := i_ne c25
          unfold b_X9_fault_48
          refine s_X2_addFault J0 p1 p2 p3 p4 (by by_cases q : 0 ≤ p3.toInt; exact Or.inr q; refine Or.inl ?_; have h : p1.toInt = 1 ∨ p1.toInt = 2 ∨ p1.toInt = 3 := (by omega); rcases h with h | h | h; exact Or.inl (i_of (by rw [h]; decide)); exact Or.inr (Or.inl (i_of (by rw [h]; decide))); exact Or.inr (Or.inr (i_of (by rw [h]; decide)))) (fun x57 v1 J1 => ?_)
          exact k x57 v1 J1  
        · have ic25 := i_eq c25
          refine ⟨fun c29 => ?_, fun c29 => ?_⟩
          · have ic29 := i_lt c29
            unfold b_X9_fault_46
            exact k ((-1)) v J0  
          · have ic29 := i_nlt c29
            refine ⟨fun c35 => ?_, fun c35 => ?_⟩
            · have ic35 := i_lt c35
              unfold b_X9_fault_46
              exact k ((-1)) v J0  
            · have ic35 := i_nlt c35
              refine ⟨fun c43 => ?_, fun c43 => ?_⟩
              · have ic43 := i_le c43
                unfold b_X9_fault_48
                refine s_X2_addFault J0 p1 p2 p3 p4 (by by_cases q : 0 ≤ p3.toInt; exact Or.inr q; refine Or.inl ?_; have h : p1.toInt = 1 ∨ p1.toInt = 2 ∨ p1.toInt = 3 := (by omega); rcases h with h | h | h; exact Or.inl (i_of (by rw [h]; decide)); exact Or.inr (Or.inl (i_of (by rw [h]; decide))); exact Or.inr (Or.inr (i_of (by rw [h]; decide)))) (fun x57 v2 J2 => ?_)
                exact k x57 v2 J2  
              · have ic43 := i_nle c43
                unfold b_X9_fault_46
                exact k ((-1)) v J0  
      · have ic18 := i_nle c18
        unfold b_X9_fault_21
        exact k ((-1)) v J0  
set_option maxHeartbeats 1000000 in
theorem sl_X9_deliver_16 {n : Int32} {w : VV} (p1 : Int32)  {Q : VV → Prop} (k : ∀ v1 : VV, Jc n w v1 → Q v1) : ∀ (m : Nat) (a1 : Int32) (a2 : Int32) (a3 : Int32) (v : VV), Jc n w v → max 0 (a2.toInt - a3.toInt) < (m : Int) → b_X9_deliver_16 p1 Q  m a1 a2 a3 v := by
  have l0 : Int32.toInt 0 = 0 := by decide
  have l1 : Int32.toInt 1 = 1 := by decide
  intro m
  induction m with
  | zero =>
    intro a1 a2 a3 v J0  hm
    exfalso
    omega
  | succ m ih =>
    intro a1 a2 a3 v J0  hm
    have r2 := i_rng a2
    have r3 := i_rng a3
    refine ⟨fun c18 => ?_, fun c18 => ?_⟩
    · have ic18 := i_le c18
      exact k  v J0  
    · have ic18 := i_nle c18
      refine s_X2_arrivesNow J0 a3 a1  (fun x27 => ?_)
      refine ⟨fun c30 => ?_, fun c30 => ?_⟩
      · have ic30 := i_eq c30
        unfold b_X9_deliver_68
        intro x68 ex68
        have ix68 := i_add ex68 (by omega) (by omega)
        exact ih a1 a2 x68 v J0  (by omega)
      · have ic30 := i_ne c30
        refine s_X2_unitAsItArrives J0 a3  (fun t38 v2 J1 r38 => ?_)
        refine ⟨(by rw [r38]; exact (by decide : isO 5 3)), ?_⟩
        have qt38 : isO 5 t38 := (by rw [r38]; exact (by decide : isO 5 3))
        refine s_X5_isGood J1 t38 qt38  (fun x45 r45 => ?_)
        refine ⟨fun c48 => ?_, fun c48 => ?_⟩
        · have ic48 := i_eq c48
          unfold b_X9_deliver_68
          intro x68 ex68
          have ix68 := i_add ex68 (by omega) (by omega)
          exact ih a1 a2 x68 v2 J1  (by omega)
        · have ic48 := i_ne c48
          intro x58 ex58
          have bx58 := g5_2 J1 qt38
          rw [← ex58] at bx58
          have bx58 := zb_i bx58
          intro x61 ex61
          have ix61 := i_sub ex61 (by omega) (by omega)
          have hi62 : vp_in x61 2 := in_of (by omega) (by omega)
          refine ⟨hi62, ?_⟩
          intro t62 et62
          have qt62 := (arE (i := (Int32.toNatClampNeg x61)) (in_lt hi62)).2
          rw [← et62] at qt62
          refine s_X0_hear J1 t62 qt62 t38 qt38 (r45 c48) (fun v4 J2 => ?_)
          unfold b_X9_deliver_68
          intro x68 ex68
          have ix68 := i_add ex68 (by omega) (by omega)
          exact ih a1 a2 x68 v4 J2  (by omega)
set_option maxHeartbeats 1000000 in
theorem s_X9_deliver {n : Int32} {w v : VV} (J0 : Jc n w v) (p1 : Int32)   {Q : VV → Prop} (k : ∀ v1 : VV, Jc n w v1 → Q v1) : w_X9_deliver p1 v Q := by
  have l0 : Int32.toInt 0 = 0 := by decide
  have l1 : Int32.toInt 1 = 1 := by decide
  unfold w_X9_deliver
  intro x4 ex4
  have r4 := i_rng x4
  intro x12 ex12
  have r12 := i_rng x12
  exact ⟨4294967299, sl_X9_deliver_16 p1  k  4294967299 p1 x4 x12 v J0  (by omega)⟩
set_option maxHeartbeats 1000000 in
theorem s_X9_sent {n : Int32} {w v : VV} (J0 : Jc n w v)    {Q : Int32 → VV → Prop} (k : ∀ x : Int32, Q x v) : w_X9_sent  v Q := by
  have l0 : Int32.toInt 0 = 0 := by decide
  have l1 : Int32.toInt 1 = 1 := by decide
  unfold w_X9_sent
  intro x4 ex4
  exact k x4 
set_option maxHeartbeats 1000000 in
theorem s_X9_byteOf {n : Int32} {w v : VV} (J0 : Jc n w v) (p1 : Int32) (p2 : Int32)   {Q : Int32 → VV → Prop} (k : ∀ x : Int32, Q x v) : w_X9_byteOf p1 p2 v Q := by
  have l0 : Int32.toInt 0 = 0 := by decide
  have l1 : Int32.toInt 1 = 1 := by decide
  unfold w_X9_byteOf
  refine s_X2_recordedByte J0 p1 p2  (fun x6 => ?_)
  exact k x6 
set_option maxHeartbeats 1000000 in
theorem s_X9_clock {n : Int32} {w v : VV} (J0 : Jc n w v)    {Q : Int32 → VV → Prop} (k : ∀ x : Int32, (x = n) → Q x v) : w_X9_clock  v Q := by
  have l0 : Int32.toInt 0 = 0 := by decide
  have l1 : Int32.toInt 1 = 1 := by decide
  unfold w_X9_clock
  intro x4 ex4
  exact k x4 (by rw [ex4]; exact J0.2.1)
