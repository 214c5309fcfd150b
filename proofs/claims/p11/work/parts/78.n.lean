theorem pj_fault {n : Int32} {w v v' : VV} {x1 x2 x3 x4 x5 p1 p2 p3 p4 : Int32} (h : Jc n w v) (hk : (p1 = 1 ∨ p1 = 2 ∨ p1 = 3) ∨ 0 ≤ p3.toInt) (hf : x1.toInt < 60) (e1 : x1 = v 1 7) (e3 : x3 = v 1 7) (e5 : x5 = v 1 7 + 1) (hv : v' = up2 (up2 (up2 (up2 (up2 v 5 x1.toNatClampNeg p1) 6 x2.toNatClampNeg p2) 7 x3.toNatClampNeg p3) 8 x4.toNatClampNeg p4) 1 7 x5) : Jc n w v' := by
  have q := h.at th2 (by decide) id
  simp only [ok1] at q
  have l1 : Int32.toInt 1 = 1 := by decide
  have e1i := i_eq e1
  have e13 : x3 = x1 := e3.trans e1.symm
  subst e13
  have i5 : x5.toInt = (v 1 7).toInt + 1 := by
    have := i_add e5 (by omega) (by rw [← e1]; omega)
    omega
  have hx : (x3.toNatClampNeg : Int) = (v 1 7).toInt := by rw [e1]; exact tn_of q.1.1
  have a1 : v' 1 7 = x5 := by rw [hv, up2_s]
  have a5 : v' 5 = upd (v 5) x3.toNatClampNeg p1 := by
    rw [hv, up2_of _ _ _ _ (by decide), up2_of _ _ _ _ (by decide), up2_of _ _ _ _ (by decide), up2_of _ _ _ _ (by decide), up2_f]
  have a7 : v' 7 = upd (v 7) x3.toNatClampNeg p3 := by
    rw [hv, up2_of _ _ _ _ (by decide), up2_of _ _ _ _ (by decide), up2_f, up2_of _ _ _ _ (by decide), up2_of _ _ _ _ (by decide)]
  have hv' : ∀ a, a ≠ 1 → a ≠ 5 → a ≠ 6 → a ≠ 7 → a ≠ 8 → v' a = v a := fun a h1 h2 h3 h4 h5 => by
    rw [hv, up2_of _ _ _ _ h1, up2_of _ _ _ _ h5, up2_of _ _ _ _ h4, up2_of _ _ _ _ h3, up2_of _ _ _ _ h2]
  have b10 : v' 1 10 = v 1 10 := by
    rw [hv, up2_k _ _ _ _ (by decide), up2_o _ _ _ _ _ (by decide), up2_o _ _ _ _ _ (by decide), up2_o _ _ _ _ _ (by decide), up2_o _ _ _ _ _ (by decide)]
  refine ⟨fun a ha => (hv' a (by omega) (by omega) (by omega) (by omega) (by omega)).trans (h.1 a ha), b10.trans h.2.1, fun p hp he => ?_⟩
  by_cases h1 : p = 1
  · subst h1
    show ok1 2 1 v'
    simp only [ok1]
    rw [a1, a5, a7]
    refine ⟨by omega, fun i hi => ?_⟩
    by_cases hi2 : i = x3.toNatClampNeg
    · rw [hi2]
      simp only [upd, if_true]
      exact hk
    · simp only [upd, hi2, if_false]
      exact q.2 i (by omega)
  · by_cases h2 : p = 5 ∨ p = 6 ∨ p = 7 ∨ p = 8
    · have : kd p = 11 := by rcases h2 with h2 | h2 | h2 | h2 <;> (rw [h2]; decide)
      rw [this]
      trivial
    · refine ok1_congr rfl hp (fun k _ => by rw [hv' p h1 (by omega) (by omega) (by omega) (by omega)]) (fun a hd => hv' a ?_ ?_ ?_ ?_ ?_) (h.2.2 p hp he) <;> (rcases hd with ⟨d1, d2⟩ | ⟨d1, d2⟩ <;> first | omega | (have := kd1 p hp d1; omega))
theorem j_fault {n : Int32} {w v : VV} {i x y : Int32} (h : Jc n w v) (hi : 0 ≤ i.toInt ∧ i.toInt < (v 1 7).toInt) (ex : x = v 5 i.toNatClampNeg) (ey : y = v 7 i.toNatClampNeg) (h1 : ¬ x = 1) (h2 : ¬ x = 2) (h3 : ¬ x = 3) : 0 ≤ y.toInt := by
  have q := h.at th2 (by decide) id
  simp only [ok1] at q
  have := tn_of hi.1
  rcases q.2 i.toNatClampNeg (by omega) with r | r
  · rw [← ex] at r
    rcases r with r | r | r <;> contradiction
  · rw [ey]; exact r

set_option maxHeartbeats 1000000 in
theorem s_X2_unitOf {n : Int32} {w v : VV} (J0 : Jc n w v) (p1 : Int32)   {Q : Nat → VV → Prop} (k : ∀ x : Nat, (isO 5 x ∧ x < 522) → Q x v) : w_X2_unitOf p1 v Q := by
  have l0 : Int32.toInt 0 = 0 := by decide
  have l1 : Int32.toInt 1 = 1 := by decide
  have l255 : Int32.toInt 255 = 255 := by decide
  unfold w_X2_unitOf
  intro x8 ex8
  have ix8 := i_and ex8 (by decide)
  have hi9 : vp_in x8 256 := in_of (by omega) (by omega)
  refine ⟨hi9, ?_⟩
  intro t9 et9
  have qt9 := (arU (i := (Int32.toNatClampNeg x8)) (in_lt hi9)).2
  rw [← et9] at qt9
  exact k t9 ⟨qt9, by have := u_lt qt9; omega⟩
set_option maxHeartbeats 1000000 in
theorem s_X2_nextUnit {n : Int32} {w v : VV} (J0 : Jc n w v)    {Q : Nat → VV → Prop} (k : ∀ x : Nat, (isO 5 x ∧ x < 522) → Q x v) : w_X2_nextUnit  v Q := by
  have l0 : Int32.toInt 0 = 0 := by decide
  have l1 : Int32.toInt 1 = 1 := by decide
  unfold w_X2_nextUnit
  intro x2 ex2
  refine s_X2_unitOf J0 x2  (fun t5 r5 => ?_)
  refine ⟨r5.1, ?_⟩
  have qt5 : isO 5 t5 := r5.1
  exact k t5 r5
set_option maxHeartbeats 1000000 in
theorem s_X2_addFault {n : Int32} {w v : VV} (J0 : Jc n w v) (p1 : Int32) (p2 : Int32) (p3 : Int32) (p4 : Int32)  (hk : (p1 = 1 ∨ p1 = 2 ∨ p1 = 3) ∨ 0 ≤ p3.toInt) {Q : Int32 → VV → Prop} (k : ∀ (x : Int32) (v1 : VV), Jc n w v1 → Q x v1) : w_X2_addFault p1 p2 p3 p4 v Q := by
  have lm3 : Int32.toInt (-3) = -3 := by decide
  have l0 : Int32.toInt 0 = 0 := by decide
  have l1 : Int32.toInt 1 = 1 := by decide
  have l60 : Int32.toInt 60 = 60 := by decide
  unfold w_X2_addFault
  intro x1 ex1
  have bx1 := g2_7 J0 th2
  rw [← ex1] at bx1
  refine ⟨fun c6 => ?_, fun c6 => ?_⟩
  · have ic6 := i_lt c6
    intro x17 ex17
    have bx17 := g2_7 J0 th2
    rw [← ex17] at bx17
    have e17 := i_eq (ex17.trans ex1.symm)
    refine ⟨in_of (by omega) (by omega), ?_⟩
    intro v1 hv1
    intro x27 ex27
    have e27 : x27 = x1 := by simp [ex27, hv1, up2, ex1]
    have e27 := i_eq e27
    refine ⟨in_of (by omega) (by omega), ?_⟩
    intro v2 hv2
    intro x37 ex37
    have e37 : x37 = x1 := by simp [ex37, hv2, hv1, up2, ex1]
    have e37 := i_eq e37
    refine ⟨in_of (by omega) (by omega), ?_⟩
    intro v3 hv3
    intro x47 ex47
    have e47 : x47 = x1 := by simp [ex47, hv3, hv2, hv1, up2, ex1]
    have e47 := i_eq e47
    refine ⟨in_of (by omega) (by omega), ?_⟩
    intro v4 hv4
    intro x55 ex55
    have e55 : x55 = x1 := by simp [ex55, hv4, hv3, hv2, hv1, up2, ex1]
    have e55 := i_eq e55
    intro x59 ex59
    have ix59 := i_add ex59 (by omega) (by omega)
    intro v5 hv5
    have Jnone : Jc n w v5 := pj_fault J0 hk (by omega) (i_of (a := x17) (b := v 1 7) (by rw [ex17])) (i_of (a := x37) (b := v 1 7) (by rw [e37, ex1])) (show x59 = v 1 7 + 1 by rw [ex59, show x55 = v 1 7 from i_of (by rw [e55, ex1])]) (x2 := x27) (x4 := x47) (p2 := p2) (p4 := p4) (by rw [hv5, hv4, hv3, hv2, hv1])
    intro x64 ex64
    exact k x64 v5 Jnone  
  · have ic6 := i_nlt c6
    exact k ((-3)) v J0  
set_option maxHeartbeats 1000000 in
theorem sl_X2_applyFaults_7 {n : Int32} {w : VV} (p1 : Nat) (hp1 : isO 5 p1) {v0 : VV}  {Q : VV → Prop} (k : ∀ v1 : VV, Jc n w v1 → FrW v0 v1 → Q v1) : ∀ (m : Nat) (a2 : Int32) (a3 : Int32) (a4 : Int32) (v : VV), Jc n w v → FrW v0 v → 0 ≤ a4.toInt ∧ a4.toInt ≤ 60 → 60 - a4.toInt < (m : Int) → b_X2_applyFaults_7 p1 Q  m a2 a3 a4 v := by
  have lm1 : Int32.toInt (-1) = -1 := by decide
  have l0 : Int32.toInt 0 = 0 := by decide
  have l1 : Int32.toInt 1 = 1 := by decide
  have l2 : Int32.toInt 2 = 2 := by decide
  have l5 : Int32.toInt 5 = 5 := by decide
  intro m
  induction m with
  | zero =>
    intro a2 a3 a4 v J0 F0 h1 hm
    exfalso
    omega
  | succ m ih =>
    intro a2 a3 a4 v J0 F0 h1 hm
    intro x10 ex10
    have bx10 := g2_7 J0 th2
    rw [← ex10] at bx10
    have e10 := i_eq ex10
    refine ⟨fun c13 => ?_, fun c13 => ?_⟩
    · have ic13 := i_le c13
      refine ⟨fun c122 => ?_, fun c122 => ?_⟩
      · have ic122 := i_eq c122
        refine ⟨fun c134 => ?_, fun c134 => ?_⟩
        · have ic134 := i_eq c134
          exact k  v J0 F0 
        · have ic134 := i_ne c134
          intro x139 ex139
          intro x143 ex143
          intro v1 hv1
          have J1 : Jc n w v1 := by rw [hv1]; exact J0.free hp1 (hp1.l (by decide)) (by decide) (sp_o hp1 (by decide)) (by decide)
          have F1 : FrW v0 v1 := by rw [hv1]; exact F0.up _ _ _ (Or.inl (by have := u_lt hp1; omega))
          exact k  v1 J1 F1 
      · have ic122 := i_ne c122
        intro v2 hv2
        have J2 : Jc n w v2 := by rw [hv2]; exact J0.free hp1 (hp1.l (by decide)) (by decide) (sp_o hp1 (by decide)) (by decide)
        have F2 : FrW v0 v2 := by rw [hv2]; exact F0.up _ _ _ (Or.inl (by have := u_lt hp1; omega))
        exact k  v2 J2 F2 
    · have ic13 := i_nle c13
      refine ⟨in_of (by omega) (by omega), ?_⟩
      intro x22 ex22
      intro x24 ex24
      refine ⟨fun c27 => ?_, fun c27 => ?_⟩
      · have ic27 := i_eq c27
        refine ⟨in_of (by omega) (by omega), ?_⟩
        intro x39 ex39
        refine ⟨fun z40_0 => ?_, fun z40_1 => ?_, fun z40_2 => ?_, fun z40_0 z40_1 z40_2 => ?_⟩
        · have iz40_0 := i_eq z40_0
          unfold b_X2_applyFaults_115
          intro x115 ex115
          have ix115 := i_add ex115 (by omega) (by omega)
          exact ih 1 a3 x115 v J0 F0 (by omega) (by omega)
        · have iz40_1 := i_eq z40_1
          unfold b_X2_applyFaults_115
          intro x115 ex115
          have ix115 := i_add ex115 (by omega) (by omega)
          exact ih a2 1 x115 v J0 F0 (by omega) (by omega)
        · have iz40_2 := i_eq z40_2
          intro x80 ex80
          intro x84 ex84
          intro x86 ex86
          intro v3 hv3
          have J3 : Jc n w v3 := by rw [hv3]; exact J0.free hp1 (hp1.l (by decide)) (by decide) (sp_o hp1 (by decide)) (by decide)
          have F3 : FrW v0 v3 := by rw [hv3]; exact F0.up _ _ _ (Or.inl (by have := u_lt hp1; omega))
          unfold b_X2_applyFaults_115
          intro x115 ex115
          have ix115 := i_add ex115 (by omega) (by omega)
          exact ih a2 a3 x115 v3 J3 F3 (by omega) (by omega)
        · have iz40_0 := i_ne z40_0
          have iz40_1 := i_ne z40_1
          have iz40_2 := i_ne z40_2
          refine ⟨in_of (by omega) (by omega), ?_⟩
          intro x100 ex100
          intro v4 hv4
          have J4 : Jc n w v4 := by rw [hv4]; exact p5_5 J0 hp1 ((j_fault J0 (by omega) ex39 ex100 z40_0 z40_1 z40_2))
          have F4 : FrW v0 v4 := by rw [hv4]; exact F0.up _ _ _ (Or.inl (by have := u_lt hp1; omega))
          refine ⟨in_of (by omega) (by omega), ?_⟩
          intro x111 ex111
          intro v5 hv5
          have J5 : Jc n w v5 := by rw [hv5]; exact J4.free hp1 (hp1.l (by decide)) (by decide) (sp_o hp1 (by decide)) (by decide)
          have F5 : FrW v0 v5 := by rw [hv5]; exact F4.up _ _ _ (Or.inl (by have := u_lt hp1; omega))
          unfold b_X2_applyFaults_115
          intro x115 ex115
          have ix115 := i_add ex115 (by omega) (by omega)
          exact ih a2 a3 x115 v5 J5 F5 (by omega) (by omega)
      · have ic27 := i_ne c27
        unfold b_X2_applyFaults_115
        intro x115 ex115
        have ix115 := i_add ex115 (by omega) (by omega)
        exact ih a2 a3 x115 v J0 F0 (by omega) (by omega)
set_option maxHeartbeats 1000000 in
theorem s_X2_applyFaults {n : Int32} {w v : VV} (J0 : Jc n w v) (p1 : Nat) (hp1 : isO 5 p1)   {Q : VV → Prop} (k : ∀ v1 : VV, Jc n w v1 → FrW v v1 → Q v1) : w_X2_applyFaults p1 v Q := by
  have lm1 : Int32.toInt (-1) = -1 := by decide
  have l0 : Int32.toInt 0 = 0 := by decide
  have l1 : Int32.toInt 1 = 1 := by decide
  have l2 : Int32.toInt 2 = 2 := by decide
  have l5 : Int32.toInt 5 = 5 := by decide
  have F0 : FrW v v := FrW.rf
  unfold w_X2_applyFaults
  exact ⟨100, sl_X2_applyFaults_7 p1 hp1  k  100 0 0 0 v J0 F0 (by omega) (by omega)⟩
set_option maxHeartbeats 1000000 in
theorem s_X2_dispatch {n : Int32} {w v : VV} (J0 : Jc n w v) (p1 : Int32)  (hp : p1 = 0 ∨ p1 = 1) {Q : VV → Prop} (k : ∀ v1 : VV, Jc n w v1 → FrW v v1 → Q v1) : w_X2_dispatch p1 v Q := by
  have lm1 : Int32.toInt (-1) = -1 := by decide
  have l0 : Int32.toInt 0 = 0 := by decide
  have l1 : Int32.toInt 1 = 1 := by decide
  have l2 : Int32.toInt 2 = 2 := by decide
  have l256 : Int32.toInt 256 = 256 := by decide
  have F0 : FrW v v := FrW.rf
  have hpi := zb_i hp
  unfold w_X2_dispatch
  intro x2 ex2
  refine s_X2_unitOf J0 x2  (fun t5 r5 => ?_)
  refine ⟨r5.1, ?_⟩
  have qt5 : isO 5 t5 := r5.1
  refine s_X5_plainSum J0 t5 qt5  (fun x11 => ?_)
  refine s_X5_weightedSum J0 t5 qt5  (fun x15 => ?_)
  refine s_X5_fillChecks J0 t5 qt5 x11 x15  (fun v4 J1 f18 => ?_)
  have F1 : FrW v v4 := F0.tr f18
  intro v5 hv5
  have J2 : Jc n w v5 := by rw [hv5]; exact p5_2 J1 qt5 (hp)
  have F2 : FrW v v5 := by rw [hv5]; exact F1.up _ _ _ (Or.inl (by have := u_lt qt5; omega))
  intro x28 ex28
  intro x32 ex32
  intro v6 hv6
  have J3 : Jc n w v6 := by rw [hv6]; exact J2.free qt5 (qt5.l (by decide)) (by decide) (sp_o qt5 (by decide)) (by decide)
  have F3 : FrW v v6 := by rw [hv6]; exact F2.up _ _ _ (Or.inl (by have := u_lt qt5; omega))
  intro v7 hv7
  have J4 : Jc n w v7 := by rw [hv7]; exact J3.free qt5 (qt5.l (by decide)) (by decide) (sp_o qt5 (by decide)) (by decide)
  have F4 : FrW v v7 := by rw [hv7]; exact F3.up _ _ _ (Or.inl (by have := u_lt qt5; omega))
  intro v8 hv8
  have J5 : Jc n w v8 := by rw [hv8]; exact J4.free qt5 (qt5.l (by decide)) (by decide) (sp_o qt5 (by decide)) (by decide)
  have F5 : FrW v v8 := by rw [hv8]; exact F4.up _ _ _ (Or.inl (by have := u_lt qt5; omega))
  refine s_X2_applyFaults J5 t5 qt5  (fun v9 J6 f48 => ?_)
  have F6 : FrW v v9 := F5.tr f48
  intro x57 ex57
  refine ⟨in_of (by omega) (by omega), ?_⟩
  intro v10 hv10
  have J7 : Jc n w v10 := by rw [hv10]; exact J6.free (ch2_6 th2).2.1 (by decide) rfl (by decide) (fun q => absurd q (by decide))
  have F7 : FrW v v10 := by rw [hv10]; exact F6.up _ _ _ (Or.inl (by decide))
  intro x63 ex63
  intro x67 ex67
  intro v11 hv11
  have J8 : Jc n w v11 := by rw [hv11]; exact J7.free th2 (th2.l (by decide)) (by decide) (sp_o th2 (by decide)) (by decide)
  have F8 : FrW v v11 := by rw [hv11]; exact F7.up _ _ _ (Or.inl (by decide))
  intro x72 ex72
  intro x76 ex76
  intro x79 ex79
  refine ⟨fun c83 => ?_, fun c83 => ?_⟩
  · have ic83 := i_le c83
    exact k  v11 J8 F8 
  · have ic83 := i_nle c83
    intro x88 ex88
    intro x94 ex94
    intro v12 hv12
    have J9 : Jc n w v12 := by rw [hv12]; exact J8.free th2 (th2.l (by decide)) (by decide) (sp_o th2 (by decide)) (by decide)
    have F9 : FrW v v12 := by rw [hv12]; exact F8.up _ _ _ (Or.inl (by decide))
    exact k  v12 J9 F9 
set_option maxHeartbeats 1000000 in
theorem s_X2_arrivesNow {n : Int32} {w v : VV} (J0 : Jc n w v) (p1 : Int32) (p2 : Int32)   {Q : Int32 → VV → Prop} (k : ∀ x : Int32, Q x v) : w_X2_arrivesNow p1 p2 v Q := by
  have l0 : Int32.toInt 0 = 0 := by decide
  have l1 : Int32.toInt 1 = 1 := by decide
  unfold w_X2_arrivesNow
  refine s_X2_unitOf J0 p1  (fun t2 r2 => ?_)
  refine ⟨r2.1, ?_⟩
  have qt2 : isO 5 t2 := r2.1
  refine ⟨fun c7 => ?_, fun c7 => ?_⟩
  · have ic7 := i_eq c7
    intro x18 ex18
    unfold b_X2_arrivesNow_21
    intro x22 ex22
    refine ⟨fun c25 => ?_, fun c25 => ?_⟩
    · have ic25 := i_ne c25
      exact k 0 
    · have ic25 := i_eq c25
      exact k 1 
  · have ic7 := i_ne c7
    intro x11 ex11
    unfold b_X2_arrivesNow_21
    intro x22 ex22
    refine ⟨fun c25 => ?_, fun c25 => ?_⟩
    · have ic25 := i_ne c25
      exact k 0 
    · have ic25 := i_eq c25
      exact k 1 
set_option maxHeartbeats 1000000 in
theorem s_X2_unitAsItArrives {n : Int32} {w v : VV} (J0 : Jc n w v) (p1 : Int32)   {Q : Nat → VV → Prop} (k : ∀ (x : Nat) (v1 : VV), Jc n w v1 → (x = 3) → Q x v1) : w_X2_unitAsItArrives p1 v Q := by
  have l0 : Int32.toInt 0 = 0 := by decide
  have l1 : Int32.toInt 1 = 1 := by decide
  have l17 : Int32.toInt 17 = 17 := by decide
  unfold w_X2_unitAsItArrives
  refine s_X2_unitOf J0 p1  (fun t2 r2 => ?_)
  refine ⟨r2.1, ?_⟩
  have qt2 : isO 5 t2 := r2.1
  refine ⟨cp_of (by omega) (by omega) (by omega) (by omega) (by omega), ?_⟩
  intro v2 hv2
  have J1 : Jc n w v2 := by rw [hv2]; exact J0.row (ch5_0 (ch2_1 th2).2).2.1 (by decide) (by decide)
  intro x29 ex29
  have bx29 := g5_1 J1 qt2
  rw [← ex29] at bx29
  intro v3 hv3
  have J2 : Jc n w v3 := by rw [hv3]; exact p5_1 J1 (ch2_1 th2).2 (bx29)
  intro x40 ex40
  have bx40 := g5_2 J2 qt2
  rw [← ex40] at bx40
  have bx40 := zb_i bx40
  intro v4 hv4
  have J3 : Jc n w v4 := by rw [hv4]; exact p5_2 J2 (ch2_1 th2).2 (by have q := g5_2 J2 qt2; rw [← ex40] at q; exact q)
  intro x47 ex47
  refine ⟨fun c50 => ?_, fun c50 => ?_⟩
  · have ic50 := i_eq c50
    unfold b_X2_unitAsItArrives_84
    exact k 3 v4 J3  rfl
  · have ic50 := i_ne c50
    intro x54 ex54
    have bx54 := g5_1 J3 qt2
    rw [← ex54] at bx54
    refine ⟨fun c57 => ?_, fun c57 => ?_⟩
    · have ic57 := i_le c57
      unfold b_X2_unitAsItArrives_84
      exact k 3 v4 J3  rfl
    · have ic57 := i_nle c57
      intro x68 ex68
      have bx68 := g5_5 J3 qt2
      rw [← ex68] at bx68
      intro x72 ex72
      have bx72 := g5_1 J3 qt2
      rw [← ex72] at bx72
      have e72 := i_eq (ex72.trans ex54.symm)
      refine ⟨(fun q => by have q := i_eq q; omega), ?_⟩
      intro x75 ex75
      have i75 := i_remb ex75 (by omega) (by omega)
      refine ⟨in_of (by omega) (by omega), ?_⟩
      intro x77 ex77
      intro x79 ex79
      intro x82 ex82
      refine ⟨in_of (by omega) (by omega), ?_⟩
      intro v5 hv5
      have J4 : Jc n w v5 := by rw [hv5]; exact J3.free (ch5_0 (ch2_1 th2).2).2.1 (by decide) rfl (by decide) (fun q => absurd q (by decide))
      unfold b_X2_unitAsItArrives_84
      exact k 3 v5 J4  rfl
set_option maxHeartbeats 1000000 in
theorem sl_X2_forgetArrived_0 {n : Int32} {w : VV}   {Q : VV → Prop} (k : ∀ v1 : VV, Jc n w v1 → Q v1) : ∀ (m : Nat)  (v : VV), Jc n w v → max 0 ((v 1 8).toInt - (v 1 9).toInt) < (m : Int) → b_X2_forgetArrived_0  Q  m  v := by
  have l0 : Int32.toInt 0 = 0 := by decide
  have l1 : Int32.toInt 1 = 1 := by decide
  intro m
  induction m with
  | zero =>
    intro  v J0  hm
    exfalso
    omega
  | succ m ih =>
    intro  v J0  hm
    intro x1 ex1
    intro x5 ex5
    refine ⟨fun c8 => ?_, fun c8 => ?_⟩
    · have ic8 := i_le c8
      exact k  v J0  
    · have ic8 := i_nle c8
      intro x13 ex13
      refine s_X2_unitOf J0 x13  (fun t16 r16 => ?_)
      refine ⟨r16.1, ?_⟩
      have qt16 : isO 5 t16 := r16.1
      intro x19 ex19
      intro x23 ex23
      refine ⟨fun c26 => ?_, fun c26 => ?_⟩
      · have ic26 := i_lt c26
        exact k  v J0  
      · have ic26 := i_nlt c26
        intro x31 ex31
        refine s_X2_unitOf J0 x31  (fun t34 r34 => ?_)
        refine ⟨r34.1, ?_⟩
        have qt34 : isO 5 t34 := r34.1
        intro x37 ex37
        intro x41 ex41
        refine ⟨fun c44 => ?_, fun c44 => ?_⟩
        · have ic44 := i_lt c44
          exact k  v J0  
        · have ic44 := i_nlt c44
          intro x49 ex49
          intro x53 ex53
          have e49 := i_eq (ex49.trans ex1.symm)
          have ix53 := i_add ex53 (by have := i_rng x49; omega) (by have := i_rng x5; omega)
          intro v3 hv3
          have J1 : Jc n w v3 := by rw [hv3]; exact J0.free th2 (th2.l (by decide)) (by decide) (sp_o th2 (by decide)) (by decide)
          have e8 : v3 1 8 = v 1 8 := by rw [hv3, up2_k _ _ _ _ (by decide)]
          have e9 : v3 1 9 = x53 := by rw [hv3, up2_s]
          have e8 := i_eq e8
          have e9 := i_eq e9
          have e1 := i_eq ex1
          have e5 := i_eq ex5
          exact ih  v3 J1  (by omega)
set_option maxHeartbeats 1000000 in
theorem s_X2_forgetArrived {n : Int32} {w v : VV} (J0 : Jc n w v)    {Q : VV → Prop} (k : ∀ v1 : VV, Jc n w v1 → Q v1) : w_X2_forgetArrived  v Q := by
  have l0 : Int32.toInt 0 = 0 := by decide
  have l1 : Int32.toInt 1 = 1 := by decide
  have r8 := i_rng (v 1 8)
  have r9 := i_rng (v 1 9)
  exact ⟨4294967299, sl_X2_forgetArrived_0   k  4294967299  v J0  (by omega)⟩
set_option maxHeartbeats 1000000 in
theorem s_X2_recordedByte {n : Int32} {w v : VV} (J0 : Jc n w v) (p1 : Int32) (p2 : Int32)   {Q : Int32 → VV → Prop} (k : ∀ x : Int32, Q x v) : w_X2_recordedByte p1 p2 v Q := by
  have lm1 : Int32.toInt (-1) = -1 := by decide
  have l0 : Int32.toInt 0 = 0 := by decide
  have l1 : Int32.toInt 1 = 1 := by decide
  have l64 : Int32.toInt 64 = 64 := by decide
  unfold w_X2_recordedByte
  refine ⟨fun c1 => ?_, fun c1 => ?_⟩
  · have ic1 := i_lt c1
    unfold b_X2_recordedByte_23
    exact k ((-1)) 
  · have ic1 := i_nlt c1
    intro x6 ex6
    refine ⟨fun c9 => ?_, fun c9 => ?_⟩
    · have ic9 := i_le c9
      unfold b_X2_recordedByte_23
      exact k ((-1)) 
    · have ic9 := i_nle c9
      intro x14 ex14
      intro x19 ex19
      refine ⟨fun c20 => ?_, fun c20 => ?_⟩
      · have ic20 := i_le c20
        refine s_X2_unitOf J0 p1  (fun t27 r27 => ?_)
        refine ⟨r27.1, ?_⟩
        have qt27 : isO 5 t27 := r27.1
        refine ⟨fun c32 => ?_, fun c32 => ?_⟩
        · have ic32 := i_lt c32
          unfold b_X2_recordedByte_43
          exact k ((-1)) 
        · have ic32 := i_nlt c32
          intro x37 ex37
          have bx37 := g5_1 J0 qt27
          rw [← ex37] at bx37
          refine ⟨fun c40 => ?_, fun c40 => ?_⟩
          · have ic40 := i_lt c40
            refine ⟨in_of (by omega) (by omega), ?_⟩
            intro x50 ex50
            exact k x50 
          · have ic40 := i_nlt c40
            unfold b_X2_recordedByte_43
            exact k ((-1)) 
      · have ic20 := i_nle c20
        unfold b_X2_recordedByte_23
        exact k ((-1)) 
