theorem sum_0 {f : Nat → Int32} {c : Int32} (h : ∀ i : Nat, (i : Int) < c.toInt → 0 ≤ (f i).toInt) (hc : 0 ≤ c.toInt) (h0 : 0 < c.toInt) : (f 0).toInt ≤ sumL f c.toNatClampNeg := by
  have t := tn_of hc
  obtain ⟨m, hm⟩ : ∃ m, c.toNatClampNeg = m + 1 := ⟨c.toNatClampNeg - 1, by omega⟩
  have h1 := sumL_shift (f := f) m
  have h2 := sumL_nn (f := fun i => f (i + 1)) m (fun i hi => h (i + 1) (by omega))
  rw [hm]
  omega
theorem box_k : ∀ p, p < 816 → kd p = 1 → ∀ i, i < 17 → i ≠ 0 → 11 ≤ kd (p + i) := by decide +kernel
theorem box_l : ∀ p, p < 816 → kd p = 1 → 522 ≤ p ∧ p + 17 ≤ 816 := by decide +kernel
theorem ok1_t {c o : Nat} {v : VV} (h : 11 ≤ c) : ok1 c o v := by
  match c, h with
  | k + 11, _ => exact trivial
theorem Jq.box {n : Int32} {w v v' : VV} {p : Nat} (hJ : Jc n w v) (hp : isO 1 p) (hv : ∀ a, (a < p ∨ p + 17 ≤ a) → v' a = v a) (h : ok1 1 p v') : Jc n w v' := by
  have hl := hp.l (by decide)
  have hb := box_l p hl hp.2
  refine ⟨fun a ha => (hv a (by omega)).trans (hJ.1 a ha), by rw [hv 1 (by omega)]; exact hJ.2.1, fun o ho he => ?_⟩
  by_cases h1 : o < p ∨ p + 17 ≤ o
  · refine ok1_congr rfl ho (fun k _ => by rw [hv o h1]) (fun a hd => hv a ?_) (hJ.2.2 o ho he)
    rcases hd with ⟨d1, d2⟩ | ⟨d1, d2⟩
    · have q1 := kd1 o ho d1
      have q2 := kd1 p hl hp.2
      omega
    · omega
  · by_cases h2 : o = p
    · rw [h2, hp.2]; exact h
    · have h3 := box_k p hl hp.2 (o - p) (by omega) (by omega)
      rw [show p + (o - p) = o by omega] at h3
      exact ok1_t h3
theorem pj_app {n : Int32} {w v : VV} {o : Nat} {L a b : Int32} (h : Jc n w v) (ho : isO 1 o) (hL : 0 ≤ L.toInt) (ha : a.toInt ≤ 256) (ea : a.toInt = (v o 9).toInt + L.toInt) (eb : b.toInt = (v o 12).toInt + L.toInt) : Jc n w (up2 (up2 v o 9 a) o 12 b) := by
  have q := h.at ho (by decide) id
  simp only [ok1] at q
  refine h.box ho (fun c hc => by rw [up2_of _ _ _ _ (by omega), up2_of _ _ _ _ (by omega)]) ?_
  have a9 : up2 (up2 v o 9 a) o 12 b o 9 = a := by simp [up2]
  have a10 : up2 (up2 v o 9 a) o 12 b o 10 = v o 10 := by simp [up2]
  have a12 : up2 (up2 v o 9 a) o 12 b o 12 = b := by simp [up2]
  have a14 : up2 (up2 v o 9 a) o 12 b o 14 = v o 14 := by simp [up2]
  have r10 : up2 (up2 v o 9 a) o 12 b (o + 10) = v (o + 10) := by funext i; simp [up2]
  have r14 : up2 (up2 v o 9 a) o 12 b (o + 14) = v (o + 14) := by funext i; simp [up2]
  simp only [ok1]
  rw [a9, a10, a12, a14, r10, r14]
  exact ⟨⟨by omega, by omega, by omega, by omega, by omega, by omega, by omega⟩, q.2.1, q.2.2.1, by omega⟩

set_option maxHeartbeats 1000000 in
theorem s_X1_credit {n : Int32} {w v : VV} (J0 : Jc n w v) (o : Nat) (ho : isO 1 o)   {Q : Int32 → VV → Prop} (k : ∀ x : Int32, Q x v) : w_X1_credit o v Q := by
  have l0 : Int32.toInt 0 = 0 := by decide
  have l1 : Int32.toInt 1 = 1 := by decide
  have l6 : Int32.toInt 6 = 6 := by decide
  unfold w_X1_credit
  intro x4 ex4
  intro x7 ex7
  intro x8 ex8
  have ix8 := i_max ex8
  exact k x8 
set_option maxHeartbeats 1000000 in
theorem s_X1_takenByte {n : Int32} {w v : VV} (J0 : Jc n w v) (o : Nat) (ho : isO 1 o) (p1 : Int32)   {Q : Int32 → VV → Prop} (k : ∀ x : Int32, Q x v) : w_X1_takenByte o p1 v Q := by
  have lm1 : Int32.toInt (-1) = -1 := by decide
  have l0 : Int32.toInt 0 = 0 := by decide
  have l1 : Int32.toInt 1 = 1 := by decide
  unfold w_X1_takenByte
  refine ⟨fun c1 => ?_, fun c1 => ?_⟩
  · have ic1 := i_lt c1
    unfold b_X1_takenByte_12
    exact k ((-1)) 
  · have ic1 := i_nlt c1
    intro x6 ex6
    have bx6 := g1_14 J0 ho
    rw [← ex6] at bx6
    refine ⟨fun c9 => ?_, fun c9 => ?_⟩
    · have ic9 := i_lt c9
      refine ⟨in_of (by omega) (by omega), ?_⟩
      intro x21 ex21
      exact k x21 
    · have ic9 := i_nlt c9
      unfold b_X1_takenByte_12
      exact k ((-1)) 
set_option maxHeartbeats 1000000 in
theorem sl_X1_clear_2 {n : Int32} {w : VV} (o : Nat) (ho : isO 1 o)  {Q : VV → Prop} (k : ∀ v1 : VV, Jc n w v1 → Q v1) : ∀ (m : Nat) (a1 : Int32) (v : VV), Jc n w v → 0 ≤ a1.toInt ∧ a1.toInt ≤ 8 → 8 - a1.toInt < (m : Int) → b_X1_clear_2 o Q  m a1 v := by
  have l0 : Int32.toInt 0 = 0 := by decide
  have l1 : Int32.toInt 1 = 1 := by decide
  have l8 : Int32.toInt 8 = 8 := by decide
  intro m
  induction m with
  | zero =>
    intro a1 v J0 h1 hm
    exfalso
    omega
  | succ m ih =>
    intro a1 v J0 h1 hm
    refine ⟨fun c5 => ?_, fun c5 => ?_⟩
    · have ic5 := i_le c5
      intro v1 hv1
      intro v2 hv2
      intro v3 hv3
      intro v4 hv4
      intro v5 hv5
      intro v6 hv6
      have q := J0.at ho (by decide) id
      simp only [ok1] at q
      have Jnone : Jc n w v6 := by
        refine J0.box ho (fun a ha => by simp only [hv6, hv5, hv4, hv3, hv2, hv1]; repeat (first | rw [up2_of _ _ _ _ (show a ≠ o by omega)] | rw [up2_of _ _ _ _ (show a ≠ o + 14 by omega)] | rw [up2_of _ _ _ _ (show a ≠ o + 15 by omega)] | rw [up1_of _ _ (show a ≠ o + 13 by omega)] | rw [up1_of _ _ (show a ≠ o + 14 by omega)] | rw [up1_of _ _ (show a ≠ o + 15 by omega)] | rw [up1_of _ _ (show a ≠ o + 16 by omega)])) ?_
        have a9 : v6 o 9 = 0 := by simp [hv6, hv5, hv4, hv3, hv2, hv1, up2]
        have a10 : v6 o 10 = 0 := by simp [hv6, hv5, hv4, hv3, hv2, hv1, up2]
        have a12 : v6 o 12 = 0 := by simp [hv6, hv5, hv4, hv3, hv2, hv1, up2]
        have a14 : v6 o 14 = v o 14 := by simp [hv6, hv5, hv4, hv3, hv2, hv1, up2]
        have r10 : v6 (o + 10) = v (o + 10) := by funext i; simp [hv6, hv5, hv4, hv3, hv2, hv1, up2]
        simp only [ok1]
        rw [a9, a10, a12, a14, r10]
        exact ⟨⟨by decide, by decide, by decide, by decide, by decide, by omega, by omega⟩, q.2.1, fun i hi => by rw [l0] at hi; omega, rfl⟩
      exact k  v6 Jnone  
    · have ic5 := i_nle c5
      refine ⟨in_of (by omega) (by omega), ?_⟩
      intro v7 hv7
      have J1 : Jc n w v7 := by rw [hv7]; exact J0.free (ch1_3 ho).2.1 (al_1_3 ho) rfl (as_1_3 ho) (fun q => absurd q (by decide))
      intro x15 ex15
      have ix15 := i_add ex15 (by omega) (by omega)
      exact ih x15 v7 J1 (by omega) (by omega)
set_option maxHeartbeats 1000000 in
theorem s_X1_clear {n : Int32} {w v : VV} (J0 : Jc n w v) (o : Nat) (ho : isO 1 o)   {Q : VV → Prop} (k : ∀ v1 : VV, Jc n w v1 → Q v1) : w_X1_clear o v Q := by
  have l0 : Int32.toInt 0 = 0 := by decide
  have l1 : Int32.toInt 1 = 1 := by decide
  have l8 : Int32.toInt 8 = 8 := by decide
  unfold w_X1_clear
  exact ⟨100, sl_X1_clear_2 o ho  k  100 0 v J0 (by omega) (by omega)⟩
set_option maxHeartbeats 1000000 in
theorem s_X1_finishMessage {n : Int32} {w v : VV} (J0 : Jc n w v) (o : Nat) (ho : isO 1 o)  (hm : (v o 10).toInt < 32) {Q : VV → Prop} (k : ∀ v1 : VV, Jc n w v1 → Q v1) : w_X1_finishMessage o v Q := by
  have l0 : Int32.toInt 0 = 0 := by decide
  have l1 : Int32.toInt 1 = 1 := by decide
  have q := J0.at ho (by decide) id
  simp only [ok1] at q
  have i10 := i_eq (rfl : v o 10 = v o 10)
  unfold w_X1_finishMessage
  intro x5 ex5
  have bx5 := g1_10 J0 ho
  rw [← ex5] at bx5
  have e5 := i_eq ex5
  intro x9 ex9
  have bx9 := g1_12 J0 ho
  rw [← ex9] at bx9
  have e9 := i_eq ex9
  refine ⟨in_of (by omega) (by omega), ?_⟩
  intro v1 hv1
  intro x18 ex18
  have e18 : x18 = v o 10 := by simp [ex18, hv1, up2]
  have e18 := i_eq e18
  intro x22 ex22
  refine ⟨in_of (by omega) (by omega), ?_⟩
  intro v2 hv2
  intro x28 ex28
  have f28 : x28 = v o 10 := by simp [ex28, hv2, hv1, up2]
  have e28 := i_eq f28
  intro x32 ex32
  have ix32 := i_add ex32 (by omega) (by omega)
  intro v3 hv3
  intro x38 ex38
  intro x42 ex42
  intro x45 ex45
  intro v4 hv4
  intro v5 hv5
  intro v6 hv6
  have Jnone : Jc n w v6 := by
    refine J0.box ho (fun a ha => by simp only [hv6, hv5, hv4, hv3, hv2, hv1]; repeat (first | rw [up2_of _ _ _ _ (show a ≠ o by omega)] | rw [up2_of _ _ _ _ (show a ≠ o + 14 by omega)] | rw [up2_of _ _ _ _ (show a ≠ o + 15 by omega)] | rw [up1_of _ _ (show a ≠ o + 13 by omega)] | rw [up1_of _ _ (show a ≠ o + 14 by omega)] | rw [up1_of _ _ (show a ≠ o + 15 by omega)] | rw [up1_of _ _ (show a ≠ o + 16 by omega)])) ?_
    have a9 : v6 o 9 = v o 9 := by simp [hv6, hv5, hv4, hv3, hv2, hv1, up2]
    have a10 : v6 o 10 = x32 := by simp [hv6, hv5, hv4, hv3, hv2, hv1, up2]
    have a12 : v6 o 12 = 0 := by simp [hv6, hv5, hv4, hv3, hv2, hv1, up2]
    have a14 : v6 o 14 = v o 14 := by simp [hv6, hv5, hv4, hv3, hv2, hv1, up2]
    have r10 : v6 (o + 10) = v (o + 10) := by funext i; simp [hv6, hv5, hv4, hv3, hv2, hv1, up2]
    have r14 : v6 (o + 14) = upd (v (o + 14)) (v o 10).toNatClampNeg (v o 12) := by funext i; simp [hv6, hv5, hv4, hv3, hv2, hv1, up2, upd, ex5, ex9]
    have t1 := tn_of q.1.2.2.1
    have t2 : x32.toNatClampNeg = (v o 10).toNatClampNeg + 1 := by have := tn_of (x := x32) (by omega); omega
    simp only [ok1]
    rw [a9, a10, a12, a14, r10, r14, t2]
    refine ⟨⟨by omega, by omega, by omega, by omega, by decide, by omega, by omega⟩, q.2.1, fun i hi => ?_, ?_⟩
    · by_cases e : i = (v o 10).toNatClampNeg
      · rw [e]; simp only [upd, if_true]; omega
      · simp only [upd, e, if_false]; exact q.2.2.1 i (by omega)
    · show sumL _ (v o 10).toNatClampNeg + (upd (v (o + 14)) (v o 10).toNatClampNeg (v o 12) (v o 10).toNatClampNeg).toInt + Int32.toInt 0 = _
      rw [sumL_ext (g := v (o + 14)) _ (fun i hi => by simp only [upd, show i ≠ (v o 10).toNatClampNeg by omega, if_false])]
      simp only [upd, if_true]
      omega
  exact k  v6 Jnone  
set_option maxHeartbeats 1000000 in
theorem s_X1_appendExpected {n : Int32} {w v : VV} (J0 : Jc n w v) (o : Nat) (ho : isO 1 o)   {Q : VV → Prop} (k : ∀ v1 : VV, Jc n w v1 → Q v1) : w_X1_appendExpected o v Q := by
  have l0 : Int32.toInt 0 = 0 := by decide
  have l1 : Int32.toInt 1 = 1 := by decide
  have l7 : Int32.toInt 7 = 7 := by decide
  have l32 : Int32.toInt 32 = 32 := by decide
  have l127 : Int32.toInt 127 = 127 := by decide
  have l256 : Int32.toInt 256 = 256 := by decide
  unfold w_X1_appendExpected
  intro x1 ex1
  intro x6 ex6
  have ix6 := i_and ex6 (by decide)
  refine ⟨in_of (by omega) (by omega), ?_⟩
  intro x13 ex13
  have bx13 := g1_k J0 ho (i := Int32.toNatClampNeg x6) (by have := tn_of (x := x6) (by omega); omega)
  rw [← ex13] at bx13
  refine ⟨in_of (by omega) (by omega), ?_⟩
  intro v1 hv1
  have J1 : Jc n w v1 := by rw [hv1]; exact J0.free (ch1_3 ho).2.1 (al_1_3 ho) rfl (as_1_3 ho) (fun q => absurd q (by decide))
  intro x24 ex24
  intro x28 ex28
  intro x31 ex31
  have ix31 := i_and ex31 (by decide)
  intro v2 hv2
  have J2 : Jc n w v2 := by rw [hv2]; exact J1.free ho (ho.l (by decide)) (by decide) (sp_o ho (by decide)) (by decide)
  intro x36 ex36
  have bx36 := g1_9 J2 ho
  rw [← ex36] at bx36
  intro x40 ex40
  have ix40 := i_add ex40 (by omega) (by omega)
  refine ⟨fun c46 => ?_, fun c46 => ?_⟩
  · have ic46 := i_lt c46
    exact k  v2 J2  
  · have ic46 := i_nlt c46
    intro x50 ex50
    have bx50 := g1_10 J2 ho
    rw [← ex50] at bx50
    have e50 := i_eq ex50
    refine ⟨fun c55 => ?_, fun c55 => ?_⟩
    · have ic55 := i_lt c55
      have hi64 : vp_in x6 8 := in_of (by omega) (by omega)
      refine ⟨hi64, ?_⟩
      intro t64 et64
      have qt64 := (arI (i := (Int32.toNatClampNeg x6)) (ch1_0 ho).2.1 (in_lt hi64)).2
      rw [← et64] at qt64
      have gt64 := row_k (ch1_0 ho).2.1 (in_lt hi64)
      rw [← et64] at gt64
      intro x71 ex71
      have bx71 := g1_9 J2 ho
      rw [← ex71] at bx71
      have e71 := i_eq (ex71.trans ex36.symm)
      refine ⟨cp_of (by omega) (by omega) (by omega) (by omega) (by omega), ?_⟩
      intro v3 hv3
      have J3 : Jc n w v3 := by rw [hv3]; exact J2.row (ch1_4 ho).2.1 (al_1_4 ho) (as_1_4 ho)
      intro x80 ex80
      have bx80 := g1_9 J3 ho
      rw [← ex80] at bx80
      have f80 : x80 = x36 := by rw [ex80, hv3, up1_of _ _ (show o ≠ o + 13 by omega), ← ex36]
      have e80 := i_eq f80
      have JB := J3
      have b80 := i_eq ex80
      intro x84 ex84
      have ix84 := i_add ex84 (by omega) (by omega)
      intro v4 hv4
      intro x90 ex90
      have f90 : x90 = v3 o 12 := by rw [ex90, hv4, up2_k _ _ _ _ (by decide)]
      have b90 := g1_12 JB ho
      have e90 := i_eq f90
      intro x94 ex94
      have ix94 := i_add ex94 (by omega) (by omega)
      intro v5 hv5
      have J4 : Jc n w v5 := by rw [hv5, hv4]; exact pj_app (L := x13) JB ho bx13.1 (by omega) (by omega) (by omega)
      intro x100 ex100
      intro x104 ex104
      intro v6 hv6
      have J5 : Jc n w v6 := by rw [hv6]; exact J4.free ho (ho.l (by decide)) (by decide) (sp_o ho (by decide)) (by decide)
      refine ⟨in_of (by omega) (by omega), ?_⟩
      intro x113 ex113
      refine ⟨fun c114 => ?_, fun c114 => ?_⟩
      · have ic114 := i_eq c114
        exact k  v6 J5  
      · have ic114 := i_ne c114
        refine s_X1_finishMessage J5 o ho (by have f : v6 o 10 = x50 := by { simp only [hv6, hv5, hv4, hv3]; rw [up2_k _ _ _ _ (by decide), up2_k _ _ _ _ (by decide), up2_k _ _ _ _ (by decide), up1_of _ _ (show o ≠ o + 13 by omega), ← ex50] }; rw [f]; omega) (fun v7 J6 => ?_)
        exact k  v7 J6  
    · have ic55 := i_nlt c55
      exact k  v2 J2  
set_option maxHeartbeats 1000000 in
theorem s_X1_takeNext {n : Int32} {w v : VV} (J0 : Jc n w v) (o : Nat) (ho : isO 1 o)   {Q : Int32 → VV → Prop} (k : ∀ (x : Int32) (v1 : VV), Jc n w v1 → Q x v1) : w_X1_takeNext o v Q := by
  have lm2 : Int32.toInt (-2) = -2 := by decide
  have l0 : Int32.toInt 0 = 0 := by decide
  have l1 : Int32.toInt 1 = 1 := by decide
  have q := J0.at ho (by decide) id
  simp only [ok1] at q
  have t10 := tn_of q.1.2.2.1
  unfold w_X1_takeNext
  intro x1 ex1
  have bx1 := g1_10 J0 ho
  rw [← ex1] at bx1
  have e1 := i_eq ex1
  refine ⟨fun c4 => ?_, fun c4 => ?_⟩
  · have ic4 := i_ne c4
    intro x16 ex16
    have f16 : x16 = v (o + 14) 0 := ex16
    have e16 := i_eq f16
    have b16 := q.2.2.1 0 (by omega)
    have h16 := sum_0 q.2.2.1 q.1.2.2.1 (by omega)
    intro v1 hv1
    intro x31 ex31
    have f31 : x31 = x16 := by simp [ex31, hv1, up2]
    have e31 := i_eq f31
    refine ⟨cp_of (by omega) (by omega) (by omega) (by omega) (by omega), ?_⟩
    intro v2 hv2
    intro x39 ex39
    have f39 : x39 = v o 9 := by simp [ex39, hv2, hv1, up2, up1]
    have e39 := i_eq f39
    intro x43 ex43
    have f43 : x43 = x16 := by simp [ex43, hv2, hv1, up2, up1]
    have e43 := i_eq f43
    intro x46 ex46
    have ix46 := i_sub ex46 (by omega) (by omega)
    intro v3 hv3
    intro x55 ex55
    have f55 : x55 = x16 := by simp [ex55, hv3, hv2, hv1, up2, up1]
    have e55 := i_eq f55
    intro x64 ex64
    have f64 : x64 = x46 := by simp [ex64, hv3, hv2, hv1, up2, up1]
    have e64 := i_eq f64
    refine ⟨cp_of (by omega) (by omega) (by omega) (by omega) (by omega), ?_⟩
    intro v4 hv4
    intro x72 ex72
    intro x80 ex80
    intro x81 ex81
    intro v5 hv5
    intro x87 ex87
    have f87 : x87 = v o 10 := by simp [ex87, hv5, hv4, hv3, hv2, hv1, up2, up1]
    have e87 := i_eq f87
    intro x91 ex91
    have ix91 := i_sub ex91 (by omega) (by omega)
    intro v6 hv6
    intro x106 ex106
    have f106 : x106 = x91 := by simp [ex106, hv6, hv5, hv4, hv3, hv2, hv1, up2, up1]
    have e106 := i_eq f106
    refine ⟨cp_of (by omega) (by omega) (by omega) (by omega) (by omega), ?_⟩
    intro v7 hv7
    intro x123 ex123
    have f123 : x123 = x91 := by simp [ex123, hv7, hv6, hv5, hv4, hv3, hv2, hv1, up2, up1]
    have e123 := i_eq f123
    refine ⟨cp_of (by omega) (by omega) (by omega) (by omega) (by omega), ?_⟩
    intro v8 hv8
    intro x130 ex130
    have Jnone : Jc n w v8 := by
      refine J0.box ho (fun a ha => by simp only [hv8, hv7, hv6, hv5, hv4, hv3, hv2, hv1]; repeat (first | rw [up2_of _ _ _ _ (show a ≠ o by omega)] | rw [up2_of _ _ _ _ (show a ≠ o + 14 by omega)] | rw [up2_of _ _ _ _ (show a ≠ o + 15 by omega)] | rw [up1_of _ _ (show a ≠ o + 13 by omega)] | rw [up1_of _ _ (show a ≠ o + 14 by omega)] | rw [up1_of _ _ (show a ≠ o + 15 by omega)] | rw [up1_of _ _ (show a ≠ o + 16 by omega)])) ?_
      have a9 : v8 o 9 = x46 := by simp [hv8, hv7, hv6, hv5, hv4, hv3, hv2, hv1, up2, up1]
      have a10 : v8 o 10 = x91 := by simp [hv8, hv7, hv6, hv5, hv4, hv3, hv2, hv1, up2, up1]
      have a12 : v8 o 12 = v o 12 := by simp [hv8, hv7, hv6, hv5, hv4, hv3, hv2, hv1, up2, up1]
      have a14 : v8 o 14 = x16 := by simp [hv8, hv7, hv6, hv5, hv4, hv3, hv2, hv1, up2, up1]
      have r10 : v8 (o + 10) = v (o + 10) := by funext i; simp [hv8, hv7, hv6, hv5, hv4, hv3, hv2, hv1, up2, up1]
      have t91 := tn_of (x := x91) (by omega)
      have r14 : ∀ i : Nat, i < x91.toNatClampNeg → v8 (o + 14) i = v (o + 14) (i + 1) := fun i hi => by
        simp only [hv8, hv7, hv6, hv5, hv4, hv3, hv2, hv1]
        rw [up1_of _ _ (show o + 14 ≠ o + 15 by omega)]
        simp [up2, up1, va_cpy, f106, hi, Nat.add_comm]
      have t2 : (v o 10).toNatClampNeg = x91.toNatClampNeg + 1 := by omega
      simp only [ok1]
      rw [a9, a10, a12, a14, r10]
      refine ⟨⟨by omega, by omega, by omega, by omega, by omega, by omega, by omega⟩, q.2.1, fun i hi => ?_, ?_⟩
      · rw [r14 i (by omega)]; exact q.2.2.1 (i + 1) (by omega)
      · rw [sumL_ext (g := fun i => v (o + 14) (i + 1)) _ r14]
        have h1 := sumL_shift (f := v (o + 14)) x91.toNatClampNeg
        rw [← t2] at h1
        omega
    exact k x130 v8 Jnone  
  · have ic4 := i_eq c4
    exact k ((-2)) v J0  
set_option maxHeartbeats 1000000 in
theorem sl_X1_accept_109 {n : Int32} {w : VV} (o : Nat) (ho : isO 1 o) (p1 : Nat) (hp1 : isO 5 p1)  {Q : VV → Prop} (k : ∀ v1 : VV, Jc n w v1 → Q v1) : ∀ (m : Nat) (a2 : Int32) (a3 : Int32) (a4 : Int32) (a5 : Int32) (a6 : Int32) (v : VV), Jc n w v → 0 ≤ a6.toInt ∧ a6.toInt ≤ 8 → 8 - a6.toInt < (m : Int) → b_X1_accept_109 o p1 Q  m a2 a3 a4 a5 a6 v := by
  have l0 : Int32.toInt 0 = 0 := by decide
  have l1 : Int32.toInt 1 = 1 := by decide
  have l7 : Int32.toInt 7 = 7 := by decide
  have l8 : Int32.toInt 8 = 8 := by decide
  have l127 : Int32.toInt 127 = 127 := by decide
  intro m
  induction m with
  | zero =>
    intro a2 a3 a4 a5 a6 v J0 h1 hm
    exfalso
    omega
  | succ m ih =>
    intro a2 a3 a4 a5 a6 v J0 h1 hm
    refine ⟨fun c113 => ?_, fun c113 => ?_⟩
    · have ic113 := i_le c113
      exact k  v J0  
    · have ic113 := i_nle c113
      intro x121 ex121
      intro x126 ex126
      have ix126 := i_and ex126 (by decide)
      refine ⟨in_of (by omega) (by omega), ?_⟩
      intro x127 ex127
      refine ⟨fun c128 => ?_, fun c128 => ?_⟩
      · have ic128 := i_eq c128
        exact k  v J0  
      · have ic128 := i_ne c128
        refine s_X1_appendExpected J0 o ho  (fun v1 J1 => ?_)
        intro x135 ex135
        have ix135 := i_add ex135 (by omega) (by omega)
        exact ih a2 a3 a4 a5 x135 v1 J1 (by omega) (by omega)
set_option maxHeartbeats 1000000 in
theorem s_X1_accept {n : Int32} {w v : VV} (J0 : Jc n w v) (o : Nat) (ho : isO 1 o) (p1 : Nat) (hp1 : isO 5 p1)  (hk : kindF (v (p1 + 1) 1) = 240) (hg : Gd p1 v) {Q : VV → Prop} (k : ∀ v1 : VV, Jc n w v1 → Q v1) : w_X1_accept o p1 v Q := by
  have l0 : Int32.toInt 0 = 0 := by decide
  have l1 : Int32.toInt 1 = 1 := by decide
  have l7 : Int32.toInt 7 = 7 := by decide
  have l8 : Int32.toInt 8 = 8 := by decide
  have l127 : Int32.toInt 127 = 127 := by decide
  unfold w_X1_accept
  refine s_X5_number J0 p1 hp1  (fun x1 r1 => ?_)
  intro x8 ex8
  have ix8 := i_and ex8 (by decide)
  intro x12 ex12
  intro x15 ex15
  intro x18 ex18
  have ix18 := i_and ex18 (by decide)
  refine s_X1_credit J0 o ho  (fun x20 => ?_)
  refine ⟨fun c23 => ?_, fun c23 => ?_⟩
  · have ic23 := i_le c23
    unfold b_X1_accept_31
    refine ⟨fun c35 => ?_, fun c35 => ?_⟩
    · have ic35 := i_eq c35
      exact k  v J0  
    · exact absurd c35 (by decide)
  · have ic23 := i_nle c23
    unfold b_X1_accept_31
    refine ⟨fun c35 => ?_, fun c35 => ?_⟩
    · exact absurd c35 (by decide)
    · have ic35 := i_ne c35
      refine ⟨in_of (by omega) (by omega), ?_⟩
      intro x43 ex43
      refine ⟨fun c44 => ?_, fun c44 => ?_⟩
      · have ic44 := i_eq c44
        refine s_X5_headLengthOfKind J0 p1 hp1  (fun x49 r49 => ?_)
        have e49 : x49 = 9 := by rw [r49, hk]; decide
        have l9 : Int32.toInt 9 = 9 := by decide
        have i49 := i_eq e49
        have hgg := hg hk
        refine ⟨in_of (by omega) (by omega), ?_⟩
        intro v4 hv4
        have J1 : Jc n w v4 := by rw [hv4]; exact J0.free (ch1_3 ho).2.1 (al_1_3 ho) rfl (as_1_3 ho) (fun q => absurd q (by decide))
        refine s_X5_isLast J1 p1 hp1  (fun x67 r67 => ?_)
        refine ⟨in_of (by omega) (by omega), ?_⟩
        intro v6 hv6
        have J2 : Jc n w v6 := by rw [hv6]; exact J1.free (ch1_2 ho).2.1 (al_1_2 ho) rfl (as_1_2 ho) (fun q => absurd q (by decide))
        intro x77 ex77
        have bx77 := g5_1 J2 hp1
        rw [← ex77] at bx77
        have f77 : x77 = v p1 1 := by rw [ex77]; simp only [hv6, hv4]; rw [up2_o _ _ _ _ _ (ne_k hp1 (ch1_2 ho).2.1 (by decide)), up2_o _ _ _ _ _ (ne_k hp1 (ch1_3 ho).2.1 (by decide))]
        have e77 := i_eq f77
        intro x82 ex82
        have ix82 := i_sub ex82 (by omega) (by omega)
        refine ⟨in_of (by omega) (by omega), ?_⟩
        intro v7 hv7
        have J3 : Jc n w v7 := by rw [hv7]; exact pj_kl J2 ho (by omega)
        have hi95 : vp_in x8 8 := in_of (by omega) (by omega)
        refine ⟨hi95, ?_⟩
        intro t95 et95
        have qt95 := (arI (i := (Int32.toNatClampNeg x8)) (ch1_0 ho).2.1 (in_lt hi95)).2
        rw [← et95] at qt95
        have gt95 := row_k (ch1_0 ho).2.1 (in_lt hi95)
        rw [← et95] at gt95
        refine ⟨in_of (by omega) (by omega), ?_⟩
        intro x102 ex102
        have bx102 := g1_k J3 ho (i := Int32.toNatClampNeg x8) (by have := tn_of (x := x8) (by omega); omega)
        rw [← ex102] at bx102
        refine ⟨cp_of (by omega) (by omega) (by omega) (by omega) (by omega), ?_⟩
        intro v8 hv8
        have J4 : Jc n w v8 := by rw [hv8]; exact J3.row qt95.1 gt95.1 gt95.2
        exact ⟨100, sl_X1_accept_109 o ho p1 hp1  k  100 x1 x8 1 x49 0 v8 J4 (by omega) (by omega)⟩
      · have ic44 := i_ne c44
        exact k  v J0  
