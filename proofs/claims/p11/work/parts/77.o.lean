theorem up1_of {α : Type} {v : Nat → Nat → α} {o : Nat} (f : Nat → α) (a : Nat) (h : a ≠ o) : up1 v o f a = v a := by funext b; simp [up1, h]
theorem ne_k {c d o t : Nat} (ho : isO c o) (ht : isO d t) (h : c ≠ d) : o ≠ t := fun e => h (by rw [← ho.2, ← ht.2, e])
def pcs (l : Int) : Int := if l = 0 then 1 else (l + 7) / 8
theorem pcs_r (l : Int) (h : 0 ≤ l ∧ l ≤ 64) : 1 ≤ pcs l ∧ pcs l ≤ 8 ∧ 8 * (pcs l - 1) ≤ l := by
  unfold pcs
  split <;> omega
theorem p_ge {o : Nat} (h : isO 4 o) : 522 ≤ o := by
  have hh : ∀ o, o < 874 → kd o = 4 → 522 ≤ o := by decide +kernel
  exact hh o h.1 h.2
theorem p3_23 {n : Int32} {w v : VV} {o : Nat} {x y : Int32} (h : Jc n w v) (ho : isO 3 o) (hx : 0 ≤ y.toInt ∧ y.toInt ≤ x.toInt ∧ x.toInt ≤ 40) : Jc n w (up2 (up2 v o 2 x) o 3 y) := by
  have q := h.at ho (by decide) id
  simp only [ok1] at q
  have K1 : Jq (fun a => a = o) n w (up2 v o 2 x) := (h.wk (fun _ e => e.elim)).put ho (by decide) (by decide) (fun e => absurd rfl e)
  have K2 : Jq (fun a => a = o) n w (up2 (up2 v o 2 x) o 3 y) := K1.put ho (by decide) (by decide) (fun e => absurd rfl e)
  refine K2.mend ?_
  rw [ho.2]
  show 0 ≤ (up2 (up2 v o 2 x) o 3 y o 1).toInt ∧ (up2 (up2 v o 2 x) o 3 y o 1).toInt < 40 ∧ 0 ≤ (up2 (up2 v o 2 x) o 3 y o 3).toInt ∧ (up2 (up2 v o 2 x) o 3 y o 3).toInt ≤ (up2 (up2 v o 2 x) o 3 y o 2).toInt ∧ (up2 (up2 v o 2 x) o 3 y o 2).toInt ≤ 40
  rw [up2_s, up2_k _ _ _ _ (show (1 : Nat) ≠ 3 by decide), up2_k _ _ _ _ (show (1 : Nat) ≠ 2 by decide), up2_k _ _ _ _ (show (2 : Nat) ≠ 3 by decide), up2_s]
  omega

set_option maxHeartbeats 1000000 in
theorem s_X3_clear {n : Int32} {w v : VV} (J0 : Jc n w v) (o : Nat) (ho : isO 3 o)   {Q : VV → Prop} (k : ∀ v1 : VV, Jc n w v1 → Q v1) : w_X3_clear o v Q := by
  have l0 : Int32.toInt 0 = 0 := by decide
  have l1 : Int32.toInt 1 = 1 := by decide
  unfold w_X3_clear
  intro v1 hv1
  intro v2 hv2
  intro v3 hv3
  intro v4 hv4
  have Jnone : Jc n w v4 := by
    rw [hv4, hv3, hv2, hv1]
    refine Jq.free (Jq.free (p3_23 J0 ho (by omega)) ho (ho.l (by decide)) (by decide) (sp_o ho (by decide)) (by decide)) ho (ho.l (by decide)) (by decide) (sp_o ho (by decide)) (by decide)
  exact k  v4 Jnone  
set_option maxHeartbeats 1000000 in
theorem s_X3_pieceAt {n : Int32} {w v : VV} (J0 : Jc n w v) (o : Nat) (ho : isO 3 o) (p1 : Int32)  (hp : 0 ≤ p1.toInt ∧ p1.toInt ≤ 100) {Q : Nat → VV → Prop} (k : ∀ x : Nat, (isO 4 x ∧ 522 ≤ x) → Q x v) : w_X3_pieceAt o p1 v Q := by
  have l0 : Int32.toInt 0 = 0 := by decide
  have l1 : Int32.toInt 1 = 1 := by decide
  have l40 : Int32.toInt 40 = 40 := by decide
  unfold w_X3_pieceAt
  intro x5 ex5
  have bx5 := g3_1 J0 ho
  rw [← ex5] at bx5
  intro x9 ex9
  have ix9 := i_add ex9 (by omega) (by omega)
  intro x12 ex12
  have ix12 := i_remb ex12 (by omega) (by decide)
  have hi13 : vp_in x12 40 := in_of (by omega) (by omega)
  refine ⟨hi13, ?_⟩
  intro t13 et13
  have qt13 := (arP (i := (Int32.toNatClampNeg x12)) (ch3_0 ho).2.1 (in_lt hi13)).2
  rw [← et13] at qt13
  exact k t13 ⟨qt13, by have := p_ge qt13; omega⟩
set_option maxHeartbeats 1000000 in
theorem s_X3_numberAt {n : Int32} {w v : VV} (J0 : Jc n w v) (o : Nat) (ho : isO 3 o) (p1 : Int32)   {Q : Int32 → VV → Prop} (k : ∀ x : Int32, Q x v) : w_X3_numberAt o p1 v Q := by
  have l0 : Int32.toInt 0 = 0 := by decide
  have l1 : Int32.toInt 1 = 1 := by decide
  have l127 : Int32.toInt 127 = 127 := by decide
  unfold w_X3_numberAt
  intro x1 ex1
  intro x5 ex5
  intro x8 ex8
  have ix8 := i_and ex8 (by decide)
  exact k x8 
set_option maxHeartbeats 1000000 in
theorem s_X3_piecesOf {n : Int32} {w v : VV} (J0 : Jc n w v) (p1 : Int32)  (hp : 0 ≤ p1.toInt ∧ p1.toInt ≤ 64) {Q : Int32 → VV → Prop} (k : ∀ x : Int32, (x.toInt = pcs p1.toInt) → Q x v) : w_X3_piecesOf p1 v Q := by
  have l0 : Int32.toInt 0 = 0 := by decide
  have l1 : Int32.toInt 1 = 1 := by decide
  have l8 : Int32.toInt 8 = 8 := by decide
  unfold w_X3_piecesOf
  refine ⟨fun c1 => ?_, fun c1 => ?_⟩
  · have ic1 := i_ne c1
    intro x11 ex11
    have ix11 := i_add ex11 (by omega) (by omega)
    intro x13 ex13
    have ix13 := i_sub ex13 (by omega) (by omega)
    intro x16 ex16
    have ix16 := i_div ex16 (by omega) (by decide)
    rw [l8] at ix16
    exact k x16 (by unfold pcs; split <;> omega)
  · have ic1 := i_eq c1
    exact k 1 (by unfold pcs; split <;> omega)
set_option maxHeartbeats 1000000 in
theorem s_X3_hasRoomFor {n : Int32} {w v : VV} (J0 : Jc n w v) (o : Nat) (ho : isO 3 o) (p1 : Int32)  (hp : 0 ≤ p1.toInt ∧ p1.toInt ≤ 64) {Q : Int32 → VV → Prop} (k : ∀ x : Int32, (¬ x = 0 → (v o 2).toInt + pcs p1.toInt ≤ 40) → Q x v) : w_X3_hasRoomFor o p1 v Q := by
  have l0 : Int32.toInt 0 = 0 := by decide
  have l1 : Int32.toInt 1 = 1 := by decide
  have l40 : Int32.toInt 40 = 40 := by decide
  unfold w_X3_hasRoomFor
  intro x1 ex1
  have bx1 := g3_2 J0 ho
  rw [← ex1] at bx1
  refine s_X3_piecesOf J0 p1 (by omega) (fun x5 r5 => ?_)
  have hq := pcs_r p1.toInt hp
  intro x8 ex8
  have ix8 := i_add ex8 (by omega) (by omega)
  refine ⟨fun c11 => ?_, fun c11 => ?_⟩
  · have ic11 := i_lt c11
    exact k 0 (fun q => by first | exact absurd rfl q | (have := i_eq ex1; omega))
  · have ic11 := i_nlt c11
    exact k 1 (fun q => by first | exact absurd rfl q | (have := i_eq ex1; omega))
set_option maxHeartbeats 1000000 in
theorem sl_X3_addMessage_8 {n : Int32} {w : VV} (o : Nat) (ho : isO 3 o) (p2 : Int32)  {Q : VV → Prop} (k : ∀ v1 : VV, Jc n w v1 → Q v1) : ∀ (m : Nat) (a2 : Int32) (a3 : Int32) (a4 : Int32) (v : VV), Jc n w v → 0 ≤ a2.toInt ∧ a2.toInt ≤ 64 → a3.toInt ≤ 8 ∧ 8 * (a3.toInt - 1) ≤ a2.toInt → 0 ≤ a4.toInt ∧ a4.toInt ≤ a3.toInt → (v o 2).toInt + (a3.toInt - a4.toInt) ≤ 40 → a3.toInt - a4.toInt < (m : Int) → b_X3_addMessage_8 o p2 Q  m a2 a3 a4 v := by
  have l0 : Int32.toInt 0 = 0 := by decide
  have l1 : Int32.toInt 1 = 1 := by decide
  have l8 : Int32.toInt 8 = 8 := by decide
  intro m
  induction m with
  | zero =>
    intro a2 a3 a4 v J0 h1 h2 h3 h4 hm
    exfalso
    omega
  | succ m ih =>
    intro a2 a3 a4 v J0 h1 h2 h3 h4 hm
    refine ⟨fun c11 => ?_, fun c11 => ?_⟩
    · have ic11 := i_le c11
      exact k  v J0  
    · have ic11 := i_nle c11
      intro x16 ex16
      have bx16 := g3_2 J0 ho
      rw [← ex16] at bx16
      refine s_X3_pieceAt J0 o ho x16 (by omega) (fun t19 r19 => ?_)
      refine ⟨r19.1, ?_⟩
      have qt19 : isO 4 t19 := r19.1
      intro x28 ex28
      have ix28 := i_mul ex28 (by rw [l8]; omega) (by rw [l8]; omega)
      rw [l8] at ix28
      intro x38 ex38
      have ix38 := i_sub ex38 (by omega) (by omega)
      intro x39 ex39
      have ix39 := i_min ex39
      intro v2 hv2
      have J1 : Jc n w v2 := by rw [hv2]; exact p4_2 J0 qt19 (by omega)
      intro x51 ex51
      have ix51 := i_sub ex51 (by omega) (by omega)
      refine ⟨fun c52 => ?_, fun c52 => ?_⟩
      · have ic52 := i_ne c52
        unfold b_X3_addMessage_60
        refine ⟨by decide, ?_⟩
        intro v3 hv3
        have J2 : Jc n w v3 := by rw [hv3]; exact J1.free qt19 (qt19.l (by decide)) (by decide) (sp_o qt19 (by decide)) (by decide)
        refine s_X8_clear J2 (t19 + 2) (ch4_1 qt19).2  (fun v4 J3 r68 => ?_)
        intro x82 ex82
        have bx82 := g4_2 J3 qt19
        rw [← ex82] at bx82
        refine ⟨cp_of (by omega) (by omega) (by omega) (by omega) (by omega), ?_⟩
        intro v5 hv5
        have J4 : Jc n w v5 := by rw [hv5]; exact J3.row (ch4_0 qt19).2.1 (al_4_0 qt19) (as_4_0 qt19)
        intro x90 ex90
        have bx90 := g3_2 J4 ho
        rw [← ex90] at bx90
        have e90 : x90 = v o 2 := by rw [ex90]; simp only [hv5, r68, hv3, hv2]; rw [up1_of _ _ (ne_k ho (ch4_0 qt19).2.1 (by decide)), up2_of _ _ _ _ (ne_k ho (ch4_1 qt19).2 (by decide)), up2_of _ _ _ _ (ne_k ho qt19 (by decide)), up2_of _ _ _ _ (ne_k ho qt19 (by decide))]
        have e90 := i_eq e90
        intro x94 ex94
        have ix94 := i_add ex94 (by omega) (by omega)
        intro v6 hv6
        have J5 : Jc n w v6 := by rw [hv6]; exact p3_2 J4 ho (by have q := g3_2 J4 ho; rw [← ex90] at q; omega)
        intro x98 ex98
        have ix98 := i_add ex98 (by omega) (by omega)
        exact ih a2 a3 x98 v6 J5 (by omega) (by omega) (by omega) (by rw [hv6, up2_s]; omega) (by omega)
      · have ic52 := i_eq c52
        unfold b_X3_addMessage_60
        refine ⟨by decide, ?_⟩
        intro v7 hv7
        have J6 : Jc n w v7 := by rw [hv7]; exact J1.free qt19 (qt19.l (by decide)) (by decide) (sp_o qt19 (by decide)) (by decide)
        refine s_X8_clear J6 (t19 + 2) (ch4_1 qt19).2  (fun v8 J7 r68 => ?_)
        intro x82 ex82
        have bx82 := g4_2 J7 qt19
        rw [← ex82] at bx82
        refine ⟨cp_of (by omega) (by omega) (by omega) (by omega) (by omega), ?_⟩
        intro v9 hv9
        have J8 : Jc n w v9 := by rw [hv9]; exact J7.row (ch4_0 qt19).2.1 (al_4_0 qt19) (as_4_0 qt19)
        intro x90 ex90
        have bx90 := g3_2 J8 ho
        rw [← ex90] at bx90
        have e90 : x90 = v o 2 := by rw [ex90]; simp only [hv9, r68, hv7, hv2]; rw [up1_of _ _ (ne_k ho (ch4_0 qt19).2.1 (by decide)), up2_of _ _ _ _ (ne_k ho (ch4_1 qt19).2 (by decide)), up2_of _ _ _ _ (ne_k ho qt19 (by decide)), up2_of _ _ _ _ (ne_k ho qt19 (by decide))]
        have e90 := i_eq e90
        intro x94 ex94
        have ix94 := i_add ex94 (by omega) (by omega)
        intro v10 hv10
        have J9 : Jc n w v10 := by rw [hv10]; exact p3_2 J8 ho (by have q := g3_2 J8 ho; rw [← ex90] at q; omega)
        intro x98 ex98
        have ix98 := i_add ex98 (by omega) (by omega)
        exact ih a2 a3 x98 v10 J9 (by omega) (by omega) (by omega) (by rw [hv10, up2_s]; omega) (by omega)
set_option maxHeartbeats 1000000 in
theorem s_X3_addMessage {n : Int32} {w v : VV} (J0 : Jc n w v) (o : Nat) (ho : isO 3 o) (p2 : Int32)  (hp : 0 ≤ p2.toInt ∧ p2.toInt ≤ 64) (hr : (v o 2).toInt + pcs p2.toInt ≤ 40) {Q : VV → Prop} (k : ∀ v1 : VV, Jc n w v1 → Q v1) : w_X3_addMessage o p2 v Q := by
  have l0 : Int32.toInt 0 = 0 := by decide
  have l1 : Int32.toInt 1 = 1 := by decide
  have l8 : Int32.toInt 8 = 8 := by decide
  unfold w_X3_addMessage
  refine s_X3_piecesOf J0 p2 (by omega) (fun x1 r1 => ?_)
  have hq := pcs_r p2.toInt hp
  exact ⟨100, sl_X3_addMessage_8 o ho p2  k  100 p2 x1 0 v J0 (by omega) (by omega) (by omega) (by omega) (by omega)⟩
set_option maxHeartbeats 1000000 in
theorem s_X3_maySendNext {n : Int32} {w v : VV} (J0 : Jc n w v) (o : Nat) (ho : isO 3 o)   {Q : Int32 → VV → Prop} (k : ∀ x : Int32, (¬ x = 0 → (v o 3).toInt < (v o 2).toInt) → Q x v) : w_X3_maySendNext o v Q := by
  have l0 : Int32.toInt 0 = 0 := by decide
  have l1 : Int32.toInt 1 = 1 := by decide
  unfold w_X3_maySendNext
  intro x1 ex1
  have bx1 := g3_3 J0 ho
  rw [← ex1] at bx1
  intro x5 ex5
  have bx5 := g3_2 J0 ho
  rw [← ex5] at bx5
  refine ⟨fun c8 => ?_, fun c8 => ?_⟩
  · have ic8 := i_le c8
    unfold b_X3_maySendNext_26
    exact k 0 (fun q => by first | exact absurd rfl q | (have := i_eq ex1; have := i_eq ex5; omega))
  · have ic8 := i_nle c8
    intro x12 ex12
    have bx12 := g3_3 J0 ho
    rw [← ex12] at bx12
    intro x16 ex16
    refine ⟨fun c19 => ?_, fun c19 => ?_⟩
    · have ic19 := i_le c19
      unfold b_X3_maySendNext_26
      exact k 0 (fun q => by first | exact absurd rfl q | (have := i_eq ex1; have := i_eq ex5; omega))
    · have ic19 := i_nle c19
      exact k 1 (fun q => by first | exact absurd rfl q | (have := i_eq ex1; have := i_eq ex5; omega))
set_option maxHeartbeats 1000000 in
theorem s_X3_dropUnsent {n : Int32} {w v : VV} (J0 : Jc n w v) (o : Nat) (ho : isO 3 o)   {Q : VV → Prop} (k : ∀ v1 : VV, Jc n w v1 → Q v1) : w_X3_dropUnsent o v Q := by
  have l0 : Int32.toInt 0 = 0 := by decide
  have l1 : Int32.toInt 1 = 1 := by decide
  unfold w_X3_dropUnsent
  intro x2 ex2
  have bx2 := g3_3 J0 ho
  rw [← ex2] at bx2
  intro v1 hv1
  have J1 : Jc n w v1 := by rw [hv1]; exact p3_2 J0 ho (by rw [ex2]; have := g3_3 J0 ho; omega)
  exact k  v1 J1  
set_option maxHeartbeats 1000000 in
theorem s_X3_readReceipt {n : Int32} {w v : VV} (J0 : Jc n w v) (o : Nat) (ho : isO 3 o) (p1 : Int32) (p2 : Int32)   {Q : VV → Prop} (k : ∀ v1 : VV, Jc n w v1 → Q v1) : w_X3_readReceipt o p1 p2 v Q := by
  have l0 : Int32.toInt 0 = 0 := by decide
  have l1 : Int32.toInt 1 = 1 := by decide
  have l40 : Int32.toInt 40 = 40 := by decide
  have l127 : Int32.toInt 127 = 127 := by decide
  unfold w_X3_readReceipt
  intro x2 ex2
  intro x5 ex5
  intro x8 ex8
  have ix8 := i_and ex8 (by decide)
  intro x12 ex12
  have bx12 := g3_3 J0 ho
  rw [← ex12] at bx12
  refine ⟨fun c15 => ?_, fun c15 => ?_⟩
  · have ic15 := i_le c15
    intro x21 ex21
    have bx21 := g3_1 J0 ho
    rw [← ex21] at bx21
    intro x25 ex25
    have ix25 := i_add ex25 (by omega) (by omega)
    intro x28 ex28
    have ix28 := i_remb ex28 (by omega) (by decide)
    intro v1 hv1
    have J1 : Jc n w v1 := by rw [hv1]; exact p3_1 J0 ho (by omega)
    have JB := J1
    have q3 := JB.at ho (by decide) id
    simp only [ok1] at q3
    intro x34 ex34
    have bx34 := g3_2 J1 ho
    rw [← ex34] at bx34
    have e34 := i_eq ex34
    have bx34 := g3_2 JB ho
    rw [← ex34] at bx34
    have e12 : x12 = v1 o 3 := by rw [ex12, hv1, up2_k _ _ _ _ (by decide)]
    have e12 := i_eq e12
    intro x38 ex38
    have ix38 := i_sub ex38 (by omega) (by omega)
    intro v2 hv2
    intro x44 ex44
    have e44 : x44 = x12 := by rw [ex44, hv2, up2_k _ _ _ _ (by decide), hv1, up2_k _ _ _ _ (by decide), ← ex12]
    have e44 := i_eq e44
    skip
    intro x48 ex48
    have ix48 := i_sub ex48 (by omega) (by omega)
    intro v3 hv3
    have J2 : Jc n w v3 := by rw [hv3, hv2]; exact p3_23 JB ho (by omega)
    intro v4 hv4
    have J3 : Jc n w v4 := by rw [hv4]; exact J2.free ho (ho.l (by decide)) (by decide) (sp_o ho (by decide)) (by decide)
    intro v5 hv5
    have J4 : Jc n w v5 := by rw [hv5]; exact J3.free ho (ho.l (by decide)) (by decide) (sp_o ho (by decide)) (by decide)
    exact k  v5 J4  
  · have ic15 := i_nle c15
    exact k  v J0  
set_option maxHeartbeats 1000000 in
theorem sl_X3_isSpent_2 {n : Int32} {w : VV} (o : Nat) (ho : isO 3 o) (p1 : Int32)  {Q : Int32 → VV → Prop}  : ∀ (m : Nat) (a1 : Int32) (a2 : Int32) (v : VV), Jc n w v → 0 ≤ a2.toInt ∧ a2.toInt ≤ 40 → (∀ x : Int32, Q x v) → 40 - a2.toInt < (m : Int) → b_X3_isSpent_2 o p1 Q  m a1 a2 v := by
  have l0 : Int32.toInt 0 = 0 := by decide
  have l1 : Int32.toInt 1 = 1 := by decide
  intro m
  induction m with
  | zero =>
    intro a1 a2 v J0 h1 k hm
    exfalso
    omega
  | succ m ih =>
    intro a1 a2 v J0 h1 k hm
    intro x4 ex4
    have bx4 := g3_3 J0 ho
    rw [← ex4] at bx4
    refine ⟨fun c7 => ?_, fun c7 => ?_⟩
    · have ic7 := i_le c7
      exact k 0 
    · have ic7 := i_nle c7
      refine s_X3_pieceAt J0 o ho a2 (by omega) (fun t12 r12 => ?_)
      refine ⟨r12.1, ?_⟩
      have qt12 : isO 4 t12 := r12.1
      refine s_X8_isSpent J0 (t12 + 2) (ch4_1 qt12).2 a1  (fun x19 => ?_)
      refine ⟨fun c22 => ?_, fun c22 => ?_⟩
      · have ic22 := i_eq c22
        intro x27 ex27
        have ix27 := i_add ex27 (by omega) (by omega)
        exact ih a1 x27 v J0 (by omega) k (by omega)
      · have ic22 := i_ne c22
        exact k 1 
set_option maxHeartbeats 1000000 in
theorem s_X3_isSpent {n : Int32} {w v : VV} (J0 : Jc n w v) (o : Nat) (ho : isO 3 o) (p1 : Int32)   {Q : Int32 → VV → Prop} (k : ∀ x : Int32, Q x v) : w_X3_isSpent o p1 v Q := by
  have l0 : Int32.toInt 0 = 0 := by decide
  have l1 : Int32.toInt 1 = 1 := by decide
  unfold w_X3_isSpent
  exact ⟨100, sl_X3_isSpent_2 o ho p1    100 p1 0 v J0 (by omega) k (by omega)⟩
set_option maxHeartbeats 1000000 in
theorem s_X7_clear {n : Int32} {w v : VV} (J0 : Jc n w v) (o : Nat) (ho : isO 7 o)   {Q : VV → Prop} (k : ∀ v1 : VV, Jc n w v1 → Q v1) : w_X7_clear o v Q := by
  have l0 : Int32.toInt 0 = 0 := by decide
  have l1 : Int32.toInt 1 = 1 := by decide
  unfold w_X7_clear
  intro v1 hv1
  have J1 : Jc n w v1 := by rw [hv1]; exact p7_2 J0 ho (by omega)
  intro v2 hv2
  have J2 : Jc n w v2 := by rw [hv2]; exact J1.free ho (ho.l (by decide)) (by decide) (sp_o ho (by decide)) (by decide)
  refine s_X8_clear J2 (o + 2) (ch7_1 ho).2  (fun v3 J3 r14 => ?_)
  exact k  v3 J3  
set_option maxHeartbeats 1000000 in
theorem s_X7_add {n : Int32} {w v : VV} (J0 : Jc n w v) (o : Nat) (ho : isO 7 o) (p1 : Int32)   {Q : Int32 → VV → Prop} (k : ∀ (x : Int32) (v1 : VV), Jc n w v1 → Q x v1) : w_X7_add o p1 v Q := by
  have lm3 : Int32.toInt (-3) = -3 := by decide
  have l0 : Int32.toInt 0 = 0 := by decide
  have l1 : Int32.toInt 1 = 1 := by decide
  have l8 : Int32.toInt 8 = 8 := by decide
  unfold w_X7_add
  intro x1 ex1
  have bx1 := g7_2 J0 ho
  rw [← ex1] at bx1
  refine ⟨fun c6 => ?_, fun c6 => ?_⟩
  · have ic6 := i_lt c6
    intro x17 ex17
    have bx17 := g7_2 J0 ho
    rw [← ex17] at bx17
    have e17 := i_eq (ex17.trans ex1.symm)
    refine ⟨in_of (by omega) (by omega), ?_⟩
    intro v1 hv1
    have J1 : Jc n w v1 := by rw [hv1]; exact J0.free (ch7_0 ho).2.1 (al_7_0 ho) rfl (as_7_0 ho) (fun q => absurd q (by decide))
    intro x24 ex24
    have bx24 := g7_2 J1 ho
    rw [← ex24] at bx24
    have e24 : x24 = x1 := by rw [ex24, hv1, up2_o _ _ _ _ _ (by omega), ← ex1]
    have e24 := i_eq e24
    intro x28 ex28
    have ix28 := i_add ex28 (by omega) (by omega)
    intro v2 hv2
    have J2 : Jc n w v2 := by rw [hv2]; exact p7_2 J1 ho (by omega)
    intro x33 ex33
    have bx33 := g7_2 J2 ho
    rw [← ex33] at bx33
    exact k x33 v2 J2  
  · have ic6 := i_nlt c6
    exact k ((-3)) v J0  
set_option maxHeartbeats 1000000 in
theorem s_X7_maySendNext {n : Int32} {w v : VV} (J0 : Jc n w v) (o : Nat) (ho : isO 7 o)   {Q : Int32 → VV → Prop} (k : ∀ x : Int32, Q x v) : w_X7_maySendNext o v Q := by
  have l0 : Int32.toInt 0 = 0 := by decide
  have l1 : Int32.toInt 1 = 1 := by decide
  unfold w_X7_maySendNext
  intro x1 ex1
  have bx1 := g7_2 J0 ho
  rw [← ex1] at bx1
  refine ⟨fun c4 => ?_, fun c4 => ?_⟩
  · have ic4 := i_le c4
    unfold b_X7_maySendNext_21
    exact k 0 
  · have ic4 := i_nle c4
    intro x11 ex11
    refine ⟨fun c14 => ?_, fun c14 => ?_⟩
    · have ic14 := i_ne c14
      unfold b_X7_maySendNext_21
      exact k 0 
    · have ic14 := i_eq c14
      exact k 1 
set_option maxHeartbeats 1000000 in
theorem s_X7_dropUnsent {n : Int32} {w v : VV} (J0 : Jc n w v) (o : Nat) (ho : isO 7 o)   {Q : VV → Prop} (k : ∀ v1 : VV, Jc n w v1 → Q v1) : w_X7_dropUnsent o v Q := by
  have l0 : Int32.toInt 0 = 0 := by decide
  have l1 : Int32.toInt 1 = 1 := by decide
  unfold w_X7_dropUnsent
  intro x5 ex5
  refine ⟨fun c8 => ?_, fun c8 => ?_⟩
  · have ic8 := i_le c8
    unfold b_X7_dropUnsent_16
    intro v1 hv1
    have J1 : Jc n w v1 := by rw [hv1]; exact p7_2 J0 ho (by omega)
    exact k  v1 J1  
  · have ic8 := i_nle c8
    unfold b_X7_dropUnsent_16
    intro v2 hv2
    have J2 : Jc n w v2 := by rw [hv2]; exact p7_2 J0 ho (by omega)
    exact k  v2 J2  
set_option maxHeartbeats 1000000 in
theorem s_X7_readReceipt {n : Int32} {w v : VV} (J0 : Jc n w v) (o : Nat) (ho : isO 7 o) (p1 : Int32)   {Q : VV → Prop} (k : ∀ v1 : VV, Jc n w v1 → Q v1) : w_X7_readReceipt o p1 v Q := by
  have l0 : Int32.toInt 0 = 0 := by decide
  have l1 : Int32.toInt 1 = 1 := by decide
  have l127 : Int32.toInt 127 = 127 := by decide
  unfold w_X7_readReceipt
  intro x1 ex1
  intro x5 ex5
  intro x8 ex8
  have ix8 := i_and ex8 (by decide)
  intro x11 ex11
  have bx11 := g7_2 J0 ho
  rw [← ex11] at bx11
  refine ⟨fun c14 => ?_, fun c14 => ?_⟩
  · have ic14 := i_eq c14
    exact k  v J0  
  · have ic14 := i_ne c14
    intro x21 ex21
    refine ⟨fun c24 => ?_, fun c24 => ?_⟩
    · have ic24 := i_eq c24
      exact k  v J0  
    · have ic24 := i_ne c24
      refine ⟨fun c29 => ?_, fun c29 => ?_⟩
      · have ic29 := i_eq c29
        intro x35 ex35
        have bx35 := g7_2 J0 ho
        rw [← ex35] at bx35
        have e35 := i_eq (ex35.trans ex11.symm)
        intro x39 ex39
        have ix39 := i_sub ex39 (by omega) (by omega)
        intro v1 hv1
        have J1 : Jc n w v1 := by rw [hv1]; exact p7_2 J0 ho (by omega)
        intro x54 ex54
        have bx54 := g7_2 J1 ho
        rw [← ex54] at bx54
        have e54 : x54 = x39 := by rw [ex54, hv1, up2_s]
        have e54 := i_eq e54
        refine ⟨cp_of (by omega) (by omega) (by omega) (by omega) (by omega), ?_⟩
        intro v2 hv2
        have J2 : Jc n w v2 := by rw [hv2]; exact J1.row (ch7_0 ho).2.1 (al_7_0 ho) (as_7_0 ho)
        intro v3 hv3
        have J3 : Jc n w v3 := by rw [hv3]; exact J2.free ho (ho.l (by decide)) (by decide) (sp_o ho (by decide)) (by decide)
        refine s_X8_clear J3 (o + 2) (ch7_1 ho).2  (fun v4 J4 r69 => ?_)
        exact k  v4 J4  
      · have ic29 := i_ne c29
        exact k  v J0  
set_option maxHeartbeats 1000000 in
theorem s_X6_clear {n : Int32} {w v : VV} (J0 : Jc n w v) (o : Nat) (ho : isO 6 o)   {Q : VV → Prop} (k : ∀ v1 : VV, Jc n w v1 → Q v1) : w_X6_clear o v Q := by
  have l0 : Int32.toInt 0 = 0 := by decide
  have l1 : Int32.toInt 1 = 1 := by decide
  unfold w_X6_clear
  intro v1 hv1
  have J1 : Jc n w v1 := by rw [hv1]; exact p6_2 J0 ho (by omega)
  intro v2 hv2
  have J2 : Jc n w v2 := by rw [hv2]; exact J1.free ho (ho.l (by decide)) (by decide) (sp_o ho (by decide)) (by decide)
  exact k  v2 J2  
set_option maxHeartbeats 1000000 in
theorem s_X6_accept {n : Int32} {w v : VV} (J0 : Jc n w v) (o : Nat) (ho : isO 6 o) (p1 : Int32) (p2 : Int32)   {Q : VV → Prop} (k : ∀ v1 : VV, Jc n w v1 → Q v1) : w_X6_accept o p1 p2 v Q := by
  have l0 : Int32.toInt 0 = 0 := by decide
  have l1 : Int32.toInt 1 = 1 := by decide
  have l127 : Int32.toInt 127 = 127 := by decide
  have l512 : Int32.toInt 512 = 512 := by decide
  unfold w_X6_accept
  intro x2 ex2
  refine ⟨fun c5 => ?_, fun c5 => ?_⟩
  · have ic5 := i_ne c5
    exact k  v J0  
  · have ic5 := i_eq c5
    intro x9 ex9
    have bx9 := g6_2 J0 ho
    rw [← ex9] at bx9
    refine ⟨fun c15 => ?_, fun c15 => ?_⟩
    · have ic15 := i_lt c15
      intro x24 ex24
      have bx24 := g6_1 J0 ho
      rw [← ex24] at bx24
      intro x28 ex28
      have bx28 := g6_2 J0 ho
      rw [← ex28] at bx28
      have e28 := i_eq (ex28.trans ex9.symm)
      intro x31 ex31
      have ix31 := i_add ex31 (by omega) (by omega)
      intro x35 ex35
      have ix35 := i_remb ex35 (by omega) (by decide)
      refine ⟨in_of (by omega) (by omega), ?_⟩
      intro v1 hv1
      have J1 : Jc n w v1 := by rw [hv1]; exact J0.free (ch6_0 ho).2.1 (al_6_0 ho) rfl (as_6_0 ho) (fun q => absurd q (by decide))
      intro x40 ex40
      have bx40 := g6_2 J1 ho
      rw [← ex40] at bx40
      have e40 : x40 = x9 := by rw [ex40, hv1, up2_o _ _ _ _ _ (by omega), ← ex9]
      have e40 := i_eq e40
      intro x44 ex44
      have ix44 := i_add ex44 (by omega) (by omega)
      intro v2 hv2
      have J2 : Jc n w v2 := by rw [hv2]; exact p6_2 J1 ho (by omega)
      intro x50 ex50
      intro x54 ex54
      intro x57 ex57
      have ix57 := i_and ex57 (by decide)
      intro v3 hv3
      have J3 : Jc n w v3 := by rw [hv3]; exact J2.free ho (ho.l (by decide)) (by decide) (sp_o ho (by decide)) (by decide)
      exact k  v3 J3  
    · have ic15 := i_nlt c15
      exact k  v J0  
set_option maxHeartbeats 1000000 in
theorem s_X6_takeByte {n : Int32} {w v : VV} (J0 : Jc n w v) (o : Nat) (ho : isO 6 o)   {Q : Int32 → VV → Prop} (k : ∀ (x : Int32) (v1 : VV), Jc n w v1 → Q x v1) : w_X6_takeByte o v Q := by
  have lm2 : Int32.toInt (-2) = -2 := by decide
  have l0 : Int32.toInt 0 = 0 := by decide
  have l1 : Int32.toInt 1 = 1 := by decide
  have l512 : Int32.toInt 512 = 512 := by decide
  unfold w_X6_takeByte
  intro x1 ex1
  have bx1 := g6_2 J0 ho
  rw [← ex1] at bx1
  refine ⟨fun c4 => ?_, fun c4 => ?_⟩
  · have ic4 := i_ne c4
    intro x15 ex15
    have bx15 := g6_1 J0 ho
    rw [← ex15] at bx15
    refine ⟨in_of (by omega) (by omega), ?_⟩
    intro x18 ex18
    intro x22 ex22
    have bx22 := g6_1 J0 ho
    rw [← ex22] at bx22
    intro x26 ex26
    have ix26 := i_add ex26 (by omega) (by omega)
    intro x30 ex30
    have ix30 := i_remb ex30 (by omega) (by decide)
    intro v1 hv1
    have J1 : Jc n w v1 := by rw [hv1]; exact p6_1 J0 ho (by omega)
    intro x36 ex36
    have bx36 := g6_2 J1 ho
    rw [← ex36] at bx36
    have e36 : x36 = x1 := by rw [ex36, hv1, up2_k _ _ _ _ (by decide), ← ex1]
    have e36 := i_eq e36
    intro x40 ex40
    have ix40 := i_sub ex40 (by omega) (by omega)
    intro v2 hv2
    have J2 : Jc n w v2 := by rw [hv2]; exact p6_2 J1 ho (by omega)
    exact k x18 v2 J2  
  · have ic4 := i_eq c4
    exact k ((-2)) v J0  
