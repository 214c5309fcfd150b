theorem sumL_mo {f : Nat → Int32} {i j : Nat} (h : ∀ q, q < j → 0 ≤ (f q).toInt) (hij : i ≤ j) : sumL f i ≤ sumL f j := by
  induction j with
  | zero => rw [show i = 0 by omega]; exact Int.le_refl _
  | succ j ih =>
    by_cases e : i = j + 1
    · rw [e]; exact Int.le_refl _
    · have h1 := ih (fun q hq => h q (by omega)) (by omega)
      have h2 := h j (by omega)
      show sumL f i ≤ sumL f j + (f j).toInt
      omega

set_option maxHeartbeats 2000000 in
theorem sl_X10_credit_4 (p1 : Int32) {g : Nat → Int → Int} {e f : Nat} (he : p1.toInt = (e : Int)) (hef : EF e f) {Q : Int32 → VV → Prop}  : ∀ (m : Nat) (a2 : Int32) (a3 : Int32) (v : VV) , iR g e v → (∀ x : Int32, (0 ≤ x.toInt ∧ x.toInt ≤ 6 ∧ (0 < x.toInt → sumL (fun m => v 856 (64 * e + m)) (v 854 e).toInt.toNat + x.toInt ≤ 6)) → Q x v) → (0 ≤ a3.toInt ∧ a3.toInt ≤ (v 854 e).toInt) → a2.toInt = sumL (fun m => v 856 (64 * e + m)) a3.toInt.toNat → (v 854 e).toInt - a3.toInt < (m : Int) → b_X10_credit_4 p1 Q  m p1 a2 a3 v := by
  have tE : Int32.toNatClampNeg p1 = e := by have := tn_of (x := p1) (by omega); omega
  have l0 : Int32.toInt 0 = 0 := by decide
  have l1 : Int32.toInt 1 = 1 := by decide
  have l6 : Int32.toInt 6 = 6 := by decide
  have l64 : Int32.toInt 64 = 64 := by decide
  intro m
  induction m with
  | zero =>
    intro a2 a3 v  h k h1 h3 hm
    exfalso
    omega
  | succ m ih =>
    intro a2 a3 v  h k h1 h3 hm
    obtain ⟨q1, q2, q3, q4, q5, q6, q7, q8, q9⟩ := h
    have hnn : ∀ j : Nat, (j : Int) ≤ (v 854 e).toInt → 0 ≤ sumL (fun m => v 856 (64 * e + m)) j := fun j hj => sumL_nn j (fun i hi => by have := q5 i (by omega); show 0 ≤ (v 856 (64 * e + i)).toInt; omega)
    have hmo : ∀ j : Nat, (j : Int) ≤ (v 854 e).toInt → sumL (fun m => v 856 (64 * e + m)) j ≤ 520 := fun j hj => by
      have : sumL (fun m => v 856 (64 * e + m)) j ≤ sumL (fun m => v 856 (64 * e + m)) (v 854 e).toInt.toNat := sumL_mo (fun i hi => by have := q5 i (by omega); show 0 ≤ (v 856 (64 * e + i)).toInt; omega) (by omega)
      omega
    have n1 := hnn a3.toInt.toNat (by omega)
    have n2 := hmo a3.toInt.toNat (by omega)
    refine ⟨in_of (by omega) (by omega), ?_⟩
    intro x10 ex10
    rw [tE] at ex10
    have ix10 := i_eq ex10
    refine ⟨fun c11 => ?_, fun c11 => ?_⟩
    · have ic11 := i_le c11
      skip
      refine ⟨fun c37 => ?_, fun c37 => ?_⟩
      · have ic37 := i_le c37
        intro x47 ex47
        have ix47 := i_sub ex47 (by omega) (by omega)
        exact k x47 (by rw [show (v 854 e).toInt.toNat = a3.toInt.toNat by omega]; omega)
      · have ic37 := i_nle c37
        exact k 0 (by rw [show (v 854 e).toInt.toNat = a3.toInt.toNat by omega]; omega)
    · have ic11 := i_nle c11
      intro x22 ex22
      have ix22 := i_mul ex22 (by rw [l64]; omega) (by rw [l64]; omega)
      rw [l64] at ix22
      intro x24 ex24
      have ix24 := i_add ex24 (by omega) (by omega)
      refine ⟨in_of (by omega) (by omega), ?_⟩
      intro x25 ex25
      have ix25 := i_eq ex25
      have t24 := tn_of (x := x24) (by omega)
      have t24b : x24.toNatClampNeg = 64 * e + a3.toInt.toNat := by omega
      rw [t24b] at ix25
      have b25 := q5 a3.toInt.toNat (by omega)
      intro x26 ex26
      have ix26 := i_add ex26 (by omega) (by omega)
      intro x28 ex28
      have ix28 := i_add ex28 (by omega) (by omega)
      have hs1 : sumL (fun m => v 856 (64 * e + m)) x28.toInt.toNat = sumL (fun m => v 856 (64 * e + m)) a3.toInt.toNat + x25.toInt := by
        rw [show x28.toInt.toNat = a3.toInt.toNat + 1 by omega, ix25]; rfl
      exact ih x26 x28 v ⟨q1, q2, q3, q4, q5, q6, q7, q8, q9⟩ k (by omega) (by rw [hs1]; omega) (by omega)
set_option maxHeartbeats 2000000 in
theorem s_X10_credit {v : VV} (p1 : Int32) {g : Nat → Int → Int} {e f : Nat} (he : p1.toInt = (e : Int)) (hef : EF e f) (h : iR g e v) {Q : Int32 → VV → Prop} (k : ∀ x : Int32, (0 ≤ x.toInt ∧ x.toInt ≤ 6 ∧ (0 < x.toInt → sumL (fun m => v 856 (64 * e + m)) (v 854 e).toInt.toNat + x.toInt ≤ 6)) → Q x v) : w_X10_credit p1 v Q := by
  have l0 : Int32.toInt 0 = 0 := by decide
  have l1 : Int32.toInt 1 = 1 := by decide
  have l6 : Int32.toInt 6 = 6 := by decide
  have l64 : Int32.toInt 64 = 64 := by decide
  have tE : Int32.toNatClampNeg p1 = e := by have := tn_of (x := p1) (by omega); omega
  have hm := h.2.2.2.1
  unfold w_X10_credit
  exact ⟨100, sl_X10_credit_4 p1 he hef 100 0 0 v h k (by have := h.2.2.2.1; omega) (by rfl) (by omega)⟩
