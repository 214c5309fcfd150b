/-! numbers: Int32 by toInt, for omega -/
theorem bm32 {x : Int} (h1 : -2147483648 ≤ x) (h2 : x ≤ 2147483647) : x.bmod (2 ^ 32) = x := Int.bmod_eq_of_le (by omega) (by omega)
theorem i_add {x a b : Int32} (e : x = a + b) (h1 : -2147483648 ≤ a.toInt + b.toInt) (h2 : a.toInt + b.toInt ≤ 2147483647) : x.toInt = a.toInt + b.toInt := by
  rw [e, Int32.toInt_add]; exact bm32 h1 h2
theorem i_sub {x a b : Int32} (e : x = a - b) (h1 : -2147483648 ≤ a.toInt - b.toInt) (h2 : a.toInt - b.toInt ≤ 2147483647) : x.toInt = a.toInt - b.toInt := by
  rw [e, Int32.toInt_sub]; exact bm32 h1 h2
theorem i_mul {x a b : Int32} (e : x = a * b) (h1 : -2147483648 ≤ a.toInt * b.toInt) (h2 : a.toInt * b.toInt ≤ 2147483647) : x.toInt = a.toInt * b.toInt := by
  rw [e, Int32.toInt_mul]; exact bm32 h1 h2
theorem i_rng (a : Int32) : -2147483648 ≤ a.toInt ∧ a.toInt ≤ 2147483647 := by
  have h1 := a.le_toInt
  have h2 := a.toInt_lt
  omega
theorem i_div {x a b : Int32} (e : x = a / b) (ha : 0 ≤ a.toInt) (hb : 0 < b.toInt) : x.toInt = a.toInt / b.toInt := by
  have h := i_rng a
  have h1 : a.toInt.tdiv b.toInt = a.toInt / b.toInt := Int.tdiv_eq_ediv_of_nonneg ha
  have h2 : 0 ≤ a.toInt / b.toInt := Int.ediv_nonneg ha (by omega)
  have h3 : a.toInt / b.toInt ≤ a.toInt := Int.ediv_le_self _ ha
  rw [e, Int32.toInt_div, h1]; exact bm32 (by omega) (by omega)
theorem i_rem {x a b : Int32} (e : x = a - a / b * b) (ha : 0 ≤ a.toInt) (hb : 0 < b.toInt) : x.toInt = a.toInt % b.toInt := by
  have h := i_rng a
  have h1 := i_div (x := a / b) rfl ha hb
  have h4 : b.toInt * (a.toInt / b.toInt) + a.toInt % b.toInt = a.toInt := Int.mul_ediv_add_emod _ _
  have h5 := Int.emod_nonneg a.toInt (show b.toInt ≠ 0 by omega)
  have h6 : 0 ≤ a.toInt / b.toInt := Int.ediv_nonneg ha (by omega)
  have h7 : 0 ≤ b.toInt * (a.toInt / b.toInt) := Int.mul_nonneg (by omega) h6
  have h8 : (a / b * b).toInt = b.toInt * (a.toInt / b.toInt) := by
    rw [i_mul (x := a / b * b) rfl (by rw [h1, Int.mul_comm]; omega) (by rw [h1, Int.mul_comm]; omega), h1, Int.mul_comm]
  rw [i_sub e (by omega) (by omega)]
  omega
theorem i_remb {x a b : Int32} (e : x = a - a / b * b) (ha : 0 ≤ a.toInt) (hb : 0 < b.toInt) : 0 ≤ x.toInt ∧ x.toInt < b.toInt := by
  rw [i_rem e ha hb]
  exact ⟨Int.emod_nonneg _ (by omega), Int.emod_lt_of_pos _ hb⟩
theorem i_and {x a m : Int32} (e : x = a &&& m) (hm : 0 ≤ m.toInt) : 0 ≤ x.toInt ∧ x.toInt ≤ m.toInt := by
  have h0 : m.toBitVec.toNat < 2147483648 := by
    have h1 : m.toInt = m.toBitVec.toInt := rfl
    rw [h1, BitVec.toInt_eq_toNat_cond] at hm
    have := m.toBitVec.isLt
    split at hm <;> omega
  have h2 : x.toBitVec.toNat = a.toBitVec.toNat &&& m.toBitVec.toNat := by rw [e]; exact BitVec.toNat_and _ _
  have h3 : x.toBitVec.toNat ≤ m.toBitVec.toNat := by rw [h2]; exact Nat.and_le_right
  have h4 : x.toInt = (x.toBitVec.toNat : Int) := by
    have h1 : x.toInt = x.toBitVec.toInt := rfl
    rw [h1, BitVec.toInt_eq_toNat_cond, if_pos (by omega)]
  have h5 : m.toInt = (m.toBitVec.toNat : Int) := by
    have h1 : m.toInt = m.toBitVec.toInt := rfl
    rw [h1, BitVec.toInt_eq_toNat_cond, if_pos (by omega)]
  omega
theorem i_lt {a b : Int32} (h : a < b) : a.toInt < b.toInt := Int32.lt_iff_toInt_lt.mp h
theorem i_le {a b : Int32} (h : a ≤ b) : a.toInt ≤ b.toInt := Int32.le_iff_toInt_le.mp h
theorem i_nlt {a b : Int32} (h : ¬ a < b) : b.toInt ≤ a.toInt := Int.not_lt.mp (fun q => h (Int32.lt_iff_toInt_lt.mpr q))
theorem i_nle {a b : Int32} (h : ¬ a ≤ b) : b.toInt < a.toInt := Int.not_le.mp (fun q => h (Int32.le_iff_toInt_le.mpr q))
theorem i_eq {a b : Int32} (h : a = b) : a.toInt = b.toInt := by rw [h]
theorem i_ne {a b : Int32} (h : ¬ a = b) : ¬ a.toInt = b.toInt := fun q => h (Int32.toInt_inj.mp q)
theorem i_of {a b : Int32} (h : a.toInt = b.toInt) : a = b := Int32.toInt_inj.mp h
theorem in_of {x : Int32} {N : Nat} (h1 : 0 ≤ x.toInt) (h2 : x.toInt < N) : vp_in x N := by
  intro q
  rcases q with q | q
  · have := i_lt q
    rw [show Int32.toInt 0 = 0 from rfl] at this
    omega
  · have h3 : x.toNatClampNeg = x.toInt.toNat := rfl
    rw [h3] at q
    omega
theorem tn_of {x : Int32} (h : 0 ≤ x.toInt) : (x.toNatClampNeg : Int) = x.toInt := by
  have h3 : x.toNatClampNeg = x.toInt.toNat := rfl
  rw [h3]
  omega
theorem tn_in {x : Int32} {N : Nat} (h : vp_in x N) : (x.toNatClampNeg : Int) = x.toInt ∧ x.toNatClampNeg < N ∧ 0 ≤ x.toInt := by
  have h0 : 0 ≤ x.toInt := by
    have := i_nlt (fun q => h (Or.inl q))
    rwa [show Int32.toInt 0 = 0 from rfl] at this
  exact ⟨tn_of h0, in_lt h, h0⟩
theorem i_max {x a b : Int32} (e : x = if a < b then b else a) : x.toInt = max a.toInt b.toInt := by
  rw [e]
  by_cases h : a < b
  · rw [if_pos h]; have := i_lt h; omega
  · rw [if_neg h]; have := i_nlt h; omega
theorem i_min {x a b : Int32} (e : x = if b < a then b else a) : x.toInt = min a.toInt b.toInt := by
  rw [e]
  by_cases h : b < a
  · rw [if_pos h]; have := i_lt h; omega
  · rw [if_neg h]; have := i_nlt h; omega
theorem zb_i {x : Int32} (h : x = 0 ∨ x = 1) : 0 ≤ x.toInt ∧ x.toInt ≤ 1 := by
  rcases h with rfl | rfl <;> decide
