/-! the reference: how a unit is made and sent -/
def Mw (v : VV) (r : Nat → Int32) (n : Int32) : VV := up2 (up1 v 873 r) 816 63 n
abbrev byt (x : Int32) : Prop := 0 ≤ x.toInt ∧ x.toInt ≤ 255
section MW
variable {v : VV} {r : Nat → Int32} {n m b : Int32}
theorem Mw_n : Mw v r n 816 63 = n := up2_s _ _ _ _
theorem Mw_r : Mw v r n 873 = r := by funext b; simp [Mw, up2, up1]
theorem Mw_o {a : Nat} (h1 : a ≠ 873) (h2 : a ≠ 816) : Mw v r n a = v a := by funext b; simp [Mw, up2, up1, h1, h2]
theorem Mw_k {k : Nat} (h : k ≠ 63) : Mw v r n 816 k = v 816 k := by simp [Mw, up2, up1, h]
theorem Mw_un : up2 (Mw v r n) 816 63 m = Mw v r m := by
  funext a c
  simp only [Mw, up2, up1]
  by_cases h1 : a = 816
  · by_cases h2 : c = 63
    · simp [h1, h2]
    · simp [h1, h2]
  · simp [h1]
theorem Mw_ub {k : Nat} : up2 (Mw v r n) 873 k b = Mw v (upd r k b) n := by
  funext a c
  simp only [Mw, up2, up1, upd]
  by_cases h1 : a = 873
  · by_cases h2 : c = k
    · simp [h1, h2]
    · simp [h1, h2]
  · simp [h1]
theorem Mw_id : Mw v (v 873) (v 816 63) = v := by
  funext a c
  simp only [Mw, up2, up1]
  by_cases h1 : a = 816
  · by_cases h2 : c = 63
    · simp [h1, h2]
    · simp [h1, h2]
  · by_cases h2 : a = 873
    · simp [h2]
    · simp [h1, h2]
end MW
theorem upd_s {f : Nat → Int32} {k : Nat} {x : Int32} : upd f k x k = x := by simp [upd]
theorem upd_n {f : Nat → Int32} {k j : Nat} {x : Int32} (h : j ≠ k) : upd f k x j = f j := by simp [upd, h]
theorem byt_upd {f : Nat → Int32} {k : Nat} {x : Int32} (h : ∀ j, byt (f j)) (hx : byt x) : ∀ j, byt (upd f k x j) := by
  intro j
  by_cases e : j = k
  · rw [e, upd_s]; exact hx
  · rw [upd_n e]; exact h j
theorem sumL_upd {f : Nat → Int32} {k : Nat} {x : Int32} : ∀ i : Nat, k < i → sumL (upd f k x) i = sumL f i + x.toInt - (f k).toInt
  | 0, h => absurd h (Nat.not_lt_zero _)
  | i + 1, h => by
    show sumL (upd f k x) i + (upd f k x i).toInt = sumL f i + (f i).toInt + x.toInt - (f k).toInt
    by_cases e : k = i
    · subst e
      rw [upd_s, sumL_ext (g := f) k (fun j hj => upd_n (by omega))]
      omega
    · rw [sumL_upd i (by omega), upd_n (by omega)]
      omega
theorem sumL_r {f : Nat → Int32} (h : ∀ j, byt (f j)) : ∀ i : Nat, 0 ≤ sumL f i ∧ sumL f i ≤ 255 * i
  | 0 => by exact ⟨Int.le_refl 0, Int.le_refl 0⟩
  | i + 1 => by
    have h1 := sumL_r h i
    have h2 := h i
    show 0 ≤ sumL f i + (f i).toInt ∧ sumL f i + (f i).toInt ≤ 255 * ((i + 1 : Nat) : Int)
    omega
theorem s_push {v : VV} {r : Nat → Int32} {n b : Int32} {i : Nat} {Q : VV → Prop} (hn : n.toInt = (i : Int)) (hi : i < 20) (k : ∀ m : Int32, m.toInt = ((i + 1 : Nat) : Int) → Q (Mw v (upd r i b) m)) : w_X10_push b (Mw v r n) Q := by
  have l1 : Int32.toInt 1 = 1 := by decide
  unfold w_X10_push
  intro x5 e5
  rw [Mw_n] at e5
  subst e5
  have t5 := tn_of (x := x5) (by omega)
  have t6 : Int32.toNatClampNeg x5 = i := by omega
  refine ⟨in_of (by omega) (by omega), ?_⟩
  intro v1 h1 x12 e12 x16 e16 v3 h3
  rw [Mw_ub, t6] at h1
  subst h1
  rw [Mw_n] at e12
  subst e12
  rw [Mw_un] at h3
  subst h3
  have i16 := i_add e16 (by omega) (by omega)
  exact k x16 (by omega)
theorem s_begin {v : VV} {r : Nat → Int32} {n c to : Int32} {Q : VV → Prop} (ht : 0 ≤ to.toInt) (k : ∀ m h l : Int32, m.toInt = ((4 : Nat) : Int) → h.toInt = to.toInt / 256 → l.toInt = to.toInt % 256 → Q (Mw v (upd (upd (upd r 1 c) 2 h) 3 l) m)) : w_X10_begin c to (Mw v r n) Q := by
  have l1 : Int32.toInt 1 = 1 := by decide
  have l256 : Int32.toInt 256 = 256 := by decide
  unfold w_X10_begin
  intro v1 h1
  rw [Mw_un] at h1
  subst h1
  refine s_push (i := 1) (by decide) (by decide) (fun m2 h2 => ?_)
  intro x15 e15
  have i15 := i_div e15 ht (by decide)
  rw [l256] at i15
  refine s_push (i := 2) h2 (by decide) (fun m3 h3 => ?_)
  intro x24 e24
  have i24 := i_rem e24 ht (by decide)
  rw [l256] at i24
  exact s_push (i := 3) h3 (by decide) (fun m4 h4 => k m4 x15 x24 h4 i15 i24)
/-- the row behind the head's end -/
def ehR (r : Nat → Int32) (i : Nat) (z : Int32) : Nat → Int32 := upd (upd (upd (upd (upd r i 195) (i + 1) 2) (i + 2) 0) (i + 3) 0) 0 z
theorem s_endHead {v : VV} {r : Nat → Int32} {n : Int32} {i : Nat} {Q : VV → Prop} (hn : n.toInt = (i : Int)) (hi : i < 17) (k : ∀ m z : Int32, m.toInt = ((i + 4 : Nat) : Int) → z.toInt = (i : Int) + 3 → Q (Mw v (ehR r i z) m)) : w_X10_endHead (Mw v r n) Q := by
  have l1 : Int32.toInt 1 = 1 := by decide
  unfold w_X10_endHead
  refine s_push hn (by omega) (fun m1 h1 => s_push h1 (by omega) (fun m2 h2 => s_push h2 (by omega) (fun m3 h3 => s_push h3 (by omega) (fun m4 h4 => ?_))))
  intro x28 e28 x32 e32 v5 h5
  rw [Mw_n] at e28
  subst e28
  rw [Mw_ub] at h5
  subst h5
  have i32 := i_sub e32 (by omega) (by omega)
  exact k x28 x32 h4 (by omega)
theorem i_rem255 {x a : Int32} (e : x = a - a / 255 * 255) (ha : -2147480000 ≤ a.toInt ∧ a.toInt ≤ 2147480000) : -255 < x.toInt ∧ x.toInt < 255 ∧ (x.toInt - a.toInt) % 255 = 0 := by
  have l255 : Int32.toInt 255 = 255 := by decide
  have h := i_rng a
  have d0 : (a / 255).toInt = a.toInt.tdiv 255 := by
    rw [Int32.toInt_div, l255]
    by_cases h0 : 0 ≤ a.toInt
    · rw [Int.tdiv_eq_ediv_of_nonneg h0]; exact bm32 (by omega) (by omega)
    · have e1 : a.toInt.tdiv 255 = -((-a.toInt) / 255) := by
        rw [← Int.tdiv_eq_ediv_of_nonneg (show 0 ≤ -a.toInt by omega), Int.neg_tdiv]; omega
      rw [e1]; exact bm32 (by omega) (by omega)
  have d1 : 255 * (a.toInt.tdiv 255) - a.toInt < 255 ∧ a.toInt - 255 * (a.toInt.tdiv 255) < 255 := by
    by_cases h0 : 0 ≤ a.toInt
    · rw [Int.tdiv_eq_ediv_of_nonneg h0]; omega
    · have e1 : a.toInt.tdiv 255 = -((-a.toInt) / 255) := by
        rw [← Int.tdiv_eq_ediv_of_nonneg (show 0 ≤ -a.toInt by omega), Int.neg_tdiv]; omega
      rw [e1]; omega
  generalize a.toInt.tdiv 255 = q at d0 d1
  have d2 := i_mul (x := a / 255 * 255) rfl (by rw [d0, l255]; omega) (by rw [d0, l255]; omega)
  rw [d0, l255] at d2
  have d3 := i_sub e (by omega) (by omega)
  omega
theorem s_mod255 {v : VV} {p : Int32} {Q : Int32 → VV → Prop} (hp : -2147480000 ≤ p.toInt ∧ p.toInt ≤ 2147480000) (k : ∀ x : Int32, 0 ≤ x.toInt → x.toInt < 255 → (x.toInt - p.toInt) % 255 = 0 → Q x v) : w_X10_mod255 p v Q := by
  have l255 : Int32.toInt 255 = 255 := by decide
  have l0 : Int32.toInt 0 = 0 := by decide
  unfold w_X10_mod255
  intro x4 e4
  have h := i_rem255 e4 hp
  refine ⟨fun c => ?_, fun c => ?_⟩
  · have c := i_le c
    exact k x4 (by omega) (by omega) (by omega)
  · have c := i_nle c
    intro x14 e14
    have i14 := i_add e14 (by omega) (by omega)
    exact k x14 (by omega) (by omega) (by omega)
theorem mul_r {a b A B : Int} (h1 : 0 ≤ a) (h2 : a ≤ A) (h3 : 0 ≤ b) (h4 : b ≤ B) : 0 ≤ a * b ∧ a * b ≤ A * B := ⟨Int.mul_nonneg h1 h3, Int.mul_le_mul h2 h4 h3 (by omega)⟩
theorem sl_check {v : VV} {r : Nat → Int32} {n : Int32} {i h : Nat} {Q : VV → Prop} (hn : n.toInt = (i : Int)) (hi : i ≤ 20) (hh : (r 0).toInt = (h : Int)) (h1 : 1 ≤ h) (h2 : h < i) (hr : ∀ j, byt (r j)) (z1 : r (h - 1) = 0) (z2 : r h = 0) (k : ∀ X Y : Int32, byt X → byt Y → sumL (upd (upd r (h - 1) X) h Y) i % 255 = 0 → Q (Mw v (upd (upd r (h - 1) X) h Y) n)) : ∀ (m j : Nat) (a1 a2 a3 : Int32), i < m + j → j ≤ i → a1.toInt = sumL r j → 0 ≤ a2.toInt → a2.toInt ≤ 5100 * (j : Int) → a3.toInt = (j : Int) + 1 → b_X10_check_6 Q m a1 a2 a3 (Mw v r n) := by
  have l1 : Int32.toInt 1 = 1 := by decide
  intro m
  induction m with
  | zero => intro j a1 a2 a3 hm hj e1 b1 b2 e3; exfalso; omega
  | succ m ih =>
    intro j a1 a2 a3 hm hj e1 b1 b2 e3
    have sr := sumL_r hr j
    intro x8 e8
    rw [Mw_n] at e8
    subst e8
    refine ⟨fun c => ?_, fun c => ?_⟩
    · have c := i_lt c
      have ej : j = i := by omega
      subst ej
      intro x56 e56 x64 e64 x66 e66 x70 e70 x72 e72 x74 e74
      rw [Mw_r] at e56
      rw [show Int32.toNatClampNeg 0 = 0 from rfl] at e56
      rw [Mw_n] at e66
      subst e66
      have i56 : x56.toInt = (h : Int) := by rw [e56]; exact hh
      have i64 := i_sub e64 (by omega) (by omega)
      have i70 := i_sub e70 (by omega) (by omega)
      have m1 := mul_r (a := x70.toInt) (b := a1.toInt) (A := 20) (B := 5100) (by omega) (by omega) (by omega) (by omega)
      have i72 := i_mul e72 (by omega) (by omega)
      have i74 := i_sub e74 (by omega) (by omega)
      refine s_mod255 (by omega) (fun X X1 X2 X3 => ?_)
      have t64 := tn_of (x := x64) (by omega)
      have u64 : x64.toNatClampNeg = h - 1 := by omega
      refine ⟨in_of (by omega) (by omega), ?_⟩
      intro v2 hv2
      rw [Mw_ub, u64] at hv2
      subst hv2
      intro x86 e86 x90 e90 x92 e92 x94 e94 x95 e95
      rw [Mw_n] at e86
      subst e86
      have i90 := i_sub e90 (by omega) (by omega)
      have i92 := i_add e92 (by omega) (by omega)
      have m2 : x92.toInt * a1.toInt = x70.toInt * a1.toInt + a1.toInt := by
        rw [show x92.toInt = x70.toInt + 1 by omega, Int.add_mul, Int.one_mul]
      have i94 := i_mul e94 (by omega) (by omega)
      have i95 := i_sub e95 (by omega) (by omega)
      refine s_mod255 (by omega) (fun Y Y1 Y2 Y3 => ?_)
      have t56 := tn_of (x := x56) (by omega)
      have u56 : x56.toNatClampNeg = h := by omega
      refine ⟨in_of (by omega) (by omega), ?_⟩
      intro v5 hv5
      rw [Mw_ub, u56] at hv5
      subst hv5
      refine k X Y (by omega) (by omega) ?_
      rw [sumL_upd j h2, sumL_upd j (by omega), upd_n (by omega), z1, z2]
      have l0 : Int32.toInt 0 = 0 := by decide
      rw [l0]
      omega
    · have c := i_nlt c
      intro x21 e21
      have i21 := i_sub e21 (by omega) (by omega)
      have t21 := tn_of (x := x21) (by omega)
      have u21 : x21.toNatClampNeg = j := by omega
      refine ⟨in_of (by omega) (by omega), ?_⟩
      intro x22 e22 x23 e23 x27 e27 x31 e31 x33 e33 x40 e40
      rw [Mw_r, u21] at e22
      have hb := hr j
      rw [← e22] at hb
      have i23 := i_add e23 (by omega) (by omega)
      rw [Mw_n] at e27
      subst e27
      have i31 := i_sub e31 (by omega) (by omega)
      have i33 := i_add e33 (by omega) (by omega)
      have i40 := i_sub e40 (by omega) (by omega)
      have t40 := tn_of (x := x40) (by omega)
      have u40 : x40.toNatClampNeg = j := by omega
      refine ⟨in_of (by omega) (by omega), ?_⟩
      intro x41 e41 x42 e42 x43 e43 x45 e45
      rw [Mw_r, u40] at e41
      have e41' : x41 = x22 := by rw [e41, e22]
      subst e41'
      have m1 := mul_r (a := x33.toInt) (b := x41.toInt) (A := 20) (B := 255) (by omega) (by omega) (by omega) (by omega)
      have i42 := i_mul e42 (by omega) (by omega)
      have i43 := i_add e43 (by omega) (by omega)
      have i45 := i_add e45 (by omega) (by omega)
      refine ih (j + 1) x23 x43 x45 (by omega) (by omega) ?_ (by omega) (by omega) (by omega)
      show x23.toInt = sumL r j + (r j).toInt
      rw [← e22]; omega
theorem s_check {v : VV} {r : Nat → Int32} {n : Int32} {i h : Nat} {Q : VV → Prop} (hn : n.toInt = (i : Int)) (hi : i ≤ 20) (hh : (r 0).toInt = (h : Int)) (h1 : 1 ≤ h) (h2 : h < i) (hr : ∀ j, byt (r j)) (z1 : r (h - 1) = 0) (z2 : r h = 0) (k : ∀ X Y : Int32, byt X → byt Y → sumL (upd (upd r (h - 1) X) h Y) i % 255 = 0 → Q (Mw v (upd (upd r (h - 1) X) h Y) n)) : w_X10_check (Mw v r n) Q :=
  ⟨30, sl_check hn hi hh h1 h2 hr z1 z2 k 30 0 0 0 1 (by omega) (by omega) rfl (by decide) (by decide) (by decide)⟩
/-- v1 is v with one unit more: the bytes r, n of them, sent by e -/
def Snt (v v1 : VV) (r : Nat → Int32) (n e : Int32) : Prop := (∀ a, a ≠ 816 → a ≠ 823 → a ≠ 868 → a ≠ 869 → a ≠ 870 → a ≠ 871 → a ≠ 873 → v1 a = v a) ∧ (∀ k, k ≠ 54 → k ≠ 63 → v1 816 k = v 816 k) ∧ v1 816 54 = v 816 54 + 1 ∧ v1 816 63 = n ∧ v1 873 = r ∧ v1 869 = upd (v 869) ((v 816 54).toInt.toNat % 4096) n ∧ v1 870 = upd (v 870) ((v 816 54).toInt.toNat % 4096) (1 - e) ∧ v1 871 = upd (v 871) ((v 816 54).toInt.toNat % 4096) (v 816 0) ∧ (∀ i : Nat, (i : Int) < n.toInt → v1 868 (20 * ((v 816 54).toInt.toNat % 4096) + i) = r i) ∧ (∀ k : Nat, (k : Int) < 20 * ((v 816 54).toInt.toNat % 4096 : Nat) ∨ 20 * ((v 816 54).toInt.toNat % 4096 : Nat) + n.toInt ≤ (k : Int) → v1 868 k = v 868 k)
/-- the row of units while a unit is copied in -/
def cpR (f r : Nat → Int32) (d j : Nat) : Nat → Int32 := fun k => if d ≤ k ∧ k < d + j then r (k - d) else f k
theorem cpR_0 {f r : Nat → Int32} {d : Nat} : cpR f r d 0 = f := by
  funext k
  unfold cpR
  rw [if_neg (by omega)]
theorem cpR_s {f r : Nat → Int32} {d j : Nat} : upd (cpR f r d j) (d + j) (r j) = cpR f r d (j + 1) := by
  funext k
  unfold cpR upd
  by_cases h : k = d + j
  · rw [if_pos h, if_pos (by omega), show k - d = j by omega]
  · rw [if_neg h]
    by_cases h2 : d ≤ k ∧ k < d + j
    · show (if d ≤ k ∧ k < d + j then r (k - d) else f k) = _
      rw [if_pos h2, if_pos (by omega)]
    · show (if d ≤ k ∧ k < d + j then r (k - d) else f k) = _
      rw [if_neg h2, if_neg (by omega)]
theorem sl_sendMade {v w : VV} {r : Nat → Int32} {n e : Int32} {i at_ : Nat} {Q : VV → Prop} (he : 0 ≤ e.toInt ∧ e.toInt ≤ 1) (hn : n.toInt = (i : Int)) (hi : i ≤ 20) (hat : at_ = (v 816 54).toInt.toNat % 4096) (hw : w = Mw v r n) (k : ∀ v1, Snt v v1 r n e → Q v1) : ∀ (m j : Nat) (a2 a3 : Int32), i < m + j → j ≤ i → a2.toInt = (at_ : Int) → a3.toInt = (j : Int) → b_X10_sendMade_11 e Q m e a2 a3 (up1 w 868 (cpR (v 868) r (20 * at_) j)) := by
  have l1 : Int32.toInt 1 = 1 := by decide
  have l20 : Int32.toInt 20 = 20 := by decide
  have hat2 : at_ < 4096 := by omega
  intro m
  induction m with
  | zero => intro j a2 a3 hm hj e2 e3; exfalso; omega
  | succ m ih =>
    intro j a2 a3 hm hj e2 e3
    have t2 := tn_of (x := a2) (by omega)
    have u2 : a2.toNatClampNeg = at_ := by omega
    have g63 : (up1 w 868 (cpR (v 868) r (20 * at_) j)) 816 63 = n := by rw [up1_of _ _ (by decide), hw, Mw_n]
    intro x13 e13
    rw [g63] at e13
    subst e13
    refine ⟨fun c => ?_, fun c => ?_⟩
    · have c := i_le c
      have ej : j = i := by omega
      subst ej
      intro x48 e48
      rw [g63] at e48
      subst e48
      refine ⟨in_of (by omega) (by omega), ?_⟩
      intro v1 h1 x59 e59
      refine ⟨in_of (by omega) (by omega), ?_⟩
      intro v3 h3 x67 e67
      refine ⟨in_of (by omega) (by omega), ?_⟩
      intro v5 h5 x73 e73 x77 e77 v7 h7 x87 e87
      refine ⟨in_of (by omega) (by omega), ?_⟩
      intro v8 h8
      rw [u2] at h1 h3 h5
      have a67 : x67 = v 816 0 := by
        rw [e67, h3, up2_o _ _ _ _ _ (by decide), h1, up2_o _ _ _ _ _ (by decide), up1_of _ _ (by decide), hw, Mw_k (by decide)]
      have a73 : x73 = v 816 54 := by
        rw [e73, h5, up2_o _ _ _ _ _ (by decide), h3, up2_o _ _ _ _ _ (by decide), h1, up2_o _ _ _ _ _ (by decide), up1_of _ _ (by decide), hw, Mw_k (by decide)]
      have hv : v8 = up2 (up2 (up2 (up2 (up2 (up1 (Mw v r x48) 868 (cpR (v 868) r (20 * at_) j)) 869 at_ x48) 870 at_ x59) 871 at_ x67) 816 54 x77) 823 (Int32.toNatClampNeg e) x87 := by rw [h8, h7, h5, h3, h1, hw]
      have g868 : v8 868 = cpR (v 868) r (20 * at_) j := by
        rw [hv, up2_of _ _ _ _ (by decide), up2_of _ _ _ _ (by decide), up2_of _ _ _ _ (by decide), up2_of _ _ _ _ (by decide), up2_of _ _ _ _ (by decide)]
        funext b; simp [up1]
      refine k v8 ⟨?_, ?_, ?_, ?_, ?_, ?_, ?_, ?_, ?_, ?_⟩
      · intro a n1 n2 n3 n4 n5 n6 n7
        rw [hv, up2_of _ _ _ _ n2, up2_of _ _ _ _ n1, up2_of _ _ _ _ n6, up2_of _ _ _ _ n5, up2_of _ _ _ _ n4, up1_of _ _ n3, Mw_o n7 n1]
      · intro q q1 q2
        rw [hv, up2_o _ _ _ _ _ (by decide), up2_k _ _ _ _ q1, up2_o _ _ _ _ _ (by decide), up2_o _ _ _ _ _ (by decide), up2_o _ _ _ _ _ (by decide), up1_of _ _ (by decide), Mw_k q2]
      · rw [hv, up2_o _ _ _ _ _ (by decide), up2_s, e77, a73]
      · rw [hv, up2_o _ _ _ _ _ (by decide), up2_k _ _ _ _ (by decide), up2_o _ _ _ _ _ (by decide), up2_o _ _ _ _ _ (by decide), up2_o _ _ _ _ _ (by decide), up1_of _ _ (by decide), Mw_n]
      · rw [hv, up2_of _ _ _ _ (by decide), up2_of _ _ _ _ (by decide), up2_of _ _ _ _ (by decide), up2_of _ _ _ _ (by decide), up2_of _ _ _ _ (by decide), up1_of _ _ (by decide), Mw_r]
      · rw [hv, up2_of _ _ _ _ (by decide), up2_of _ _ _ _ (by decide), up2_of _ _ _ _ (by decide), up2_of _ _ _ _ (by decide), up2_f, up1_of _ _ (by decide), Mw_o (by decide) (by decide), hat]
      · rw [hv, up2_of _ _ _ _ (by decide), up2_of _ _ _ _ (by decide), up2_of _ _ _ _ (by decide), up2_f, up2_of _ _ _ _ (by decide), up1_of _ _ (by decide), Mw_o (by decide) (by decide), hat, e59]
      · rw [hv, up2_of _ _ _ _ (by decide), up2_of _ _ _ _ (by decide), up2_f, up2_of _ _ _ _ (by decide), up2_of _ _ _ _ (by decide), up1_of _ _ (by decide), Mw_o (by decide) (by decide), hat, a67]
      · intro q hq
        rw [g868, ← hat]
        unfold cpR
        rw [if_pos (by omega), show 20 * at_ + q - 20 * at_ = q by omega]
      · intro q hq
        rw [g868]
        rw [← hat] at hq
        unfold cpR
        rw [if_neg (by omega)]
    · have c := i_nle c
      intro x26 e26 x28 e28
      have i26 := i_mul e26 (by rw [l20]; omega) (by rw [l20]; omega)
      rw [l20] at i26
      have i28 := i_add e28 (by omega) (by omega)
      refine ⟨in_of (by omega) (by omega), ?_⟩
      intro x34 e34
      refine ⟨in_of (by omega) (by omega), ?_⟩
      intro v11 h11 x36 e36
      have i36 := i_add e36 (by omega) (by omega)
      have t3 := tn_of (x := a3) (by omega)
      have u3 : a3.toNatClampNeg = j := by omega
      have t28 := tn_of (x := x28) (by omega)
      have u28 : x28.toNatClampNeg = 20 * at_ + j := by omega
      have a34 : x34 = r j := by rw [e34, up1_of _ _ (by decide), hw, Mw_r, u3]
      have hv : v11 = up1 w 868 (cpR (v 868) r (20 * at_) (j + 1)) := by
        rw [h11, u28, a34, ← cpR_s]
        funext a b
        simp only [up2, up1, upd]
        by_cases q1 : a = 868
        · by_cases q2 : b = 20 * at_ + j
          · simp [q1, q2]
          · simp [q1, q2]
        · simp [q1]
      rw [hv]
      exact ih (j + 1) a2 x36 (by omega) (by omega) e2 (by omega)
theorem s_sendMade {v : VV} {r : Nat → Int32} {n e : Int32} {i : Nat} {Q : VV → Prop} (he : 0 ≤ e.toInt ∧ e.toInt ≤ 1) (hn : n.toInt = (i : Int)) (hi : i ≤ 20) (hs : 0 ≤ (v 816 54).toInt) (k : ∀ v1, Snt v v1 r n e → Q v1) : w_X10_sendMade e (Mw v r n) Q := by
  have l4096 : Int32.toInt 4096 = 4096 := by decide
  unfold w_X10_sendMade
  intro x1 e1 x7 e7
  rw [Mw_k (by decide)] at e1
  subst e1
  have i7 := i_rem e7 hs (by decide)
  rw [l4096] at i7
  have h := sl_sendMade (w := Mw v r n) (Q := Q) he hn hi rfl rfl k 30 0 x7 0 (by omega) (by omega) (by omega) (by decide)
  rw [cpR_0] at h
  refine ⟨30, ?_⟩
  have e2 : up1 (Mw v r n) 868 (v 868) = Mw v r n := by
    funext a b
    by_cases q : a = 868
    · subst q; rw [Mw_o (by decide) (by decide)]; simp [up1]
    · rw [up1_of _ _ q]
  rw [e2] at h
  exact h
/-- a made unit: z bytes, its head, its code, where to -/
def Ct (r : Nat → Int32) (n : Int32) (z : Nat) (hd code to : Int) : Prop := n.toInt = (z : Int) ∧ (r 0).toInt = hd ∧ (r 1).toInt = code ∧ (r 2).toInt = to / 256 ∧ (r 3).toInt = to % 256 ∧ (∀ j, byt (r j)) ∧ sumL r z % 255 = 0
theorem s_sendCode {v : VV} {e c to from_ last : Int32} {Q : VV → Prop} (he : 0 ≤ e.toInt ∧ e.toInt ≤ 1) (hb : ∀ j, byt (v 873 j)) (hs : 0 ≤ (v 816 54).toInt) (hc : byt c) (ht : 0 ≤ to.toInt ∧ to.toInt ≤ 65535) (hf : 0 ≤ from_.toInt ∧ from_.toInt ≤ 65535) (hl : last.toInt ≤ 255) (k : ∀ (v1 : VV) (r : Nat → Int32) (n : Int32), Snt v v1 r n e → Ct r n (if 0 ≤ last.toInt then 11 else 10) (if 0 ≤ last.toInt then 10 else 9) c.toInt to.toInt → (r 4).toInt = from_.toInt / 256 → (r 5).toInt = from_.toInt % 256 → Q v1) : w_X10_sendCode e c to from_ last v Q := by
  have l0 : Int32.toInt 0 = 0 := by decide
  have l256 : Int32.toInt 256 = 256 := by decide
  have b195 : byt 195 := by decide
  have b2 : byt 2 := by decide
  have b0 : byt 0 := by decide
  unfold w_X10_sendCode
  rw [← Mw_id (v := v)]
  refine s_begin ht.1 (fun m h l hm hh hl' => ?_)
  intro x12 e12
  have i12 := i_div e12 hf.1 (by decide)
  rw [l256] at i12
  refine s_push (i := 4) hm (by decide) (fun m5 h5 => ?_)
  intro x22 e22
  have i22 := i_rem e22 hf.1 (by decide)
  rw [l256] at i22
  refine s_push (i := 5) h5 (by decide) (fun m6 h6 => ?_)
  have hr : ∀ j, byt (upd (upd (upd (upd (upd (v 873) 1 c) 2 h) 3 l) 4 x12) 5 x22 j) := byt_upd (byt_upd (byt_upd (byt_upd (byt_upd hb hc) (by omega)) (by omega)) (by omega)) (by omega)
  refine ⟨fun q => ?_, fun q => ?_⟩
  · have q := i_lt q
    rw [if_neg (by omega), if_neg (by omega)] at k
    unfold b_X10_sendCode_37
    refine s_endHead (i := 6) h6 (by decide) (fun m7 z h7 hz => ?_)
    refine s_check (i := 10) (h := 9) h7 (by decide) (by rw [ehR, upd_s]; omega) (by decide) (by decide) (byt_upd (byt_upd (byt_upd (byt_upd (byt_upd hr b195) b2) b0) b0) (by omega)) (by simp [ehR, upd]) (by simp [ehR, upd]) (fun X Y hX hY hsum => ?_)
    refine s_sendMade (i := 10) he h7 (by decide) hs (fun v1 hv => ?_)
    refine k v1 _ m7 hv ⟨h7, ?_, ?_, ?_, ?_, byt_upd (byt_upd (byt_upd (byt_upd (byt_upd (byt_upd (byt_upd hr b195) b2) b0) b0) (by omega)) hX) hY, hsum⟩ ?_ ?_ <;> simp [ehR, upd] <;> omega
  · have q := i_nlt q
    rw [if_pos (by omega), if_pos (by omega)] at k
    refine s_push (i := 6) h6 (by decide) (fun m7 h7 => ?_)
    unfold b_X10_sendCode_37
    have hr2 := byt_upd (k := 6) (x := last) hr (by omega)
    refine s_endHead (i := 7) h7 (by decide) (fun m8 z h8 hz => ?_)
    refine s_check (i := 11) (h := 10) h8 (by decide) (by rw [ehR, upd_s]; omega) (by decide) (by decide) (byt_upd (byt_upd (byt_upd (byt_upd (byt_upd hr2 b195) b2) b0) b0) (by omega)) (by simp [ehR, upd]) (by simp [ehR, upd]) (fun X Y hX hY hsum => ?_)
    refine s_sendMade (i := 11) he h8 (by decide) hs (fun v1 hv => ?_)
    refine k v1 _ m8 hv ⟨h8, ?_, ?_, ?_, ?_, byt_upd (byt_upd (byt_upd (byt_upd (byt_upd (byt_upd (byt_upd hr2 b195) b2) b0) b0) (by omega)) hX) hY, hsum⟩ ?_ ?_ <;> simp [ehR, upd] <;> omega
theorem s_sendNumber {v : VV} {e c num : Int32} {Q : VV → Prop} (he : 0 ≤ e.toInt ∧ e.toInt ≤ 1) (hb : ∀ j, byt (v 873 j)) (hs : 0 ≤ (v 816 54).toInt) (hc : byt c) (ht : 0 ≤ (v 819 e.toNatClampNeg).toInt ∧ (v 819 e.toNatClampNeg).toInt ≤ 65535) (hl : byt num) (k : ∀ (v1 : VV) (r : Nat → Int32) (n : Int32), Snt v v1 r n e → Ct r n 9 8 c.toInt (v 819 e.toNatClampNeg).toInt → (r 4).toInt = num.toInt → Q v1) : w_X10_sendNumber e c num v Q := by
  have b195 : byt 195 := by decide
  have b2 : byt 2 := by decide
  have b0 : byt 0 := by decide
  unfold w_X10_sendNumber
  refine ⟨in_of (by omega) (by omega), ?_⟩
  intro x7 e7
  rw [← e7] at ht k
  rw [← Mw_id (v := v)]
  refine s_begin ht.1 (fun m h l hm hh hl' => ?_)
  refine s_push (i := 4) hm (by decide) (fun m5 h5 => ?_)
  have hr : ∀ j, byt (upd (upd (upd (upd (v 873) 1 c) 2 h) 3 l) 4 num j) := byt_upd (byt_upd (byt_upd (byt_upd hb hc) (by omega)) (by omega)) hl
  refine s_endHead (i := 5) h5 (by decide) (fun m7 z h7 hz => ?_)
  refine s_check (i := 9) (h := 8) h7 (by decide) (by rw [ehR, upd_s]; omega) (by decide) (by decide) (byt_upd (byt_upd (byt_upd (byt_upd (byt_upd hr b195) b2) b0) b0) (by omega)) (by simp [ehR, upd]) (by simp [ehR, upd]) (fun X Y hX hY hsum => ?_)
  refine s_sendMade (i := 9) he h7 (by decide) hs (fun v1 hv => ?_)
  refine k v1 _ m7 hv ⟨h7, ?_, ?_, ?_, ?_, byt_upd (byt_upd (byt_upd (byt_upd (byt_upd (byt_upd (byt_upd hr b195) b2) b0) b0) (by omega)) hX) hY, hsum⟩ ?_ <;> simp [ehR, upd] <;> omega
