/-! the kept pieces that follow are put behind -/
def Wr (v : VV) (a : Nat) (r : Nat → Int32) (b e : Nat) (x : Int32) : VV := up2 (up1 v a r) b e x
section WR
variable {v : VV} {a b e k o : Nat} {r : Nat → Int32} {x y : Int32}
theorem Wr_a (h : a ≠ b) : up2 (Wr v a r b e x) a k y = Wr v a (upd r k y) b e x := by
  funext p q
  simp only [Wr, up2, up1, upd]
  by_cases h1 : p = a
  · have h2 : p ≠ b := fun q => h (h1.symm.trans q)
    by_cases h3 : q = k
    · simp [h1, h3, h]
    · simp [h1, h3, h]
  · simp [h1]
theorem Wr_b : up2 (Wr v a r b e x) b e y = Wr v a r b e y := by
  funext p q
  simp only [Wr, up2, up1]
  by_cases h1 : p = b
  · by_cases h2 : q = e
    · simp [h1, h2]
    · simp [h1, h2]
  · simp [h1]
theorem Wr_s : Wr v a r b e x b e = x := up2_s _ _ _ _
theorem Wr_o (h1 : o ≠ a) (h2 : o ≠ b) : Wr v a r b e x o = v o := by
  unfold Wr
  rw [up2_of _ _ _ _ h2, up1_of _ _ h1]
theorem Wr_f (h : a ≠ b) : Wr v a r b e x b = upd (v b) e x := by
  unfold Wr
  rw [up2_f, up1_of _ _ (Ne.symm h)]
theorem Wr_i : Wr v a (v a) b e (v b e) = v := by
  funext p q
  simp only [Wr, up2, up1]
  by_cases h1 : p = b
  · by_cases h2 : q = e
    · simp [h1, h2]
    · by_cases h3 : b = a
      · simp [h1, h2, h3]
      · simp [h1, h2, h3]
  · by_cases h3 : p = a
    · simp [h1, h3]
      intro q1
      exact absurd (h3.trans q1) h1
    · simp [h1, h3]
end WR
theorem s_217 {v : VV} {p1 a2 a3 : Int32} {e at_ : Nat} {Q : VV → Prop} {K13 : Int32 → Int32 → VV → Prop} (he : p1.toInt = (e : Int)) (he2 : e < 2) (ha : a2.toInt = (at_ : Int)) (ha2 : at_ < 256) (hx : 0 ≤ (v 846 e).toInt ∧ (v 846 e).toInt ≤ 127) (k : ∀ y x : Int32, y.toInt = ((v 846 e).toInt + 1) % 128 → x.toInt = 128 * (e : Int) + y.toInt → K13 p1 x (up2 (up2 v 848 at_ (-1)) 846 e y)) : b_X10_putBehind_217 p1 Q K13 p1 a2 a3 v := by
  have l1 : Int32.toInt 1 = 1 := by decide
  have l128 : Int32.toInt 128 = 128 := by decide
  have t1 := tn_of (x := p1) (by omega)
  have u1 : p1.toNatClampNeg = e := by omega
  have t2 := tn_of (x := a2) (by omega)
  have u2 : a2.toNatClampNeg = at_ := by omega
  unfold b_X10_putBehind_217
  refine ⟨in_of (by omega) (by omega), ?_⟩
  intro v1 h1
  refine ⟨in_of (by omega) (by omega), ?_⟩
  intro x234 e234 x236 e236
  rw [u1, h1, up2_o _ _ _ _ _ (by decide)] at e234
  have i234 := i_eq e234
  have i236 := i_add e236 (by omega) (by omega)
  refine s_mod (fun x237 r237 => ?_)
  refine ⟨in_of (by omega) (by omega), ?_⟩
  intro v5 h5 x245 e245
  have i245 := i_mul e245 (by rw [l128]; omega) (by rw [l128]; omega)
  rw [l128] at i245
  refine ⟨in_of (by omega) (by omega), ?_⟩
  intro x251 e251 x252 e252
  rw [u1, h5, u1, up2_s] at e251
  have i251 := i_eq e251
  have i252 := i_add e252 (by omega) (by omega)
  rw [h5, h1, u1, u2]
  exact k x237 x252 (by omega) (by omega)
theorem sl_136 {v : VV} {p1 a2 a3 : Int32} {e at_ : Nat} {Q : VV → Prop} {K13 : Int32 → Int32 → VV → Prop} (he : p1.toInt = (e : Int)) (he2 : e < 2) (ha : a2.toInt = (at_ : Int)) (ha2 : at_ < 256) (hx : 0 ≤ (v 846 e).toInt ∧ (v 846 e).toInt ≤ 127) (hS : 0 ≤ (v 851 e).toInt ∧ (v 851 e).toInt ≤ 4096) (hT : 0 ≤ (v 858 e).toInt ∧ (v 858 e).toInt + (v 851 e).toInt ≤ 8192) (hm : 0 ≤ (v 854 e).toInt ∧ (v 854 e).toInt ≤ 100) (k : ∀ (r : Nat → Int32) (t m y x : Int32), t.toInt = (v 858 e).toInt + (v 851 e).toInt → m.toInt = (v 854 e).toInt + 1 → y.toInt = ((v 846 e).toInt + 1) % 128 → x.toInt = 128 * (e : Int) + y.toInt → K13 p1 x (up2 (up2 (up2 (up2 (up2 (Wr v 857 r 858 e t) 854 e m) 851 e 0) 852 e 0) 848 at_ (-1)) 846 e y)) : ∀ (n j : Nat) (a4 t : Int32) (r : Nat → Int32), (v 851 e).toInt < (n : Int) + (j : Int) → (j : Int) ≤ (v 851 e).toInt → a4.toInt = (j : Int) → t.toInt = (v 858 e).toInt + (j : Int) → b_X10_putBehind_136 p1 Q K13 n p1 a2 a3 a4 (Wr v 857 r 858 e t) := by
  have l1 : Int32.toInt 1 = 1 := by decide
  have l8192 : Int32.toInt 8192 = 8192 := by decide
  have l4096 : Int32.toInt 4096 = 4096 := by decide
  have t1 := tn_of (x := p1) (by omega)
  have u1 : p1.toNatClampNeg = e := by omega
  intro n
  induction n with
  | zero => intro j a4 t r h1 h2 h3 h4; exfalso; omega
  | succ n ih =>
    intro j a4 t r h1 h2 h3 h4
    refine ⟨in_of (by omega) (by omega), ?_⟩
    intro x143 e143
    rw [u1, Wr_o (by decide) (by decide)] at e143
    have i143 := i_eq e143
    refine ⟨fun c => ?_, fun c => ?_⟩
    · have c := i_le c
      refine ⟨in_of (by omega) (by omega), ?_⟩
      intro x199 e199 x201 e201
      rw [u1, Wr_o (by decide) (by decide)] at e199
      have i199 := i_eq e199
      have i201 := i_add e201 (by omega) (by omega)
      refine ⟨in_of (by omega) (by omega), ?_⟩
      intro v3 h3
      refine ⟨in_of (by omega) (by omega), ?_⟩
      intro v5 h5
      refine ⟨in_of (by omega) (by omega), ?_⟩
      intro v7 h7
      have hv : v7 = up2 (up2 (up2 (Wr v 857 r 858 e t) 854 e x201) 851 e 0) 852 e 0 := by rw [h7, h5, h3, u1]
      have z : v7 846 = v 846 := by rw [hv, up2_of _ _ _ _ (by decide), up2_of _ _ _ _ (by decide), up2_of _ _ _ _ (by decide), Wr_o (by decide) (by decide)]
      refine s_217 he he2 ha ha2 (by rw [z]; exact hx) (fun y x hy hxx => ?_)
      rw [z] at hy
      rw [hv]
      exact k r t x201 y x (by omega) (by omega) hy hxx
    · have c := i_nle c
      intro x155 e155
      have i155 := i_mul e155 (by rw [l8192]; omega) (by rw [l8192]; omega)
      rw [l8192] at i155
      refine ⟨in_of (by omega) (by omega), ?_⟩
      intro x161 e161 x162 e162 x171 e171 x174 e174
      rw [u1, Wr_s] at e161
      have i161 := i_eq e161
      have i162 := i_add e162 (by omega) (by omega)
      have i171 := i_mul e171 (by rw [l4096]; omega) (by rw [l4096]; omega)
      rw [l4096] at i171
      have i174 := i_add e174 (by omega) (by omega)
      refine ⟨in_of (by omega) (by omega), ?_⟩
      intro x175 e175
      refine ⟨in_of (by omega) (by omega), ?_⟩
      intro v11 h11
      rw [Wr_a (by decide)] at h11
      refine ⟨in_of (by omega) (by omega), ?_⟩
      intro x183 e183 x185 e185
      rw [u1, h11, Wr_s] at e183
      have i183 := i_eq e183
      have i185 := i_add e185 (by omega) (by omega)
      refine ⟨in_of (by omega) (by omega), ?_⟩
      intro v14 h14 x187 e187
      have i187 := i_add e187 (by omega) (by omega)
      rw [h14, h11, u1, Wr_b]
      exact ih (j + 1) x187 x185 _ (by omega) (by omega) (by omega) (by omega)
/-- one kept piece is put behind -/
def PB (e at_ : Nat) (v w : VV) (ks : Int) : Prop := (∀ a, a ≠ 846 → a ≠ 848 → a ≠ 851 → a ≠ 852 → a ≠ 853 → a ≠ 854 → a ≠ 855 → a ≠ 856 → a ≠ 857 → a ≠ 858 → w a = v a) ∧ (∃ y : Int32, y.toInt = ((v 846 e).toInt + 1) % 128 ∧ w 846 = upd (v 846) e y) ∧ w 848 = upd (v 848) at_ (-1) ∧ ∃ s u m t : Int32, w 851 = upd (v 851) e s ∧ w 852 = upd (v 852) e u ∧ w 854 = upd (v 854) e m ∧ w 858 = upd (v 858) e t ∧ ((s.toInt = (v 851 e).toInt + ks ∧ u.toInt = (v 852 e).toInt + 1 ∧ m.toInt = (v 854 e).toInt ∧ t.toInt = (v 858 e).toInt ∧ w 855 = v 855 ∧ w 856 = v 856) ∨ (s.toInt = 0 ∧ u.toInt = 0 ∧ m.toInt = (v 854 e).toInt + 1 ∧ t.toInt = (v 858 e).toInt + (v 851 e).toInt + ks ∧ ∃ a b : Int32, a.toInt = (v 851 e).toInt + ks ∧ b.toInt = (v 852 e).toInt + 1 ∧ w 855 = upd (v 855) (64 * e + (v 854 e).toInt.toNat) a ∧ w 856 = upd (v 856) (64 * e + (v 854 e).toInt.toNat) b))
theorem upd_id {f : Nat → Int32} {k : Nat} : upd f k (f k) = f := by
  funext j
  by_cases e : j = k
  · rw [e, upd_s]
  · rw [upd_n e]
theorem upd_upd {f : Nat → Int32} {k : Nat} {x y : Int32} : upd (upd f k x) k y = upd f k y := by
  funext j
  by_cases e : j = k
  · rw [e, upd_s, upd_s]
  · rw [upd_n e, upd_n e, upd_n e]
theorem sl_24 {v : VV} {p1 a2 : Int32} {e at_ : Nat} {ks : Int} {Q : VV → Prop} {K13 : Int32 → Int32 → VV → Prop} (he : p1.toInt = (e : Int)) (he2 : e < 2) (ha : a2.toInt = (at_ : Int)) (ha2 : at_ < 256) (hx : 0 ≤ (v 846 e).toInt ∧ (v 846 e).toInt ≤ 127) (hks : (v 848 at_).toInt = ks) (hk0 : 0 ≤ ks ∧ ks ≤ 8) (hS : 0 ≤ (v 851 e).toInt ∧ (v 851 e).toInt ≤ 4088) (hU : 0 ≤ (v 852 e).toInt ∧ (v 852 e).toInt ≤ 511) (hT : 0 ≤ (v 858 e).toInt ∧ (v 858 e).toInt + (v 851 e).toInt ≤ 8000) (hm : 0 ≤ (v 854 e).toInt ∧ (v 854 e).toInt ≤ 60) (k : ∀ (w : VV) (x : Int32), PB e at_ v w ks → x.toInt = 128 * (e : Int) + (w 846 e).toInt → K13 p1 x w) : ∀ (n j : Nat) (a3 s : Int32) (r : Nat → Int32), ks < (n : Int) + (j : Int) → (j : Int) ≤ ks → a3.toInt = (j : Int) → s.toInt = (v 851 e).toInt + (j : Int) → b_X10_putBehind_24 p1 Q K13 n p1 a2 a3 (Wr v 853 r 851 e s) := by
  have l0 : Int32.toInt 0 = 0 := by decide
  have l1 : Int32.toInt 1 = 1 := by decide
  have l8 : Int32.toInt 8 = 8 := by decide
  have l64 : Int32.toInt 64 = 64 := by decide
  have l4096 : Int32.toInt 4096 = 4096 := by decide
  have t1 := tn_of (x := p1) (by omega)
  have u1 : p1.toNatClampNeg = e := by omega
  have t2 := tn_of (x := a2) (by omega)
  have u2 : a2.toNatClampNeg = at_ := by omega
  intro n
  induction n with
  | zero => intro j a3 s r h1 h2 h3 h4; exfalso; omega
  | succ n ih =>
    intro j a3 s r h1 h2 h3 h4
    refine ⟨in_of (by omega) (by omega), ?_⟩
    intro x30 e30
    rw [u2, Wr_o (by decide) (by decide)] at e30
    have i30 := i_eq e30
    refine ⟨fun c => ?_, fun c => ?_⟩
    · have c := i_le c
      have ej : (j : Int) = ks := by omega
      refine ⟨in_of (by omega) (by omega), ?_⟩
      intro x84 e84 x86 e86
      rw [u1, Wr_o (by decide) (by decide)] at e84
      have i84 := i_eq e84
      have i86 := i_add e86 (by omega) (by omega)
      refine ⟨in_of (by omega) (by omega), ?_⟩
      intro v3 hv3
      rw [u1] at hv3
      refine ⟨in_of (by omega) (by omega), ?_⟩
      intro x93 e93
      refine ⟨fun q => ?_, fun q => ?_⟩
      · have z : v3 846 = v 846 := by rw [hv3, up2_of _ _ _ _ (by decide), Wr_o (by decide) (by decide)]
        refine s_217 he he2 ha ha2 (by rw [z]; exact hx) (fun y x hy hxx => ?_)
        rw [z] at hy
        refine k _ x ⟨fun a n1 n2 n3 n4 n5 n6 n7 n8 n9 n10 => ?_, ⟨y, hy, ?_⟩, ?_, s, x86, v 854 e, v 858 e, ?_, ?_, ?_, ?_, Or.inl ⟨by omega, by omega, rfl, rfl, ?_, ?_⟩⟩ ?_
        · rw [up2_of _ _ _ _ n1, up2_of _ _ _ _ n2, hv3, up2_of _ _ _ _ n4, Wr_o n5 n3]
        · rw [up2_f, up2_of _ _ _ _ (by decide), z]
        · rw [up2_of _ _ _ _ (by decide), up2_f, hv3, up2_of _ _ _ _ (by decide), Wr_o (by decide) (by decide)]
        · rw [up2_of _ _ _ _ (by decide), up2_of _ _ _ _ (by decide), hv3, up2_of _ _ _ _ (by decide), Wr_f (by decide)]
        · rw [up2_of _ _ _ _ (by decide), up2_of _ _ _ _ (by decide), hv3, up2_f, Wr_o (by decide) (by decide)]
        · rw [up2_of _ _ _ _ (by decide), up2_of _ _ _ _ (by decide), hv3, up2_of _ _ _ _ (by decide), Wr_o (by decide) (by decide), upd_id]
        · rw [up2_of _ _ _ _ (by decide), up2_of _ _ _ _ (by decide), hv3, up2_of _ _ _ _ (by decide), Wr_o (by decide) (by decide), upd_id]
        · rw [up2_of _ _ _ _ (by decide), up2_of _ _ _ _ (by decide), hv3, up2_of _ _ _ _ (by decide), Wr_o (by decide) (by decide)]
        · rw [up2_of _ _ _ _ (by decide), up2_of _ _ _ _ (by decide), hv3, up2_of _ _ _ _ (by decide), Wr_o (by decide) (by decide)]
        · rw [up2_s]; exact hxx
      · intro x100 e100
        have i100 := i_mul e100 (by rw [l64]; omega) (by rw [l64]; omega)
        rw [l64] at i100
        refine ⟨in_of (by omega) (by omega), ?_⟩
        intro x106 e106 x107 e107
        rw [u1, hv3, up2_o _ _ _ _ _ (by decide), Wr_o (by decide) (by decide)] at e106
        have i106 := i_eq e106
        have i107 := i_add e107 (by omega) (by omega)
        have t107 := tn_of (x := x107) (by omega)
        have u107 : x107.toNatClampNeg = 64 * e + (v 854 e).toInt.toNat := by omega
        refine ⟨in_of (by omega) (by omega), ?_⟩
        intro x119 e119
        rw [u1, hv3, up2_o _ _ _ _ _ (by decide), Wr_s] at e119
        have i119 := i_eq e119
        refine ⟨in_of (by omega) (by omega), ?_⟩
        intro v8 hv8
        rw [u107] at hv8
        refine ⟨in_of (by omega) (by omega), ?_⟩
        intro x131 e131
        rw [u1, hv8, up2_o _ _ _ _ _ (by decide), hv3, up2_s] at e131
        have i131 := i_eq e131
        refine ⟨in_of (by omega) (by omega), ?_⟩
        intro v11 hv11
        rw [u107] at hv11
        have hv : v11 = up2 (up2 (up2 (Wr v 853 r 851 e s) 852 e x86) 855 (64 * e + (v 854 e).toInt.toNat) x119) 856 (64 * e + (v 854 e).toInt.toNat) x131 := by rw [hv11, hv8, hv3]
        have z846 : v11 846 = v 846 := by rw [hv, up2_of _ _ _ _ (by decide), up2_of _ _ _ _ (by decide), up2_of _ _ _ _ (by decide), Wr_o (by decide) (by decide)]
        have z858 : v11 858 = v 858 := by rw [hv, up2_of _ _ _ _ (by decide), up2_of _ _ _ _ (by decide), up2_of _ _ _ _ (by decide), Wr_o (by decide) (by decide)]
        have z854 : v11 854 = v 854 := by rw [hv, up2_of _ _ _ _ (by decide), up2_of _ _ _ _ (by decide), up2_of _ _ _ _ (by decide), Wr_o (by decide) (by decide)]
        have z851 : v11 851 = upd (v 851) e s := by rw [hv, up2_of _ _ _ _ (by decide), up2_of _ _ _ _ (by decide), up2_of _ _ _ _ (by decide), Wr_f (by decide)]
        have z851e : v11 851 e = s := by rw [z851, upd_s]
        have q := sl_136 (v := v11) (Q := Q) (K13 := K13) (a3 := x107) he he2 ha ha2 (by rw [z846]; exact hx) (by rw [z851e]; omega) (by rw [z858, z851e]; omega) (by rw [z854]; omega) (fun r2 t m y x ht hmm hy hxx => ?_) 5000 0 0 (v11 858 e) (v11 857) (by rw [z851e]; omega) (by rw [z851e]; omega) (by decide) (by omega)
        · rw [Wr_i] at q
          exact ⟨5000, q⟩
        · rw [z858, z851e] at ht
          rw [z854] at hmm
          rw [z846] at hy
          refine k _ x ⟨fun a n1 n2 n3 n4 n5 n6 n7 n8 n9 n10 => ?_, ⟨y, hy, ?_⟩, ?_, 0, 0, m, t, ?_, ?_, ?_, ?_, Or.inr ⟨by decide, by decide, by omega, by omega, x119, x131, by omega, by omega, ?_, ?_⟩⟩ ?_
          · rw [up2_of _ _ _ _ n1, up2_of _ _ _ _ n2, up2_of _ _ _ _ n4, up2_of _ _ _ _ n3, up2_of _ _ _ _ n6, Wr_o n9 n10, hv, up2_of _ _ _ _ n8, up2_of _ _ _ _ n7, up2_of _ _ _ _ n4, Wr_o n5 n3]
          · rw [up2_f, up2_of _ _ _ _ (by decide), up2_of _ _ _ _ (by decide), up2_of _ _ _ _ (by decide), up2_of _ _ _ _ (by decide), Wr_o (by decide) (by decide), z846]
          · rw [up2_of _ _ _ _ (by decide), up2_f, up2_of _ _ _ _ (by decide), up2_of _ _ _ _ (by decide), up2_of _ _ _ _ (by decide), Wr_o (by decide) (by decide), hv, up2_of _ _ _ _ (by decide), up2_of _ _ _ _ (by decide), up2_of _ _ _ _ (by decide), Wr_o (by decide) (by decide)]
          · rw [up2_of _ _ _ _ (by decide), up2_of _ _ _ _ (by decide), up2_of _ _ _ _ (by decide), up2_f, up2_of _ _ _ _ (by decide), Wr_o (by decide) (by decide), z851, upd_upd]
          · rw [up2_of _ _ _ _ (by decide), up2_of _ _ _ _ (by decide), up2_f, up2_of _ _ _ _ (by decide), up2_of _ _ _ _ (by decide), Wr_o (by decide) (by decide), hv, up2_of _ _ _ _ (by decide), up2_of _ _ _ _ (by decide), up2_f, Wr_o (by decide) (by decide), upd_upd]
          · rw [up2_of _ _ _ _ (by decide), up2_of _ _ _ _ (by decide), up2_of _ _ _ _ (by decide), up2_of _ _ _ _ (by decide), up2_f, Wr_o (by decide) (by decide), z854]
          · rw [up2_of _ _ _ _ (by decide), up2_of _ _ _ _ (by decide), up2_of _ _ _ _ (by decide), up2_of _ _ _ _ (by decide), up2_of _ _ _ _ (by decide), Wr_f (by decide), z858]
          · rw [up2_of _ _ _ _ (by decide), up2_of _ _ _ _ (by decide), up2_of _ _ _ _ (by decide), up2_of _ _ _ _ (by decide), up2_of _ _ _ _ (by decide), Wr_o (by decide) (by decide), hv, up2_of _ _ _ _ (by decide), up2_f, up2_of _ _ _ _ (by decide), Wr_o (by decide) (by decide)]
          · rw [up2_of _ _ _ _ (by decide), up2_of _ _ _ _ (by decide), up2_of _ _ _ _ (by decide), up2_of _ _ _ _ (by decide), up2_of _ _ _ _ (by decide), Wr_o (by decide) (by decide), hv, up2_f, up2_of _ _ _ _ (by decide), up2_of _ _ _ _ (by decide), Wr_o (by decide) (by decide)]
          · rw [up2_s]; exact hxx
    · have c := i_nle c
      intro x42 e42
      have i42 := i_mul e42 (by rw [l4096]; omega) (by rw [l4096]; omega)
      rw [l4096] at i42
      refine ⟨in_of (by omega) (by omega), ?_⟩
      intro x48 e48 x49 e49 x57 e57 x59 e59
      rw [u1, Wr_s] at e48
      have i48 := i_eq e48
      have i49 := i_add e49 (by omega) (by omega)
      have i57 := i_mul e57 (by rw [l8]; omega) (by rw [l8]; omega)
      rw [l8] at i57
      have i59 := i_add e59 (by omega) (by omega)
      refine ⟨in_of (by omega) (by omega), ?_⟩
      intro x60 e60
      refine ⟨in_of (by omega) (by omega), ?_⟩
      intro v15 h15
      rw [Wr_a (by decide)] at h15
      refine ⟨in_of (by omega) (by omega), ?_⟩
      intro x68 e68 x70 e70
      rw [u1, h15, Wr_s] at e68
      have i68 := i_eq e68
      have i70 := i_add e70 (by omega) (by omega)
      refine ⟨in_of (by omega) (by omega), ?_⟩
      intro v18 h18 x72 e72
      have i72 := i_add e72 (by omega) (by omega)
      rw [h18, h15, u1, Wr_b]
      exact ih (j + 1) x72 x70 _ (by omega) (by omega) (by omega) (by omega)
