theorem al_5_0 {o : Nat} (h : isO 5 o) : o + 1 < 816 := by
  have hh : ∀ o, o < 874 → kd o = 5 → o + 1 < 816 := by decide +kernel
  exact hh o h.1 h.2
theorem as_5_0 {o : Nat} (h : isO 5 o) : spc (o + 1) = false := by
  have hh : ∀ o, o < 874 → kd o = 5 → spc (o + 1) = false := by decide +kernel
  exact hh o h.1 h.2
theorem al_4_0 {o : Nat} (h : isO 4 o) : o + 1 < 816 := by
  have hh : ∀ o, o < 874 → kd o = 4 → o + 1 < 816 := by decide +kernel
  exact hh o h.1 h.2
theorem as_4_0 {o : Nat} (h : isO 4 o) : spc (o + 1) = false := by
  have hh : ∀ o, o < 874 → kd o = 4 → spc (o + 1) = false := by decide +kernel
  exact hh o h.1 h.2
theorem al_7_0 {o : Nat} (h : isO 7 o) : o + 1 < 816 := by
  have hh : ∀ o, o < 874 → kd o = 7 → o + 1 < 816 := by decide +kernel
  exact hh o h.1 h.2
theorem as_7_0 {o : Nat} (h : isO 7 o) : spc (o + 1) = false := by
  have hh : ∀ o, o < 874 → kd o = 7 → spc (o + 1) = false := by decide +kernel
  exact hh o h.1 h.2
theorem al_6_0 {o : Nat} (h : isO 6 o) : o + 1 < 816 := by
  have hh : ∀ o, o < 874 → kd o = 6 → o + 1 < 816 := by decide +kernel
  exact hh o h.1 h.2
theorem as_6_0 {o : Nat} (h : isO 6 o) : spc (o + 1) = false := by
  have hh : ∀ o, o < 874 → kd o = 6 → spc (o + 1) = false := by decide +kernel
  exact hh o h.1 h.2
theorem al_1_2 {o : Nat} (h : isO 1 o) : o + 11 < 816 := by
  have hh : ∀ o, o < 874 → kd o = 1 → o + 11 < 816 := by decide +kernel
  exact hh o h.1 h.2
theorem as_1_2 {o : Nat} (h : isO 1 o) : spc (o + 11) = false := by
  have hh : ∀ o, o < 874 → kd o = 1 → spc (o + 11) = false := by decide +kernel
  exact hh o h.1 h.2
theorem al_1_3 {o : Nat} (h : isO 1 o) : o + 12 < 816 := by
  have hh : ∀ o, o < 874 → kd o = 1 → o + 12 < 816 := by decide +kernel
  exact hh o h.1 h.2
theorem as_1_3 {o : Nat} (h : isO 1 o) : spc (o + 12) = false := by
  have hh : ∀ o, o < 874 → kd o = 1 → spc (o + 12) = false := by decide +kernel
  exact hh o h.1 h.2
theorem al_1_4 {o : Nat} (h : isO 1 o) : o + 13 < 816 := by
  have hh : ∀ o, o < 874 → kd o = 1 → o + 13 < 816 := by decide +kernel
  exact hh o h.1 h.2
theorem as_1_4 {o : Nat} (h : isO 1 o) : spc (o + 13) = false := by
  have hh : ∀ o, o < 874 → kd o = 1 → spc (o + 13) = false := by decide +kernel
  exact hh o h.1 h.2
theorem al_1_6 {o : Nat} (h : isO 1 o) : o + 15 < 816 := by
  have hh : ∀ o, o < 874 → kd o = 1 → o + 15 < 816 := by decide +kernel
  exact hh o h.1 h.2
theorem as_1_6 {o : Nat} (h : isO 1 o) : spc (o + 15) = false := by
  have hh : ∀ o, o < 874 → kd o = 1 → spc (o + 15) = false := by decide +kernel
  exact hh o h.1 h.2
theorem al_1_7 {o : Nat} (h : isO 1 o) : o + 16 < 816 := by
  have hh : ∀ o, o < 874 → kd o = 1 → o + 16 < 816 := by decide +kernel
  exact hh o h.1 h.2
theorem as_1_7 {o : Nat} (h : isO 1 o) : spc (o + 16) = false := by
  have hh : ∀ o, o < 874 → kd o = 1 → spc (o + 16) = false := by decide +kernel
  exact hh o h.1 h.2
theorem sp_o {c o : Nat} (h : isO c o) (hc : c < 10) : spc o = false := by
  cases hs : spc o with
  | false => rfl
  | true =>
    have := spc_k o (h.l hc) hs
    have := h.2
    omega
theorem row_k {o i : Nat} (h : isO 16 o) (hi : i < 8) : o + 1 + i < 816 ∧ spc (o + 1 + i) = false := by
  have hh : ∀ o, o < 874 → kd o = 16 → ∀ i, i < 8 → o + 1 + i < 816 ∧ spc (o + 1 + i) = false := by decide +kernel
  exact hh o h.1 h.2 i hi
theorem u_lt {o : Nat} (h : isO 5 o) : o + 1 < 522 := by
  have hh : ∀ o, o < 874 → kd o = 5 → o + 1 < 522 := by decide +kernel
  exact hh o h.1 h.2
theorem w_ge {o : Nat} (h : isO 8 o) : 522 ≤ o := by
  have hh : ∀ o, o < 874 → kd o = 8 → 522 ≤ o := by decide +kernel
  exact hh o h.1 h.2
theorem e_ge {o : Nat} (h : isO 0 o) : 522 ≤ o := by
  have hh : ∀ o, o < 874 → kd o = 0 → 522 ≤ o := by decide +kernel
  exact hh o h.1 h.2
theorem pj_kl {n : Int32} {w v : VV} {o : Nat} {i : Nat} {x : Int32} (h : Jc n w v) (ho : isO 1 o) (hx : 0 ≤ x.toInt ∧ x.toInt ≤ 8) : Jc n w (up2 v (o + 10) i x) := by
  have h2 := kd1 o (ho.l (by decide)) ho.2
  refine h.any (o := o + 10) (by omega) (fun a ha => up2_of v _ i x ha) (by rw [up2_o _ _ _ _ _ (by omega)]) (fun p hp he hd => ?_)
  have hp2 : p = o ∨ p = o + 10 := by
    rcases hd with hd | hd
    · exact Or.inr hd
    · rcases hd with ⟨h3, h4⟩ | ⟨h3, h4⟩
      · have := kd1 p hp h3
        omega
      · omega
  rcases hp2 with e | e
  · subst e
    rw [ho.2]
    have q := h.at ho (by decide) id
    simp only [ok1] at q ⊢
    rw [up2_o v _ _ _ _ (show p ≠ p + 10 by omega), up2_o v _ _ _ _ (show p ≠ p + 10 by omega), up2_o v _ _ _ _ (show p ≠ p + 10 by omega), up2_o v _ _ _ _ (show p ≠ p + 10 by omega), up2_of v _ _ _ (show p + 14 ≠ p + 10 by omega)]
    refine ⟨q.1, fun j hj => ?_, q.2.2⟩
    by_cases e : j = i
    · rw [e, up2_s]; exact hx
    · rw [up2_k _ _ _ _ e]; exact q.2.1 j hj
  · have : kd p = 11 := by rcases h2 with h2 | h2 <;> (rw [e, h2]; decide)
    rw [this]
    trivial
section PJ
variable {n : Int32} {w v : VV} {o : Nat} {x : Int32}
theorem p5_1 (h : Jc n w v) (ho : isO 5 o) (hx : 0 ≤ x.toInt ∧ x.toInt ≤ 17) : Jc n w (up2 v o 1 x) := h.put ho (by decide) (by decide) (fun _ => ⟨by rw [up2_s]; exact hx, by rw [up2_k _ _ _ _ (by decide)]; exact g5_2 h ho, by rw [up2_k _ _ _ _ (by decide)]; exact g5_5 h ho⟩)
theorem p5_2 (h : Jc n w v) (ho : isO 5 o) (hx : x = 0 ∨ x = 1) : Jc n w (up2 v o 2 x) := h.put ho (by decide) (by decide) (fun _ => ⟨by rw [up2_k _ _ _ _ (by decide)]; exact g5_1 h ho, by rw [up2_s]; exact hx, by rw [up2_k _ _ _ _ (by decide)]; exact g5_5 h ho⟩)
theorem p5_5 (h : Jc n w v) (ho : isO 5 o) (hx : 0 ≤ x.toInt) : Jc n w (up2 v o 5 x) := h.put ho (by decide) (by decide) (fun _ => ⟨by rw [up2_k _ _ _ _ (by decide)]; exact g5_1 h ho, by rw [up2_k _ _ _ _ (by decide)]; exact g5_2 h ho, by rw [up2_s]; exact hx⟩)
theorem p4_2 (h : Jc n w v) (ho : isO 4 o) (hx : 0 ≤ x.toInt ∧ x.toInt ≤ 8) : Jc n w (up2 v o 2 x) := h.put ho (by decide) (by decide) (fun _ => by show 0 ≤ (up2 v o 2 x o 2).toInt ∧ _; rw [up2_s]; exact hx)
theorem p7_2 (h : Jc n w v) (ho : isO 7 o) (hx : 0 ≤ x.toInt ∧ x.toInt ≤ 8) : Jc n w (up2 v o 2 x) := h.put ho (by decide) (by decide) (fun _ => by show 0 ≤ (up2 v o 2 x o 2).toInt ∧ _; rw [up2_s]; exact hx)
theorem p9_3 (h : Jc n w v) (ho : isO 9 o) (hx : 0 ≤ x.toInt ∧ x.toInt ≤ 64) : Jc n w (up2 v o 3 x) := h.put ho (by decide) (by decide) (fun _ => by show 0 ≤ (up2 v o 3 x o 3).toInt ∧ _; rw [up2_s]; exact hx)
theorem p6_1 (h : Jc n w v) (ho : isO 6 o) (hx : 0 ≤ x.toInt ∧ x.toInt < 512) : Jc n w (up2 v o 1 x) := h.put ho (by decide) (by decide) (fun _ => by
  have q := g6_2 h ho
  show 0 ≤ (up2 v o 1 x o 1).toInt ∧ (up2 v o 1 x o 1).toInt < 512 ∧ 0 ≤ (up2 v o 1 x o 2).toInt ∧ (up2 v o 1 x o 2).toInt ≤ 512
  rw [up2_s, up2_k _ _ _ _ (by decide)]; exact ⟨hx.1, hx.2, q⟩)
theorem p6_2 (h : Jc n w v) (ho : isO 6 o) (hx : 0 ≤ x.toInt ∧ x.toInt ≤ 512) : Jc n w (up2 v o 2 x) := h.put ho (by decide) (by decide) (fun _ => by
  have q := g6_1 h ho
  show 0 ≤ (up2 v o 2 x o 1).toInt ∧ (up2 v o 2 x o 1).toInt < 512 ∧ 0 ≤ (up2 v o 2 x o 2).toInt ∧ (up2 v o 2 x o 2).toInt ≤ 512
  rw [up2_s, up2_k _ _ _ _ (by decide)]; exact ⟨q.1, q.2, hx⟩)
theorem p3_2 (h : Jc n w v) (ho : isO 3 o) (hx : (v o 3).toInt ≤ x.toInt ∧ x.toInt ≤ 40) : Jc n w (up2 v o 2 x) := h.put ho (by decide) (by decide) (fun _ => by
  have q := h.at ho (by decide) id
  simp only [ok1] at q
  show 0 ≤ (up2 v o 2 x o 1).toInt ∧ (up2 v o 2 x o 1).toInt < 40 ∧ 0 ≤ (up2 v o 2 x o 3).toInt ∧ (up2 v o 2 x o 3).toInt ≤ (up2 v o 2 x o 2).toInt ∧ (up2 v o 2 x o 2).toInt ≤ 40
  rw [up2_s, up2_k _ _ _ _ (show (1 : Nat) ≠ 2 by decide), up2_k _ _ _ _ (show (3 : Nat) ≠ 2 by decide)]; omega)
theorem p3_3 (h : Jc n w v) (ho : isO 3 o) (hx : 0 ≤ x.toInt ∧ x.toInt ≤ (v o 2).toInt) : Jc n w (up2 v o 3 x) := h.put ho (by decide) (by decide) (fun _ => by
  have q := h.at ho (by decide) id
  simp only [ok1] at q
  show 0 ≤ (up2 v o 3 x o 1).toInt ∧ (up2 v o 3 x o 1).toInt < 40 ∧ 0 ≤ (up2 v o 3 x o 3).toInt ∧ (up2 v o 3 x o 3).toInt ≤ (up2 v o 3 x o 2).toInt ∧ (up2 v o 3 x o 2).toInt ≤ 40
  rw [up2_s, up2_k _ _ _ _ (show (1 : Nat) ≠ 3 by decide), up2_k _ _ _ _ (show (2 : Nat) ≠ 3 by decide)]; omega)
theorem p3_1 (h : Jc n w v) (ho : isO 3 o) (hx : 0 ≤ x.toInt ∧ x.toInt < 40) : Jc n w (up2 v o 1 x) := h.put ho (by decide) (by decide) (fun _ => by
  have q := h.at ho (by decide) id
  simp only [ok1] at q
  show 0 ≤ (up2 v o 1 x o 1).toInt ∧ (up2 v o 1 x o 1).toInt < 40 ∧ 0 ≤ (up2 v o 1 x o 3).toInt ∧ (up2 v o 1 x o 3).toInt ≤ (up2 v o 1 x o 2).toInt ∧ (up2 v o 1 x o 2).toInt ≤ 40
  rw [up2_s, up2_k _ _ _ _ (show (2 : Nat) ≠ 1 by decide), up2_k _ _ _ _ (show (3 : Nat) ≠ 1 by decide)]; omega)
end PJ
theorem cp_of {sp dp k : Int32} {N1 N2 : Nat} (h1 : 0 ≤ sp.toInt) (h2 : 0 ≤ dp.toInt) (h3 : 0 ≤ k.toInt) (h4 : sp.toInt + k.toInt ≤ N1) (h5 : dp.toInt + k.toInt ≤ N2) : ¬ sp < 0 ∧ ¬ dp < 0 ∧ ¬ k < 0 ∧ sp.toNatClampNeg + k.toNatClampNeg ≤ N1 ∧ dp.toNatClampNeg + k.toNatClampNeg ≤ N2 := by
  have z : Int32.toInt 0 = 0 := rfl
  have e1 := tn_of h1
  have e2 := tn_of h2
  have e3 := tn_of h3
  refine ⟨fun q => ?_, fun q => ?_, fun q => ?_, by omega, by omega⟩ <;> (have := i_lt q; omega)
/-- beyond the net nothing has changed but waits -/
def FrW (v v1 : VV) : Prop := ∀ a, 522 ≤ a → kd a ≠ 8 → v1 a = v a
theorem FrW.rf {v : VV} : FrW v v := fun _ _ _ => rfl
theorem FrW.tr {v v1 v2 : VV} (h : FrW v v1) (h' : FrW v1 v2) : FrW v v2 := fun a h1 h2 => (h' a h1 h2).trans (h a h1 h2)
theorem FrW.up {v v1 : VV} (h : FrW v v1) (o k : Nat) (x : Int32) (ho : o < 522 ∨ kd o = 8) : FrW v (up2 v1 o k x) := fun a h1 h2 => (up2_of v1 o k x (fun e => by subst e; rcases ho with q | q; omega; exact h2 q)).trans (h a h1 h2)
theorem FrW.row {v v1 : VV} (h : FrW v v1) (o : Nat) (f : Nat → Int32) (ho : o < 522) : FrW v (up1 v1 o f) := fun a h1 h2 => by
  have e : up1 v1 o f a = v1 a := by funext b; simp [up1, show a ≠ o by omega]
  rw [e]; exact h a h1 h2
def kindF (b : Int32) : Int32 := if b &&& 240 = 224 ∨ b &&& 240 = 208 ∨ b &&& 240 = 96 then b &&& 240 else b
def headF (k : Int32) : Int32 := if k = 224 ∨ k = 208 ∨ k = 128 then 11 else if k = 192 then 10 else if k = 240 ∨ k = 96 ∨ k = 16 ∨ k = 32 then 9 else 0
theorem headF_r (k : Int32) : headF k = 0 ∨ headF k = 9 ∨ headF k = 10 ∨ headF k = 11 := by
  unfold headF
  by_cases h1 : k = 224 ∨ k = 208 ∨ k = 128
  · rw [if_pos h1]; exact Or.inr (Or.inr (Or.inr rfl))
  rw [if_neg h1]
  by_cases h2 : k = 192
  · rw [if_pos h2]; exact Or.inr (Or.inr (Or.inl rfl))
  rw [if_neg h2]
  by_cases h3 : k = 240 ∨ k = 96 ∨ k = 16 ∨ k = 32
  · rw [if_pos h3]; exact Or.inr (Or.inl rfl)
  rw [if_neg h3]; exact Or.inl rfl
theorem headF_i (k : Int32) : (headF k).toInt = 0 ∨ (headF k).toInt = 9 ∨ (headF k).toInt = 10 ∨ (headF k).toInt = 11 := by
  rcases headF_r k with h | h | h | h <;> rw [h] <;> decide
/-- a unit that is good: its length fits its kind -/
def Gd (u : Nat) (v : VV) : Prop := kindF (v (u + 1) 1) = 240 → 9 ≤ (v u 1).toInt ∧ (v u 1).toInt ≤ 17
theorem Gd.of {u : Nat} {v v1 : VV} (h : Gd u v) (h1 : v1 u = v u) (h2 : v1 (u + 1) = v (u + 1)) : Gd u v1 := by
  unfold Gd at h ⊢
  rw [h1, h2]
  exact h
