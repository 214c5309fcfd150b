/-! what holds of the class between any two of its rows -/
def sumL (f : Nat → Int32) : Nat → Int
  | 0 => 0
  | n + 1 => sumL f n + (f n).toInt
theorem sumL_nn {f : Nat → Int32} : ∀ n, (∀ i : Nat, i < n → 0 ≤ (f i).toInt) → 0 ≤ sumL f n
  | 0, _ => Int.le_refl 0
  | n + 1, h => by
    have h1 := sumL_nn n (fun i hi => h i (by omega))
    have h2 := h n (by omega)
    show 0 ≤ sumL f n + (f n).toInt
    omega
theorem sumL_ext {f g : Nat → Int32} : ∀ n, (∀ i : Nat, i < n → f i = g i) → sumL f n = sumL g n
  | 0, _ => rfl
  | n + 1, h => by
    show sumL f n + (f n).toInt = sumL g n + (g n).toInt
    rw [sumL_ext n (fun i hi => h i (by omega)), h n (by omega)]
theorem sumL_shift {f : Nat → Int32} : ∀ n, sumL (fun i => f (i + 1)) n + (f 0).toInt = sumL f (n + 1)
  | 0 => by show (0 : Int) + (f 0).toInt = 0 + (f 0).toInt; rfl
  | n + 1 => by
    have h := sumL_shift (f := f) n
    show sumL (fun i => f (i + 1)) n + (f (n + 1)).toInt + (f 0).toInt = sumL f (n + 1) + (f (n + 1)).toInt
    omega
def ok1 (c o : Nat) (v : VV) : Prop := match c with
  | 0 => v o 0 = 0 ∨ v o 0 = 1
  | 1 => (0 ≤ (v o 9).toInt ∧ (v o 9).toInt ≤ 256 ∧ 0 ≤ (v o 10).toInt ∧ (v o 10).toInt ≤ 32 ∧ 0 ≤ (v o 12).toInt ∧ 0 ≤ (v o 14).toInt ∧ (v o 14).toInt ≤ 256) ∧ (∀ i, i < 8 → 0 ≤ (v (o + 10) i).toInt ∧ (v (o + 10) i).toInt ≤ 8) ∧ (∀ i : Nat, (i : Int) < (v o 10).toInt → 0 ≤ (v (o + 14) i).toInt) ∧ sumL (v (o + 14)) (v o 10).toNatClampNeg + (v o 12).toInt = (v o 9).toInt
  | 2 => (0 ≤ (v o 7).toInt ∧ (v o 7).toInt ≤ 60) ∧ ∀ i : Nat, (i : Int) < (v o 7).toInt → ((v 5 i = 1 ∨ v 5 i = 2 ∨ v 5 i = 3) ∨ 0 ≤ (v 7 i).toInt)
  | 3 => 0 ≤ (v o 1).toInt ∧ (v o 1).toInt < 40 ∧ 0 ≤ (v o 3).toInt ∧ (v o 3).toInt ≤ (v o 2).toInt ∧ (v o 2).toInt ≤ 40
  | 4 => 0 ≤ (v o 2).toInt ∧ (v o 2).toInt ≤ 8
  | 5 => (0 ≤ (v o 1).toInt ∧ (v o 1).toInt ≤ 17) ∧ (v o 2 = 0 ∨ v o 2 = 1) ∧ 0 ≤ (v o 5).toInt
  | 6 => 0 ≤ (v o 1).toInt ∧ (v o 1).toInt < 512 ∧ 0 ≤ (v o 2).toInt ∧ (v o 2).toInt ≤ 512
  | 7 => 0 ≤ (v o 2).toInt ∧ (v o 2).toInt ≤ 8
  | 9 => 0 ≤ (v o 3).toInt ∧ (v o 3).toInt ≤ 64
  | _ => True
def rd (c k : Nat) : Bool := match c with
  | 0 => k == 0
  | 1 => k == 9 || k == 10 || k == 12 || k == 14
  | 2 => k == 7
  | 3 => k == 1 || k == 2 || k == 3
  | 4 => k == 2
  | 5 => k == 1 || k == 2 || k == 5
  | 6 => k == 1 || k == 2
  | 7 => k == 2
  | 9 => k == 3
  | _ => false
/-- the cells beside o itself that o's row speaks of -/
def dep (p o : Nat) : Prop := (kd p = 1 ∧ (o = p + 10 ∨ o = p + 14)) ∨ (p = 1 ∧ (o = 5 ∨ o = 7))
theorem kd1 : ∀ o, o < 816 → kd o = 1 → o = 646 ∨ o = 792 := by decide +kernel
theorem kd2 : ∀ o, o < 816 → kd o = 2 → o = 1 := by decide +kernel
theorem o816 : ∀ o, o < 874 → kd o < 10 → o < 816 := by decide +kernel
theorem isO.l {c o : Nat} (h : isO c o) (hc : c < 10) : o < 816 := o816 o h.1 (by rw [h.2]; exact hc)
theorem ok1_congr {c o : Nat} {v v' : VV} (ho : kd o = c) (hl : o < 816) (h0 : ∀ k, rd c k = true → v' o k = v o k) (h1 : ∀ a, dep o a → v' a = v a) (h : ok1 c o v) : ok1 c o v' := by
  match c, ho with
  | 0, _ => simp only [ok1] at h ⊢; rw [h0 0 rfl]; exact h
  | 1, ho =>
    simp only [ok1] at h ⊢
    rw [h0 9 rfl, h0 10 rfl, h0 12 rfl, h0 14 rfl, h1 (o + 10) (Or.inl ⟨ho, Or.inl rfl⟩), h1 (o + 14) (Or.inl ⟨ho, Or.inr rfl⟩)]
    exact h
  | 2, ho =>
    have e := kd2 o hl ho
    subst e
    simp only [ok1] at h ⊢
    rw [h0 7 rfl, h1 5 (Or.inr ⟨rfl, Or.inl rfl⟩), h1 7 (Or.inr ⟨rfl, Or.inr rfl⟩)]
    exact h
  | 3, _ => simp only [ok1] at h ⊢; rw [h0 1 rfl, h0 2 rfl, h0 3 rfl]; exact h
  | 4, _ => simp only [ok1] at h ⊢; rw [h0 2 rfl]; exact h
  | 5, _ => simp only [ok1] at h ⊢; rw [h0 1 rfl, h0 2 rfl, h0 5 rfl]; exact h
  | 6, _ => simp only [ok1] at h ⊢; rw [h0 1 rfl, h0 2 rfl]; exact h
  | 7, _ => simp only [ok1] at h ⊢; rw [h0 2 rfl]; exact h
  | 8, _ => trivial
  | 9, _ => simp only [ok1] at h ⊢; rw [h0 3 rfl]; exact h
  | k + 10, _ => exact trivial
/-- the rows' words, but for the cells of E; outside the class the ints are w's; the hour is n -/
def Jq (E : Nat → Prop) (n : Int32) (w v : VV) : Prop := (∀ a, 816 ≤ a → v a = w a) ∧ v 1 10 = n ∧ ∀ o, o < 816 → ¬ E o → ok1 (kd o) o v
abbrev Jc (n : Int32) (w v : VV) : Prop := Jq (fun _ => False) n w v
theorem Jq.any {E : Nat → Prop} {n : Int32} {w v v' : VV} {o : Nat} (hJ : Jq E n w v) (ho : o < 816) (hv : ∀ a, a ≠ o → v' a = v a) (hn : v' 1 10 = v 1 10) (hk : ∀ p, p < 816 → ¬ E p → p = o ∨ dep p o → ok1 (kd p) p v') : Jq E n w v' := by
  refine ⟨fun a ha => (hv a (by omega)).trans (hJ.1 a ha), hn.trans hJ.2.1, fun p hp he => ?_⟩
  by_cases h : p = o ∨ dep p o
  · exact hk p hp he h
  · refine ok1_congr rfl hp (fun k _ => by rw [hv p (fun e => h (Or.inl e))]) (fun a hd => hv a (fun e => h (Or.inr (by rw [← e]; exact hd)))) (hJ.2.2 p hp he)
theorem dep_lt {p o : Nat} (hp : p < 816) (h : dep p o) : o = 656 ∨ o = 660 ∨ o = 802 ∨ o = 806 ∨ o = 5 ∨ o = 7 := by
  rcases h with ⟨h1, h2⟩ | ⟨h1, h2⟩
  · rcases kd1 p hp h1 with e | e <;> omega
  · omega
def spc (o : Nat) : Bool := o == 656 || o == 660 || o == 802 || o == 806 || o == 5 || o == 7
theorem spc_k : ∀ o, o < 816 → spc o = true → kd o = 11 := by decide +kernel
/-- a put that no row speaks of -/
theorem Jq.free {E : Nat → Prop} {n : Int32} {w v : VV} {o c k : Nat} {x : Int32} (hJ : Jq E n w v) (ho : isO c o) (hl : o < 816) (hr : rd c k = false) (hs : spc o = false) (hn : c = 2 → k ≠ 10) : Jq E n w (up2 v o k x) := by
  refine hJ.any hl (fun a ha => up2_of v o k x ha) ?_ (fun p hp he h => ?_)
  · by_cases h1 : o = 1
    · subst h1
      have hc : c = 2 := ho.2.symm.trans (show kd 1 = 2 from by decide)
      exact up2_k v 1 k x (fun e => hn hc e.symm)
    · rw [up2_o v o k x 10 (fun e => h1 e.symm)]
  · rcases h with h | h
    · subst h
      rw [ho.2]
      refine ok1_congr ho.2 hl (fun b hb => up2_k v p k x (fun e => by rw [e, hr] at hb; cases hb)) (fun a hd => up2_of v p k x (fun e => ?_)) (by have := hJ.2.2 p hp he; rw [ho.2] at this; exact this)
      subst e
      rcases hd with ⟨h1, h2⟩ | ⟨h1, h2⟩ <;> omega
    · have := dep_lt hp h
      simp [spc] at hs
      omega
/-- an object's own put -/
theorem Jq.put {E : Nat → Prop} {n : Int32} {w v : VV} {o c k : Nat} {x : Int32} (hJ : Jq E n w v) (ho : isO c o) (hc : c < 10) (hn : c = 2 → k ≠ 10) (hk : ¬ E o → ok1 c o (up2 v o k x)) : Jq E n w (up2 v o k x) := by
  have hl := ho.l hc
  refine hJ.any hl (fun a ha => up2_of v o k x ha) ?_ (fun p hp he h => ?_)
  · by_cases h1 : o = 1
    · subst h1
      have hc : c = 2 := ho.2.symm.trans (show kd 1 = 2 from by decide)
      exact up2_k v 1 k x (fun e => hn hc e.symm)
    · rw [up2_o v o k x 10 (fun e => h1 e.symm)]
  · rcases h with h | h
    · subst h
      rw [ho.2]
      exact hk he
    · have h1 : spc o = true := by
        have := dep_lt hp h
        simp [spc]
        omega
      have := spc_k o hl h1
      have := ho.2
      omega
/-- a whole row set that no row speaks of -/
theorem Jq.row {E : Nat → Prop} {n : Int32} {w v : VV} {o : Nat} {f : Nat → Int32} (hJ : Jq E n w v) (ho : isO 11 o) (hl : o < 816) (hs : spc o = false) : Jq E n w (up1 v o f) := by
  have hv : ∀ a, a ≠ o → up1 v o f a = v a := fun a ha => by funext b; simp [up1, ha]
  have h1 : o ≠ 1 := fun e => by have := ho.2; rw [e] at this; exact absurd this (by decide)
  refine hJ.any hl hv (by rw [hv 1 (fun e => h1 e.symm)]) (fun p hp he h => ?_)
  rcases h with h | h
  · subst h
    rw [ho.2]
    trivial
  · have := dep_lt hp h
    simp [spc] at hs
    omega
theorem Jq.wk {E F : Nat → Prop} {n : Int32} {w v : VV} (hJ : Jq E n w v) (h : ∀ o, E o → F o) : Jq F n w v := ⟨hJ.1, hJ.2.1, fun o ho he => hJ.2.2 o ho (fun q => he (h o q))⟩
theorem Jq.mend {n : Int32} {w v : VV} {p : Nat} (hJ : Jq (fun a => a = p) n w v) (h : ok1 (kd p) p v) : Jc n w v := ⟨hJ.1, hJ.2.1, fun o ho _ => by
  by_cases e : o = p
  · rw [e]; exact h
  · exact hJ.2.2 o ho e⟩
theorem Jq.at {E : Nat → Prop} {n : Int32} {w v : VV} {c o : Nat} (hJ : Jq E n w v) (ho : isO c o) (hc : c < 10) (he : ¬ E o) : ok1 c o v := by
  have := hJ.2.2 o (ho.l hc) he
  rw [ho.2] at this
  exact this
section GJ
variable {n : Int32} {w v : VV} {o : Nat}
theorem g0_0 (h : Jc n w v) (ho : isO 0 o) : v o 0 = 0 ∨ v o 0 = 1 := h.at ho (by decide) id
theorem g3_1 (h : Jc n w v) (ho : isO 3 o) : 0 ≤ (v o 1).toInt ∧ (v o 1).toInt < 40 := by have := h.at ho (by decide) id; exact ⟨this.1, this.2.1⟩
theorem g3_2 (h : Jc n w v) (ho : isO 3 o) : 0 ≤ (v o 2).toInt ∧ (v o 2).toInt ≤ 40 ∧ (v o 3).toInt ≤ (v o 2).toInt := by have := h.at ho (by decide) id; simp only [ok1] at this; omega
theorem g3_3 (h : Jc n w v) (ho : isO 3 o) : 0 ≤ (v o 3).toInt ∧ (v o 3).toInt ≤ 40 ∧ (v o 3).toInt ≤ (v o 2).toInt := by have := h.at ho (by decide) id; simp only [ok1] at this; omega
theorem g4_2 (h : Jc n w v) (ho : isO 4 o) : 0 ≤ (v o 2).toInt ∧ (v o 2).toInt ≤ 8 := h.at ho (by decide) id
theorem g5_1 (h : Jc n w v) (ho : isO 5 o) : 0 ≤ (v o 1).toInt ∧ (v o 1).toInt ≤ 17 := (h.at ho (by decide) id).1
theorem g5_2 (h : Jc n w v) (ho : isO 5 o) : v o 2 = 0 ∨ v o 2 = 1 := (h.at ho (by decide) id).2.1
theorem g5_5 (h : Jc n w v) (ho : isO 5 o) : 0 ≤ (v o 5).toInt := (h.at ho (by decide) id).2.2
theorem g6_1 (h : Jc n w v) (ho : isO 6 o) : 0 ≤ (v o 1).toInt ∧ (v o 1).toInt < 512 := by have := h.at ho (by decide) id; exact ⟨this.1, this.2.1⟩
theorem g6_2 (h : Jc n w v) (ho : isO 6 o) : 0 ≤ (v o 2).toInt ∧ (v o 2).toInt ≤ 512 := by have := h.at ho (by decide) id; exact this.2.2
theorem g7_2 (h : Jc n w v) (ho : isO 7 o) : 0 ≤ (v o 2).toInt ∧ (v o 2).toInt ≤ 8 := h.at ho (by decide) id
theorem g9_3 (h : Jc n w v) (ho : isO 9 o) : 0 ≤ (v o 3).toInt ∧ (v o 3).toInt ≤ 64 := h.at ho (by decide) id
theorem g2_7 (h : Jc n w v) (ho : isO 2 o) : 0 ≤ (v o 7).toInt ∧ (v o 7).toInt ≤ 60 := (h.at ho (by decide) id).1
theorem g1_9 (h : Jc n w v) (ho : isO 1 o) : 0 ≤ (v o 9).toInt ∧ (v o 9).toInt ≤ 256 := by have := (h.at ho (by decide) id).1; omega
theorem g1_10 (h : Jc n w v) (ho : isO 1 o) : 0 ≤ (v o 10).toInt ∧ (v o 10).toInt ≤ 32 := by have := (h.at ho (by decide) id).1; omega
theorem g1_12 (h : Jc n w v) (ho : isO 1 o) : 0 ≤ (v o 12).toInt ∧ (v o 12).toInt ≤ (v o 9).toInt := by
  have q := h.at ho (by decide) id
  simp only [ok1] at q
  have h1 := sumL_nn (f := v (o + 14)) (v o 10).toNatClampNeg (fun i hi => q.2.2.1 i (by have := tn_of q.1.2.2.1; omega))
  omega
theorem g1_14 (h : Jc n w v) (ho : isO 1 o) : 0 ≤ (v o 14).toInt ∧ (v o 14).toInt ≤ 256 := by have := (h.at ho (by decide) id).1; omega
theorem g1_k (h : Jc n w v) (ho : isO 1 o) {i : Nat} (hi : i < 8) : 0 ≤ (v (o + 10) i).toInt ∧ (v (o + 10) i).toInt ≤ 8 := (h.at ho (by decide) id).2.1 i hi
end GJ
