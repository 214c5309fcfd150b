/-! what does not touch what holds -/
def fre (a : Nat) : Bool := a == 816 || a == 821 || a == 823 || a == 824 || a == 826 || a == 827 || a == 833 || a == 835 || a == 836 || a == 837 || a == 842 || a == 845 || a == 849 || a == 850 || a == 853 || a == 857 || a == 860 || a == 862 || a == 863 || a == 865 || a == 872 || a == 873
section IM
variable {g g' c c' : Nat → Int → Int} {d0 d1 d2 L M κ om : Int} {v v1 : VV}
theorem FU.cg {u : Nat} (h : FU g c u v) (h817 : v1 817 = v 817) (h818 : v1 818 = v 818) (h822 : v1 822 = v 822) (h868 : v1 868 = v 868) (h869 : v1 869 = v 869) (h870 : v1 870 = v 870) (h871 : v1 871 = v 871) : FU g c u v1 := by
  unfold FU at h ⊢
  rw [h817, h818, h822, h868, h869, h870, h871]
  exact h
theorem Im.cg (h : Im g c d0 d1 d2 L M κ om v) (R : ∀ a, fre a = false → v1 a = v a) (K : ∀ k, k = 0 ∨ k = 48 ∨ k = 49 ∨ k = 54 ∨ k = 55 → v1 816 k = v 816 k) (hb : iBy v1) : Im g c d0 d1 d2 L M κ om v1 := by
  obtain ⟨⟨a1, a2, a3, a4⟩, hE, hF, hN⟩ := h
  have e0 := K 0 (by decide)
  have e48 := K 48 (by decide)
  have e49 := K 49 (by decide)
  have e54 := K 54 (by decide)
  have e55 := K 55 (by decide)
  refine ⟨⟨?_, hb, ?_, a4⟩, fun p q hpq => ?_, fun u hu1 hu2 => ?_, ?_⟩
  · unfold iSc
    rw [e0, e48, e49, R 869 rfl]; exact a1
  · intro k
    rw [e49, R 864 rfl, R 866 rfl, R 867 rfl]
    exact a3 k
  · obtain ⟨b1, b2, b3, b4, b5⟩ := hE p q hpq
    exact ⟨b1.cg (R _ rfl) (R _ rfl) (R _ rfl) (R _ rfl) (R _ rfl) (R _ rfl) (R _ rfl) (R _ rfl) (R _ rfl) (R _ rfl), b2.cg e0 (R _ rfl) (R _ rfl) (R _ rfl) (R _ rfl) (R _ rfl) (R _ rfl) (R _ rfl) (R _ rfl) (R _ rfl) (R _ rfl) (R _ rfl), b3.cg e0 (R _ rfl) (R _ rfl) (R _ rfl) (R _ rfl) (R _ rfl) (R _ rfl) (R _ rfl) (R _ rfl), b4.cg e0 (R _ rfl) (R _ rfl) rfl, b5.cg e0 (R _ rfl) (R _ rfl) rfl⟩
  · rw [e55] at hu1
    rw [e54] at hu2
    exact (hF u hu1 hu2).cg (R _ rfl) (R _ rfl) (R _ rfl) (R _ rfl) (R _ rfl) (R _ rfl) (R _ rfl)
  · unfold iN
    rw [e0, e48, e54, e55, bnk.cg (R _ rfl) (R _ rfl) (R _ rfl) (R _ rfl), bnk.cg (R _ rfl) (R _ rfl) (R _ rfl) (R _ rfl)]
    exact hN
/-- a put of which nothing speaks -/
theorem Im.put {o k : Nat} {x : Int32} (h : Im g c d0 d1 d2 L M κ om v) (ho : fre o = true) (h0 : o = 816 → k ≠ 0 ∧ k ≠ 48 ∧ k ≠ 49 ∧ k ≠ 54 ∧ k ≠ 55) (hx : o = 837 ∨ o = 842 ∨ o = 863 ∨ o = 873 → byt x) : Im g c d0 d1 d2 L M κ om (up2 v o k x) := by
  refine h.cg (fun a ha => up2_of v o k x (fun e => by rw [e, ho] at ha; cases ha)) (fun q hq => ?_) (fun q => ?_)
  · by_cases e : o = 816
    · have := h0 e
      subst e
      exact up2_k v _ k x (by omega)
    · exact up2_o v o k x q (fun e2 => e e2.symm)
  · have b := h.1.2.1 q
    have P : ∀ r, (r = 837 ∨ r = 842 ∨ r = 863 ∨ r = 873 ∨ fre r = false) → byt (v r q) → byt (up2 v o k x r q) := fun r hr hb => by
      by_cases e : r = o
      · by_cases e2 : q = k
        · rw [e, e2, up2_s]
          refine hx ?_
          rcases hr with hr | hr | hr | hr | hr
          · exact Or.inl (by omega)
          · exact Or.inr (Or.inl (by omega))
          · exact Or.inr (Or.inr (Or.inl (by omega)))
          · exact Or.inr (Or.inr (Or.inr (by omega)))
          · rw [e, ho] at hr; cases hr
        · rw [e, up2_k _ _ _ _ e2, ← e]; exact hb
      · rw [up2_o _ _ _ _ _ e]; exact hb
    exact ⟨P 828 (by decide) b.1, P 837 (by decide) b.2.1, P 842 (by decide) b.2.2.1, P 863 (by decide) b.2.2.2.1, P 868 (by decide) b.2.2.2.2.1, P 873 (by decide) b.2.2.2.2.2⟩
/-- the frame of all that a tick does -/
def Fx (c c' : Nat → Int → Int) (v v1 : VV) : Prop := (v1 816 0 = v 816 0 ∧ v1 816 55 = v 816 55 ∧ v1 816 49 = v 816 49 ∧ v1 864 = v 864 ∧ v1 865 = v 865) ∧ (v 816 54).toInt ≤ (v1 816 54).toInt ∧ (∀ a, a < (v 816 0).toInt → c' 0 a = c 0 a) ∧ (∀ u, u ≤ (v 816 54).toInt → c' 1 u = c 1 u ∧ c' 2 u = c 2 u) ∧ (∀ a, a < 816 → v1 a = v a)
theorem Fx.rf : Fx c c v v := ⟨⟨rfl, rfl, rfl, rfl, rfl⟩, Int.le_refl _, fun _ _ => rfl, fun _ _ => ⟨rfl, rfl⟩, fun _ _ => rfl⟩
theorem Fx.tr {c'' : Nat → Int → Int} {v2 : VV} (h : Fx c c' v v1) (h2 : Fx c' c'' v1 v2) : Fx c c'' v v2 := by
  obtain ⟨⟨a1, a2, a3, a4, a5⟩, a6, a7, a8, a9⟩ := h
  obtain ⟨⟨b1, b2, b3, b4, b5⟩, b6, b7, b8, b9⟩ := h2
  refine ⟨⟨b1.trans a1, b2.trans a2, b3.trans a3, b4.trans a4, b5.trans a5⟩, by omega, fun a ha => (b7 a (by rw [a1]; exact ha)).trans (a7 a ha), fun u hu => ⟨(b8 u (by omega)).1.trans (a8 u hu).1, (b8 u (by omega)).2.trans (a8 u hu).2⟩, fun a ha => (b9 a ha).trans (a9 a ha)⟩
theorem Fx.put {vz : VV} {o k : Nat} {x : Int32} (h : Fx c c' vz v) (ho : 817 ≤ o ∧ o ≠ 864 ∧ o ≠ 865) : Fx c c' vz (up2 v o k x) := by
  obtain ⟨⟨a1, a2, a3, a4, a5⟩, a6, a7, a8, a9⟩ := h
  have e : ∀ q, up2 v o k x 816 q = v 816 q := fun q => up2_o v o k x q (by omega)
  refine ⟨⟨(e 0).trans a1, (e 55).trans a2, (e 49).trans a3, (up2_of v o k x (by omega)).trans a4, (up2_of v o k x (by omega)).trans a5⟩, by rw [e]; exact a6, a7, a8, fun a ha => (up2_of v o k x (by omega)).trans (a9 a ha)⟩
theorem Fx.put0 {vz : VV} {k : Nat} {x : Int32} (h : Fx c c' vz v) (ho : k ≠ 0 ∧ k ≠ 55 ∧ k ≠ 49 ∧ k ≠ 54) : Fx c c' vz (up2 v 816 k x) := by
  obtain ⟨⟨a1, a2, a3, a4, a5⟩, a6, a7, a8, a9⟩ := h
  refine ⟨⟨(up2_k v 816 k x (by omega)).trans a1, (up2_k v 816 k x (by omega)).trans a2, (up2_k v 816 k x (by omega)).trans a3, (up2_of v 816 k x (by decide)).trans a4, (up2_of v 816 k x (by decide)).trans a5⟩, by rw [up2_k v 816 k x (by omega)]; exact a6, a7, a8, fun a ha => (up2_of v 816 k x (by omega)).trans (a9 a ha)⟩
theorem Fx.snd {vz : VV} {r : Nat → Int32} {n ee : Int32} {x : Int} (h : Fx c c' vz v) (hs : Snt v v1 r n ee) (hsc : 0 ≤ (v 816 54).toInt ∧ (v 816 54).toInt ≤ 20000000) : Fx c (cs c' (v 816 0).toInt (v 816 54).toInt x) vz v1 := by
  obtain ⟨⟨a1, a2, a3, a4, a5⟩, a6, a7, a8, a9⟩ := h
  have l1 : Int32.toInt 1 = 1 := by decide
  have e54 := i_add hs.2.2.1 (by omega) (by omega)
  refine ⟨⟨(hs.2.1 0 (by decide) (by decide)).trans a1, (hs.2.1 55 (by decide) (by decide)).trans a2, (hs.2.1 49 (by decide) (by decide)).trans a3, (hs.1 864 (by decide) (by decide) (by decide) (by decide) (by decide) (by decide) (by decide)).trans a4, (hs.1 865 (by decide) (by decide) (by decide) (by decide) (by decide) (by decide) (by decide)).trans a5⟩, by omega, fun a ha => ?_, fun u hu => ?_, fun a ha => (hs.1 a (by omega) (by omega) (by omega) (by omega) (by omega) (by omega) (by omega)).trans (a9 a ha)⟩
  · rw [cs0, upH_lt (by rw [a1]; exact ha)]; exact a7 a ha
  · rw [cs1, cs2, upQ_le (by omega), upQ_le (by omega)]; exact a8 u hu
/-- the counts 3, 4, 5 may move -/
theorem Fx.b {vz : VV} {j : Nat} {f : Int → Int} (h : Fx c c' vz v) (hj : 3 ≤ j) : Fx c (upG c' j f) vz v := by
  obtain ⟨a0, a6, a7, a8, a9⟩ := h
  exact ⟨a0, a6, fun a ha => by rw [upG_n (by omega)]; exact a7 a ha, fun u hu => by rw [upG_n (by omega), upG_n (by omega)]; exact a8 u hu, a9⟩
/-- what holds, counted from the world vz with the counts cz -/
def Iz (cz : Nat → Int → Int) (vz : VV) (d0 d1 d2 L M κ om : Int) (v : VV) : Prop := ∃ g c, Im g c d0 d1 d2 L M κ om v ∧ Fx cz c vz v
theorem Iz.put {cz : Nat → Int → Int} {vz : VV} {o k : Nat} {x : Int32} (h : Iz cz vz d0 d1 d2 L M κ om v) (ho : fre o = true) (h0 : 817 ≤ o ∧ o ≠ 865) (hx : o = 837 ∨ o = 842 ∨ o = 863 ∨ o = 873 → byt x) : Iz cz vz d0 d1 d2 L M κ om (up2 v o k x) := by
  obtain ⟨g, c, h1, h2⟩ := h
  exact ⟨g, c, h1.put ho (fun e => by omega) hx, h2.put ⟨h0.1, (fun e => by rw [e] at ho; cases ho), h0.2⟩⟩
theorem iN.less {e0 e1 e2 : Int} (h : iN c d0 d1 d2 L om v) (h0 : 0 ≤ e0 ∧ e0 ≤ d0) (h1 : 0 ≤ e1 ∧ e1 ≤ d1) (h2 : 0 ≤ e2 ∧ e2 ≤ d2) : iN c e0 e1 e2 L om v := by
  obtain ⟨s, hB, q2, q1, q0, hd, hL, h9⟩ := h
  refine ⟨s, hB, fun a ha => ?_, fun a ha => ?_, fun a ha => ?_, by omega, hL, h9⟩
  · have := q2 a ha
    by_cases e : a = (v 816 0).toInt
    · rw [if_pos e] at this ⊢; omega
    · rw [if_neg e] at this ⊢; omega
  · have := q1 a ha
    by_cases e : a = (v 816 0).toInt
    · rw [if_pos e] at this ⊢; omega
    · rw [if_neg e] at this ⊢; omega
  · have := q0 a ha
    by_cases e : a = (v 816 0).toInt
    · rw [if_pos e] at this ⊢; omega
    · rw [if_neg e] at this ⊢; omega
theorem Im.less {e0 e1 e2 : Int} (h : Im g c d0 d1 d2 L M κ om v) (h0 : 0 ≤ e0 ∧ e0 ≤ d0) (h1 : 0 ≤ e1 ∧ e1 ≤ d1) (h2 : 0 ≤ e2 ∧ e2 ≤ d2) : Im g c e0 e1 e2 L M κ om v := ⟨h.1, h.2.1, h.2.2.1, h.2.2.2.less h0 h1 h2⟩
theorem Iz.less {cz : Nat → Int → Int} {vz : VV} {e0 e1 e2 : Int} (h : Iz cz vz d0 d1 d2 L M κ om v) (h0 : 0 ≤ e0 ∧ e0 ≤ d0) (h1 : 0 ≤ e1 ∧ e1 ≤ d1) (h2 : 0 ≤ e2 ∧ e2 ≤ d2) : Iz cz vz e0 e1 e2 L M κ om v := by
  obtain ⟨g, c, q1, q2⟩ := h
  exact ⟨g, c, q1.less h0 h1 h2, q2⟩
theorem Im.tok (h : Im g c d0 d1 d2 L M κ om v) : 0 ≤ d0 ∧ 0 ≤ d1 ∧ 0 ≤ d2 := h.2.2.2.2.2.2.2.2.1
end IM
theorem i_and127 {x a : Int32} (e : x = a &&& 127) : x.toInt = a.toInt % 128 := by
  have h1 : x.toBitVec.toNat = a.toBitVec.toNat % 128 := by
    rw [e]
    show (a.toBitVec &&& 127#32).toNat = _
    rw [BitVec.toNat_and]
    exact Nat.and_two_pow_sub_one_eq_mod _ 7
  have h2 : x.toInt = x.toBitVec.toInt := rfl
  have h3 : a.toInt = a.toBitVec.toInt := rfl
  have h4 := a.toBitVec.isLt
  rw [h2, h3, BitVec.toInt_eq_toNat_cond, BitVec.toInt_eq_toNat_cond, if_pos (by omega)]
  split <;> omega
theorem i_and15 {x a : Int32} (e : x = a &&& 15) : x.toInt = a.toInt % 16 := by
  have h1 : x.toBitVec.toNat = a.toBitVec.toNat % 16 := by
    rw [e]
    show (a.toBitVec &&& 15#32).toNat = _
    rw [BitVec.toNat_and]
    exact Nat.and_two_pow_sub_one_eq_mod _ 4
  have h2 : x.toInt = x.toBitVec.toInt := rfl
  have h3 : a.toInt = a.toBitVec.toInt := rfl
  have h4 := a.toBitVec.isLt
  rw [h2, h3, BitVec.toInt_eq_toNat_cond, BitVec.toInt_eq_toNat_cond, if_pos (by omega)]
  split <;> omega
theorem s_mod {v : VV} {p : Int32} {Q : Int32 → VV → Prop} (k : ∀ x : Int32, x.toInt = p.toInt % 128 → Q x v) : w_X10_mod p v Q := by
  unfold w_X10_mod
  intro x ex
  exact k x (i_and127 ex)
