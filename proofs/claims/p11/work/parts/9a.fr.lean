/-! a fresh connection -/
def frz (a : Nat) : Bool := a == 830 || a == 831 || a == 838 || a == 839 || a == 840 || a == 841 || a == 843 || a == 844 || a == 846 || a == 847 || a == 851 || a == 852 || a == 854 || a == 858 || a == 861 || a == 819
def frs (a : Nat) : Bool := frz a || a == 818 || a == 821 || a == 824 || a == 848
def FRS (v w : VV) (e : Nat) (y : Int32) : Prop := (∀ a, frs a = false → w a = v a) ∧ w 818 = upd (v 818) e y ∧ (∀ a, frz a = true → w a = upd (v a) e 0) ∧ w 848 = cpR (v 848) (fun _ => -1) (128 * e) 128
theorem frz_l {a : Nat} (h : frz a = true) : a = 830 ∨ a = 831 ∨ a = 838 ∨ a = 839 ∨ a = 840 ∨ a = 841 ∨ a = 843 ∨ a = 844 ∨ a = 846 ∨ a = 847 ∨ a = 851 ∨ a = 852 ∨ a = 854 ∨ a = 858 ∨ a = 861 ∨ a = 819 := by
  simp [frz] at h
  omega
theorem FRS.mk {v U w : VV} {e : Nat} {y x m1 : Int32} (hU : U = up2 (up2 (up2 (up2 (up2 (up2 (up2 (up2 (up2 (up2 (up2 (up2 v 818 e y) 821 e m1) 830 e 0) 831 e 0) 838 e 0) 839 e 0) 840 e 0) 841 e 0) 843 e 0) 844 e 0) 846 e 0) 847 e 0) (hw : w = up2 (up2 (up2 (up2 (up2 (up2 (up2 (up1 U 848 (cpR (v 848) (fun _ => -1) (128 * e) 128)) 851 e 0) 852 e 0) 854 e 0) 858 e 0) 861 e 0) 819 e 0) 824 e x) : FRS v w e y := by
  refine ⟨fun a h => ?_, ?_, fun a h => ?_, ?_⟩
  · have ne : ∀ k, frs k = true → a ≠ k := fun k hk q => by rw [q, hk] at h; cases h
    rw [hw, up2_of _ _ _ _ (ne 824 rfl), up2_of _ _ _ _ (ne 819 rfl), up2_of _ _ _ _ (ne 861 rfl), up2_of _ _ _ _ (ne 858 rfl), up2_of _ _ _ _ (ne 854 rfl), up2_of _ _ _ _ (ne 852 rfl), up2_of _ _ _ _ (ne 851 rfl), up1_of _ _ (ne 848 rfl), hU, up2_of _ _ _ _ (ne 847 rfl), up2_of _ _ _ _ (ne 846 rfl), up2_of _ _ _ _ (ne 844 rfl), up2_of _ _ _ _ (ne 843 rfl), up2_of _ _ _ _ (ne 841 rfl), up2_of _ _ _ _ (ne 840 rfl), up2_of _ _ _ _ (ne 839 rfl), up2_of _ _ _ _ (ne 838 rfl), up2_of _ _ _ _ (ne 831 rfl), up2_of _ _ _ _ (ne 830 rfl), up2_of _ _ _ _ (ne 821 rfl), up2_of _ _ _ _ (ne 818 rfl)]
  · rw [hw, hU]; funext b; simp [up2, up1, upd]
  · rcases frz_l h with q | q | q | q | q | q | q | q | q | q | q | q | q | q | q | q <;> (rw [q, hw, hU]; funext b; simp [up2, up1, upd])
  · rw [hw]; funext b; simp [up2, up1]
theorem sl_fresh {v U : VV} {p1 y m1 : Int32} {e : Nat} {Q : VV → Prop} (he : p1.toInt = (e : Int)) (he2 : e < 2) (hU : U = up2 (up2 (up2 (up2 (up2 (up2 (up2 (up2 (up2 (up2 (up2 (up2 v 818 e y) 821 e m1) 830 e 0) 831 e 0) 838 e 0) 839 e 0) 840 e 0) 841 e 0) 843 e 0) 844 e 0) 846 e 0) 847 e 0) (k : ∀ w, FRS v w e y → Q w) : ∀ (m j : Nat) (a2 : Int32), 128 < m + j → j ≤ 128 → a2.toInt = (j : Int) → b_X10_fresh_108 p1 Q m p1 a2 (up1 U 848 (cpR (v 848) (fun _ => -1) (128 * e) j)) := by
  have l1 : Int32.toInt 1 = 1 := by decide
  have l128 : Int32.toInt 128 = 128 := by decide
  have t1 := tn_of (x := p1) (by omega)
  have u1 : p1.toNatClampNeg = e := by omega
  intro m
  induction m with
  | zero => intro j a2 h1 h2 h3; exfalso; omega
  | succ m ih =>
    intro j a2 h1 h2 h3
    refine ⟨fun q => ?_, fun q => ?_⟩
    · have q := i_le q
      have ej : j = 128 := by omega
      subst ej
      refine ⟨in_of (by omega) (by omega), ?_⟩
      intro v1 e1
      refine ⟨in_of (by omega) (by omega), ?_⟩
      intro v3 e3
      refine ⟨in_of (by omega) (by omega), ?_⟩
      intro v5 e5
      refine ⟨in_of (by omega) (by omega), ?_⟩
      intro v7 e7
      refine ⟨in_of (by omega) (by omega), ?_⟩
      intro v9 e9
      refine ⟨in_of (by omega) (by omega), ?_⟩
      intro v11 e11 x182 e182
      refine ⟨in_of (by omega) (by omega), ?_⟩
      intro v13 e13
      exact k v13 (FRS.mk hU (by rw [e13, e11, e9, e7, e5, e3, e1, u1]))
    · have q := i_nle q
      intro x123 e123 x125 e125
      have i123 := i_mul e123 (by rw [l128]; omega) (by rw [l128]; omega)
      rw [l128] at i123
      have i125 := i_add e125 (by omega) (by omega)
      refine ⟨in_of (by omega) (by omega), ?_⟩
      intro v15 e15 x128 e128
      have i128 := i_add e128 (by omega) (by omega)
      have t125 := tn_of (x := x125) (by omega)
      have u125 : x125.toNatClampNeg = 128 * e + j := by omega
      have hv : v15 = up1 U 848 (cpR (v 848) (fun _ => -1) (128 * e) (j + 1)) := by
        rw [e15, u125, ← cpR_s]
        funext a b
        simp only [up2, up1, upd]
        by_cases q1 : a = 848
        · by_cases q2 : b = 128 * e + j
          · simp [q1, q2]
          · simp [q1, q2]
        · simp [q1]
      rw [hv]
      exact ih (j + 1) x128 (by omega) (by omega) (by omega)
theorem s_fresh {v : VV} {p1 : Int32} {e : Nat} {Q : VV → Prop} (he : p1.toInt = (e : Int)) (he2 : e < 2) (hr : 0 ≤ (v 818 e).toInt ∧ (v 818 e).toInt ≤ 60000) (k : ∀ (w : VV) (y : Int32), y.toInt = (v 818 e).toInt + 1 → FRS v w e y → Q w) : w_X10_fresh p1 v Q := by
  have l1 : Int32.toInt 1 = 1 := by decide
  have l65535 : Int32.toInt 65535 = 65535 := by decide
  have t1 := tn_of (x := p1) (by omega)
  have u1 : p1.toNatClampNeg = e := by omega
  unfold w_X10_fresh
  refine ⟨in_of (by omega) (by omega), ?_⟩
  intro x10 e10
  rw [u1] at e10
  have i10 := i_eq e10
  refine ⟨fun _ => ?_, fun q => ?_⟩
  · refine ⟨in_of (by omega) (by omega), ?_⟩
    intro x25 e25 x27 e27
    rw [u1] at e25
    have i25 := i_eq e25
    have i27 := i_add e27 (by omega) (by omega)
    unfold b_X10_fresh_28
    refine ⟨in_of (by omega) (by omega), ?_⟩
    intro v1 e1
    refine ⟨in_of (by omega) (by omega), ?_⟩
    intro v3 e3
    refine ⟨in_of (by omega) (by omega), ?_⟩
    intro v5 e5
    refine ⟨in_of (by omega) (by omega), ?_⟩
    intro v7 e7
    refine ⟨in_of (by omega) (by omega), ?_⟩
    intro v9 e9
    refine ⟨in_of (by omega) (by omega), ?_⟩
    intro v11 e11
    refine ⟨in_of (by omega) (by omega), ?_⟩
    intro v13 e13
    refine ⟨in_of (by omega) (by omega), ?_⟩
    intro v15 e15
    refine ⟨in_of (by omega) (by omega), ?_⟩
    intro v17 e17
    refine ⟨in_of (by omega) (by omega), ?_⟩
    intro v19 e19
    refine ⟨in_of (by omega) (by omega), ?_⟩
    intro v21 e21
    refine ⟨in_of (by omega) (by omega), ?_⟩
    intro v23 e23
    have hU : v23 = up2 (up2 (up2 (up2 (up2 (up2 (up2 (up2 (up2 (up2 (up2 (up2 v 818 e x27) 821 e (-1)) 830 e 0) 831 e 0) 838 e 0) 839 e 0) 840 e 0) 841 e 0) 843 e 0) 844 e 0) 846 e 0) 847 e 0 := by rw [e23, e21, e19, e17, e15, e13, e11, e9, e7, e5, e3, e1, u1]
    have q := sl_fresh (Q := Q) he he2 hU (fun w hw => k w x27 (by omega) hw) 200 0 0 (by omega) (by omega) (by decide)
    rw [cpR_0] at q
    have e2 : up1 v23 848 (v 848) = v23 := by
      funext a b
      by_cases q : a = 848
      · rw [q, hU]; simp [up1, up2]
      · rw [up1_of _ _ q]
    rw [e2] at q
    exact ⟨200, q⟩
  · have q := i_eq q
    exfalso
    omega
def gF (g : Nat → Int → Int) (e f : Nat) (m : Int) : Nat → Int → Int := fun j => if j = e ∨ j = e + 2 then (fun _ => 0) else if j = 4 + e ∨ j = 4 + (e + 2) then (fun _ => -1) else if j = 8 + f ∨ j = 12 + f ∨ j = 8 + (f + 2) ∨ j = 12 + (f + 2) then (fun _ => 0) else if j = 16 + e then (fun _ => m) else g j
section IM
variable {g g' c c' : Nat → Int → Int} {d0 d1 d2 L M κ om : Int} {v v1 z : VV}
theorem gF_H {e f j : Nat} {m : Int} (h : j = e ∨ j = e + 2) : gF g e f m j = fun _ => 0 := by unfold gF; rw [if_pos h]
theorem gF_K {e f j : Nat} {m : Int} (hef : EF e f) (h : j = 4 + e ∨ j = 4 + (e + 2)) : gF g e f m j = fun _ => -1 := by unfold gF; rw [if_neg (by omega), if_pos h]
theorem gF_N {e f j : Nat} {m : Int} (hef : EF e f) (h : j = 8 + f ∨ j = 12 + f ∨ j = 8 + (f + 2) ∨ j = 12 + (f + 2)) : gF g e f m j = fun _ => 0 := by unfold gF; rw [if_neg (by omega), if_neg (by omega), if_pos h]
theorem gF_P {e f : Nat} {m : Int} (hef : EF e f) : gF g e f m (16 + e) = fun _ => m := by unfold gF; rw [if_neg (by omega), if_neg (by omega), if_neg (by omega), if_pos rfl]
theorem gF_o {e f j : Nat} {m : Int} (h1 : j ≠ e ∧ j ≠ e + 2 ∧ j ≠ 4 + e ∧ j ≠ 4 + (e + 2) ∧ j ≠ 8 + f ∧ j ≠ 12 + f ∧ j ≠ 8 + (f + 2) ∧ j ≠ 12 + (f + 2) ∧ j ≠ 16 + e) : gF g e f m j = g j := by unfold gF; rw [if_neg (by omega), if_neg (by omega), if_neg (by omega), if_neg (by omega)]
theorem Im.fresh {e f : Nat} {σ b pr al y : Int32} {m M1 κ1 : Int} (h : Im g c d0 d1 d2 L M κ om v) (hef : EF e f) (hκ : κ ≤ 12) (hst : (v 817 e).toInt = 0) (R : ∀ a, frs a = false → a ≠ 817 → a ≠ 820 → z a = v a) (R817 : z 817 = upd (v 817) e σ) (R820 : z 820 = upd (v 820) e b) (R818 : z 818 = upd (v 818) e y) (R819 : z 819 = upd (v 819) e pr) (R840 : z 840 = upd (v 840) e al) (Rz : ∀ a, frz a = true → a ≠ 819 → a ≠ 840 → z a = upd (v a) e 0) (R848 : z 848 = cpR (v 848) (fun _ => -1) (128 * e) 128) (hy : y.toInt = (v 818 e).toInt + 1) (hpr : 0 ≤ pr.toInt ∧ pr.toInt ≤ 65535) (hal : 0 ≤ al.toInt ∧ al.toInt ≤ 6) (hσ : σ.toInt = 1 ∨ (σ.toInt = 2 ∧ 1 ≤ m ∧ m ≤ (v 818 f).toInt ∧ nr (pr.toInt / 256) (pr.toInt % 256) m ∧ (m = (v 818 f).toInt → g (4 + f) 0 ≤ 20 ∧ g (4 + (f + 2)) 0 ≤ 20))) (hM : M ≤ M1 ∧ κ ≤ κ1 ∧ M1 ≤ 12144 ∧ (σ.toInt = 1 → 24 * ((v 818 e).toInt + 1) ≤ M1 + κ1) ∧ (σ.toInt = 2 → 24 * ((v 818 e).toInt + 1) ≤ M1 + 24)) : Im (gF g e f m) c d0 d1 d2 L M1 κ1 om z := by
  obtain ⟨⟨a1, a2, a3, a4⟩, hE, hF, hN0⟩ := h
  have hfe : EF f e := by omega
  obtain ⟨sE, rE, cE, tE, uE⟩ := hE e f hef
  obtain ⟨sF, rF, cF, tF, uF⟩ := hE f e hfe
  have e816 : z 816 = v 816 := R 816 rfl (by decide) (by decide)
  have e0 : z 816 0 = v 816 0 := by rw [e816]
  have l0 : Int32.toInt 0 = 0 := by decide
  have ef : z 817 f = v 817 f := by rw [R817, upd_n (by omega)]
  have ee : z 817 e = σ := by rw [R817, upd_s]
  have re : z 818 e = y := by rw [R818, upd_s]
  have rf : z 818 f = v 818 f := by rw [R818, upd_n (by omega)]
  have Z : ∀ a, frz a = true → a ≠ 819 → a ≠ 840 → z a e = 0 := fun a q1 q2 q3 => by rw [Rz a q1 q2 q3, upd_s]
  have Zf : ∀ a, frz a = true → a ≠ 819 → a ≠ 840 → z a f = v a f := fun a q1 q2 q3 => by rw [Rz a q1 q2 q3, upd_n (by omega)]
  have Pf : (v 817 f).toInt = 2 → g (16 + f) 0 ≤ (v 818 e).toInt := fun q => (cF.2.2.2.1 q).2.1
  have bE := sE.bk
  have bke : bnk z e = 0 := by
    unfold bnk
    rw [Z 830 rfl (by decide) (by decide), Z 831 rfl (by decide) (by decide), Z 841 rfl (by decide) (by decide), Z 844 rfl (by decide) (by decide), l0, if_pos rfl]
    rfl
  have bkf : bnk z f = bnk v f := by
    unfold bnk
    rw [Zf 830 rfl (by decide) (by decide), Zf 831 rfl (by decide) (by decide), Zf 841 rfl (by decide) (by decide), Zf 844 rfl (by decide) (by decide)]
  have bk2 : bnk z 0 + bnk z 1 ≤ bnk v 0 + bnk v 1 := by
    rcases hef with ⟨rfl, rfl⟩ | ⟨rfl, rfl⟩ <;> omega
  have pc := hN0.2.1.2.2.2.1 (v 816 0).toInt
  refine ⟨⟨?_, a2.cg (R _ rfl (by decide) (by decide)) (R _ rfl (by decide) (by decide)) (R _ rfl (by decide) (by decide)) (R _ rfl (by decide) (by decide)) (R _ rfl (by decide) (by decide)) (R _ rfl (by decide) (by decide)), ?_, hM.2.2.1⟩, ?_, ?_, ?_⟩
  · unfold iSc; rw [e816, R 869 rfl (by decide) (by decide)]; exact a1
  · unfold iFa; rw [e816, R 864 rfl (by decide) (by decide), R 866 rfl (by decide) (by decide), R 867 rfl (by decide) (by decide)]; exact a3
  · intro p q hpq
    have hp : (p = e ∧ q = f) ∨ (p = f ∧ q = e) := by omega
    rcases hp with ⟨rfl, rfl⟩ | ⟨rfl, rfl⟩
    · refine ⟨?_, ?_, ?_, ?_, ?_⟩
      · unfold iS
        rw [gF_N hef (by omega), gF_N (j := 12 + q) hef (by omega), gF_N (j := 8 + (q + 2)) hef (by omega), gF_N (j := 12 + (q + 2)) hef (by omega), Z 830 rfl (by decide) (by decide), Z 831 rfl (by decide) (by decide), Z 838 rfl (by decide) (by decide), Z 839 rfl (by decide) (by decide), R840, upd_s, Z 841 rfl (by decide) (by decide), Z 843 rfl (by decide) (by decide), Z 844 rfl (by decide) (by decide), l0, if_pos rfl]
        exact ⟨by decide, by decide, hal, fun k hk => absurd hk (by omega), fun k hk => absurd hk (by omega), by decide, by decide, by decide, by decide, fun _ => rfl⟩
      · unfold iR
        rw [gF_H (Or.inl rfl), gF_H (j := p + 2) (Or.inr rfl), gF_K hef (Or.inl rfl), Z 846 rfl (by decide) (by decide), Z 847 rfl (by decide) (by decide), Z 851 rfl (by decide) (by decide), Z 852 rfl (by decide) (by decide), Z 854 rfl (by decide) (by decide), Z 858 rfl (by decide) (by decide), Z 861 rfl (by decide) (by decide), l0, R 859 rfl (by decide) (by decide)]
        refine ⟨show (0 : Int) = 0 % 128 ∧ (0 : Int) = 0 % 128 by decide, fun k hk => ?_, show (0 : Int) ≤ 0 ∧ (0 : Int) ≤ 8 * 0 ∧ (0 : Int) ≤ 0 ∧ (0 : Int) ≤ 0 by decide, by decide, fun k hk => absurd hk (by omega), rfl, show (0 : Int) ≤ 520 by decide, rE.2.2.2.2.2.2.2.1, show (0 : Int) ≤ 0 ∧ (0 : Int) ≤ 0 by decide⟩
        rw [R848]
        unfold cpR
        rw [if_pos (by omega)]
        exact ⟨show Int32.toInt (-1) ≤ 8 by decide, fun q => absurd (show 0 ≤ Int32.toInt (-1) from q) (by decide)⟩
      · unfold iC
        obtain ⟨c1, c2, c3, c4, c5, c6, c7, c8⟩ := cE
        rw [e0, ee, re, rf, R819, upd_s, R 822 rfl (by decide) (by decide), gF_H (Or.inl rfl), gF_H (j := p + 2) (Or.inr rfl), gF_N (j := 8 + q) hef (by omega), gF_N (j := 8 + (q + 2)) hef (by omega), gF_P hef]
        refine ⟨by omega, hpr, ⟨by omega, fun _ => by omega⟩, fun q => ?_, fun _ => ⟨rfl, rfl, rfl, rfl⟩, c6, ?_, ?_⟩
        · rcases hσ with k | k
          · omega
          · exact ⟨k.2.1, k.2.2.1, k.2.2.2.1⟩
        · intro q
          exfalso
          rw [R 825 rfl (by decide) (by decide)] at q
          have := (c7 q).2.2.2
          omega
        · refine ⟨fun _ => by omega, fun k => ?_, fun k => ?_, fun _ => by omega⟩
          · have := hM.2.2.2.1 k; omega
          · have := hM.2.2.2.2 (by omega); omega
      · unfold iT
        rw [e0, ef, re, gF_H (Or.inl rfl), gF_K hef (Or.inl rfl), gF_o (j := 8 + p) (by omega), gF_o (j := 12 + p) (by omega), gF_o (j := 16 + q) (by omega)]
        exact ⟨tE.1.zero.wk (fun k => by have := Pf k.1; omega), tE.2.1, show (-1 : Int) ≤ _ by omega⟩
      · unfold iT
        rw [e0, ef, re, gF_H (Or.inr rfl), gF_K (j := 4 + (p + 2)) hef (Or.inr rfl), gF_o (j := 8 + (p + 2)) (by omega), gF_o (j := 12 + (p + 2)) (by omega), gF_o (j := 16 + q) (by omega)]
        exact ⟨uE.1.zero.wk (fun k => by have := Pf k.1; omega), uE.2.1, show (-1 : Int) ≤ _ by omega⟩
    · refine ⟨?_, ?_, ?_, ?_, ?_⟩
      · refine iS.one (fun k => ⟨Zf 830 rfl (by decide) (by decide), Zf 831 rfl (by decide) (by decide), Zf 838 rfl (by decide) (by decide), Zf 839 rfl (by decide) (by decide), by rw [R840, upd_n (by omega)], Zf 841 rfl (by decide) (by decide), Zf 843 rfl (by decide) (by decide), Zf 844 rfl (by decide) (by decide), fun _ => ⟨by rw [R 832 rfl (by decide) (by decide)], by rw [R 834 rfl (by decide) (by decide)]⟩⟩) ⟨by rw [gF_o (by omega)], by rw [gF_o (by omega)], by rw [gF_o (by omega)], by rw [gF_o (by omega)]⟩ sF
      · refine (rF.one e0 (fun k => ⟨Zf 846 rfl (by decide) (by decide), Zf 847 rfl (by decide) (by decide), Zf 851 rfl (by decide) (by decide), Zf 852 rfl (by decide) (by decide), Zf 854 rfl (by decide) (by decide), Zf 858 rfl (by decide) (by decide), by rw [R 859 rfl (by decide) (by decide)], Zf 861 rfl (by decide) (by decide), fun hk => ?_, fun _ => ⟨by rw [R 855 rfl (by decide) (by decide)], by rw [R 856 rfl (by decide) (by decide)]⟩⟩)).gg (gF_o (by omega)) (gF_o (by omega)) (gF_o (by omega))
        rw [R848]; unfold cpR; rw [if_neg (by omega)]
      · exact cF.one e0 (fun i => ⟨ef, rf, by rw [R819, upd_n (by omega)], by rw [R820, upd_n (by omega)], by rw [R 822 rfl (by decide) (by decide)], by rw [R 825 rfl (by decide) (by decide)], by rw [R 829 rfl (by decide) (by decide)], fun _ => by rw [R 828 rfl (by decide) (by decide)]⟩) (by rw [re]; omega) ⟨gF_o (by omega), gF_o (by omega), gF_o (by omega), gF_o (by omega), gF_o (by omega)⟩ hM.1 hM.2.1
      · unfold iT
        rw [e0, ee, rf, gF_o (j := p) (by omega), gF_o (j := 4 + p) (by omega), gF_N hef (by omega), gF_N (j := 12 + p) hef (by omega), gF_P hef]
        refine ⟨tF.1.new.link (fun k => ?_), show (0 : Int) ≤ _ by omega, tF.2.2⟩
        rcases hσ with k2 | k2
        · omega
        · exact (k2.2.2.2.2 k.2).1
      · unfold iT
        rw [e0, ee, rf, gF_o (j := p + 2) (by omega), gF_o (j := 4 + (p + 2)) (by omega), gF_N (j := 8 + (p + 2)) hef (by omega), gF_N (j := 12 + (p + 2)) hef (by omega), gF_P hef]
        refine ⟨uF.1.new.link (fun k => ?_), show (0 : Int) ≤ _ by omega, uF.2.2⟩
        rcases hσ with k2 | k2
        · omega
        · exact (k2.2.2.2.2 k.2).2
  · intro u hu1 hu2
    rw [e816] at hu1 hu2
    refine (hF u hu1 hu2).mp (by rw [R 869 rfl (by decide) (by decide)]) (by rw [R 870 rfl (by decide) (by decide)]) (by rw [R 871 rfl (by decide) (by decide)]) (fun i hi => by rw [R 868 rfl (by decide) (by decide)]) (fun s hs => hs) rfl rfl (fun R0 S0 hRS f0 z0 s es hcs hk hU => ?_)
    by_cases eS : S0 = e
    · have eR : R0 = f := by omega
      subst eS eR
      have nck : ¬ ck (f0 1) := fun q => (hk q).1 hst
      refine ⟨?_, fun q => absurd q nck⟩
      rw [re, rf, hy]
      refine hU.mp rfl rfl (fun _ q => ?_) (fun q => absurd q nck) (fun q => absurd q nck) (fun q => absurd q nck) (fun q => absurd q nck)
      obtain ⟨mm, q1, q2, q3, q4⟩ := q
      exact ⟨mm, q1, by omega, q3, fun k => by omega⟩
    · have eS : S0 = f := by omega
      have eR : R0 = e := by omega
      subst eS eR
      rw [re, rf, ef, R 822 rfl (by decide) (by decide), hy]
      refine ⟨hU.mp rfl rfl (fun _ q => ?_) (fun _ q => ?_) (fun _ q => ?_) (fun _ q => ?_) (fun _ q => ?_), hk⟩
      · unfold uFrom at q ⊢; rw [gF_o (j := S0) (by omega), gF_o (j := S0 + 2) (by omega)]; exact q
      · unfold uRec at q ⊢; rw [gF_o (j := S0) (by omega)]; exact q
      · unfold uRec at q ⊢; rw [gF_o (j := S0 + 2) (by omega)]; exact q
      · obtain ⟨a, l, mm, q1, q2, q3, q4, q5, q6⟩ := q
        exact ⟨a, l, mm, q1, q2, q3, by omega, q5, q6.1, by rw [gF_o (j := 8 + R0) (by omega)]; exact q6.2.1, fun k => by omega⟩
      · obtain ⟨a, l, mm, q1, q2, q3, q4, q5, q6⟩ := q
        exact ⟨a, l, mm, q1, q2, q3, by omega, q5, q6.1, by rw [gF_o (j := 8 + (R0 + 2)) (by omega)]; exact q6.2.1, fun k => by omega⟩
  · obtain ⟨n1, n2, n3, n4, n5, n6, n7, n8⟩ := hN0
    unfold iN
    rw [e816]
    exact ⟨n1, n2, n3, n4, n5, n6, by omega, n8⟩
end IM
