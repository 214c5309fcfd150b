/-! the two objects beside each other, and at their beginning -/
theorem J_far {n : Int32} {w0 v w : VV} (h : Jc n w0 v) (hw : ∀ a, a < 816 → w a = v a) : Jc n w w := by
  refine ⟨fun _ _ => rfl, by rw [hw 1 (by decide)]; exact h.2.1, fun o ho he => ?_⟩
  exact ok1_congr rfl ho (fun k _ => by rw [hw o ho]) (fun a hd => hw a (by have := dep_lt ho hd; omega)) (h.2.2 o ho he)
section IM
variable {g g' c c' : Nat → Int → Int} {d0 d1 d2 L M κ om : Int} {v v1 z : VV}
theorem Im.far (h : Im g c d0 d1 d2 L M κ om v) (R : ∀ a, 816 ≤ a → v1 a = v a) : Im g c d0 d1 d2 L M κ om v1 := by
  obtain ⟨⟨a1, a2, a3, a4⟩, hE, hF, hN⟩ := h
  have e816 := R 816 (by decide)
  have e0 : v1 816 0 = v 816 0 := by rw [e816]
  refine ⟨⟨?_, a2.cg (R _ (by decide)) (R _ (by decide)) (R _ (by decide)) (R _ (by decide)) (R _ (by decide)) (R _ (by decide)), ?_, a4⟩, fun p q hpq => ?_, fun u hu1 hu2 => ?_, ?_⟩
  · unfold iSc; rw [e816, R 869 (by decide)]; exact a1
  · unfold iFa; rw [e816, R 864 (by decide), R 866 (by decide), R 867 (by decide)]; exact a3
  · obtain ⟨b1, b2, b3, b4, b5⟩ := hE p q hpq
    exact ⟨b1.cg (R _ (by decide)) (R _ (by decide)) (R _ (by decide)) (R _ (by decide)) (R _ (by decide)) (R _ (by decide)) (R _ (by decide)) (R _ (by decide)) (R _ (by decide)) (R _ (by decide)), b2.cg e0 (R _ (by decide)) (R _ (by decide)) (R _ (by decide)) (R _ (by decide)) (R _ (by decide)) (R _ (by decide)) (R _ (by decide)) (R _ (by decide)) (R _ (by decide)) (R _ (by decide)) (R _ (by decide)), b3.cg e0 (R _ (by decide)) (R _ (by decide)) (R _ (by decide)) (R _ (by decide)) (R _ (by decide)) (R _ (by decide)) (R _ (by decide)) (R _ (by decide)), b4.cg e0 (R _ (by decide)) (R _ (by decide)) rfl, b5.cg e0 (R _ (by decide)) (R _ (by decide)) rfl⟩
  · rw [e816] at hu1 hu2
    exact (hF u hu1 hu2).cg (R _ (by decide)) (R _ (by decide)) (R _ (by decide)) (R _ (by decide)) (R _ (by decide)) (R _ (by decide)) (R _ (by decide))
  · unfold iN
    rw [e816, bnk.cg (R _ (by decide)) (R _ (by decide)) (R _ (by decide)) (R _ (by decide)), bnk.cg (R _ (by decide)) (R _ (by decide)) (R _ (by decide)) (R _ (by decide))]
    exact hN
theorem IA.far {C : Int} {n : Int32} (h : IA C n v) (R : ∀ a, 816 ≤ a → v1 a = v a) : IA C n v1 := by
  obtain ⟨g, c, e0, e1, e2, h1, h2, h3⟩ := h
  exact ⟨g, c, e0, e1, e2, h1.far R, by rw [R 816 (by decide)]; exact h2, h3⟩
end IM
theorem J_first {v : VV} (hf : Fc v) : Jc 0 v v := by
  have hz : ∀ a, a < 816 → kd a ≠ 0 → v a = z0 := fun a h1 h2 => (hf a h1).trans (iv_n h1 h2)
  refine ⟨fun _ _ => rfl, by rw [hz 1 (by decide) (by decide)]; rfl, fun o ho _ => ?_⟩
  have hd : ∀ c, kd o = c → ok1 c o v := by
    intro c hc
    by_cases h0 : c = 0
    · subst h0
      show v o 0 = 0 ∨ v o 0 = 1
      rw [hf o ho]
      unfold iv
      rw [if_pos hc, if_neg (by decide)]
      split
      · exact Or.inr rfl
      · exact Or.inl rfl
    · have ho0 := hz o ho (by rw [hc]; exact h0)
      match c, hc, h0 with
      | 0, _, h0 => exact absurd rfl h0
      | 1, hc, _ =>
        have h5 : v (o + 10) = z0 ∧ v (o + 14) = z0 := by
          rcases kd1 o ho hc with e | e
          · subst e; exact ⟨hz _ (by decide) (by decide), hz _ (by decide) (by decide)⟩
          · subst e; exact ⟨hz _ (by decide) (by decide), hz _ (by decide) (by decide)⟩
        simp only [ok1]
        rw [ho0, h5.1, h5.2]
        exact ⟨by decide, fun i _ => by show 0 ≤ Int32.toInt 0 ∧ Int32.toInt 0 ≤ 8; decide, fun i _ => by show 0 ≤ Int32.toInt 0; decide, by decide⟩
      | 2, hc, _ =>
        have e := kd2 o ho hc
        subst e
        simp only [ok1]
        rw [ho0]
        exact ⟨by decide, fun i hi => absurd hi (by show ¬ (i : Int) < Int32.toInt 0; rw [show Int32.toInt 0 = 0 from by decide]; omega)⟩
      | 3, _, _ => simp only [ok1]; rw [ho0]; decide
      | 4, _, _ => simp only [ok1]; rw [ho0]; decide
      | 5, _, _ => simp only [ok1]; rw [ho0]; decide
      | 6, _, _ => simp only [ok1]; rw [ho0]; decide
      | 7, _, _ => simp only [ok1]; rw [ho0]; decide
      | 8, _, _ => trivial
      | 9, _, _ => simp only [ok1]; rw [ho0]; decide
      | k + 10, _, _ => trivial
  exact hd _ rfl
def gI0 : Nat → Int → Int := fun j _ => if 4 ≤ j ∧ j < 8 then -1 else 0
theorem gI0_k {j : Nat} {a : Int} (h : 4 ≤ j ∧ j < 8) : gI0 j a = -1 := by unfold gI0; rw [if_pos h]
theorem gI0_o {j : Nat} {a : Int} (h : j < 4 ∨ 8 ≤ j) : gI0 j a = 0 := by unfold gI0; rw [if_neg (by omega)]
theorem gI0_f {j : Nat} (h : j < 4 ∨ 8 ≤ j) : gI0 j = fun _ => 0 := by funext a; exact gI0_o h
theorem IA_first {v : VV} (hm : Fm v) : IA 0 0 v := by
  have hz : ∀ a, 816 ≤ a → a < 874 → a ≠ 821 → a ≠ 859 → a ≠ 848 → v a = z0 := fun a h1 h2 h3 h4 h5 => (hm a h1 h2).trans (iv_m ⟨h1, h2⟩ h3 h4 h5)
  have Z : ∀ a k, 816 ≤ a → a < 874 → a ≠ 821 → a ≠ 859 → a ≠ 848 → (v a k).toInt = 0 := fun a k h1 h2 h3 h4 h5 => by rw [hz a h1 h2 h3 h4 h5]; rfl
  have n0 : v 816 0 = 0 := by rw [hz 816 (by decide) (by decide) (by decide) (by decide) (by decide)]; rfl
  have bz : ∀ a k, 816 ≤ a → a < 874 → a ≠ 821 → a ≠ 859 → a ≠ 848 → byt (v a k) := fun a k h1 h2 h3 h4 h5 => by rw [hz a h1 h2 h3 h4 h5]; show byt 0; decide
  have k848 : ∀ k, k < 256 → (v 848 k).toInt = -1 := fun k hk => by
    rw [hm 848 (by decide) (by decide)]
    unfold iv
    rw [if_neg (by decide), if_neg (by omega), if_neg (by omega), if_pos ⟨rfl, hk⟩]
    decide
  have k859 : ∀ k, (v 859 k).toInt ≤ 4096 := fun k => by
    rw [hm 859 (by decide) (by decide)]
    unfold iv
    rw [if_neg (by decide), if_neg (by omega)]
    by_cases q : k < 2
    · rw [if_pos ⟨rfl, q⟩]; decide
    · rw [if_neg (by omega), if_neg (by omega)]; decide
  have b0 : ∀ e, bnk v e = 0 := fun e => by
    unfold bnk
    rw [Z 830 e (by decide) (by decide) (by decide) (by decide) (by decide), Z 831 e (by decide) (by decide) (by decide) (by decide) (by decide), Z 841 e (by decide) (by decide) (by decide) (by decide) (by decide), Z 844 e (by decide) (by decide) (by decide) (by decide) (by decide), if_pos rfl]
    rfl
  have W : ∀ k, (v 816 k).toInt = 0 := fun k => Z 816 k (by decide) (by decide) (by decide) (by decide) (by decide)
  refine ⟨gI0, fun _ _ => 0, 0, 0, 0, ⟨⟨?_, fun k => ⟨bz _ k (by decide) (by decide) (by decide) (by decide) (by decide), bz _ k (by decide) (by decide) (by decide) (by decide) (by decide), bz _ k (by decide) (by decide) (by decide) (by decide) (by decide), bz _ k (by decide) (by decide) (by decide) (by decide) (by decide), bz _ k (by decide) (by decide) (by decide) (by decide) (by decide), bz _ k (by decide) (by decide) (by decide) (by decide) (by decide)⟩, ?_, by decide⟩, ?_, ?_, ?_⟩, n0, by decide⟩
  · unfold iSc
    rw [W, W, W]
    exact ⟨by decide, by decide, by decide, by decide, fun k => by rw [Z 869 k (by decide) (by decide) (by decide) (by decide) (by decide)]; decide⟩
  · intro k hk
    rw [W] at hk
    omega
  · intro e f hef
    have T : ∀ i R S, i < 4 → iT gI0 (fun _ _ => 0) i R S v := fun i R S hi => by
      unfold iT
      rw [W, gI0_f (j := i) (by omega), gI0_k (j := 4 + i) (by omega), gI0_o (j := 8 + i) (by omega), gI0_o (j := 12 + i) (by omega), Z 817 S (by decide) (by decide) (by decide) (by decide) (by decide)]
      exact ⟨St.init.wk (fun q => by have := q.1; omega), Int.le_refl _, show (-1 : Int) ≤ 0 by decide⟩
    refine ⟨?_, ?_, ?_, T e e f (by omega), T (e + 2) e f (by omega)⟩
    · unfold iS
      rw [gI0_o (j := 8 + f) (by omega), gI0_o (j := 12 + f) (by omega), gI0_o (j := 8 + (f + 2)) (by omega), gI0_o (j := 12 + (f + 2)) (by omega), Z 830 e (by decide) (by decide) (by decide) (by decide) (by decide), Z 831 e (by decide) (by decide) (by decide) (by decide) (by decide), Z 838 e (by decide) (by decide) (by decide) (by decide) (by decide), Z 839 e (by decide) (by decide) (by decide) (by decide) (by decide), Z 840 e (by decide) (by decide) (by decide) (by decide) (by decide), Z 841 e (by decide) (by decide) (by decide) (by decide) (by decide), Z 843 e (by decide) (by decide) (by decide) (by decide) (by decide), Z 844 e (by decide) (by decide) (by decide) (by decide) (by decide), if_pos rfl]
      exact ⟨by decide, by decide, by decide, fun k hk => absurd hk (by omega), fun k hk => absurd hk (by omega), by decide, by decide, by decide, by decide, fun _ => rfl⟩
    · unfold iR
      rw [W, gI0_o (j := e) (by omega), gI0_o (j := e + 2) (by omega), Z 846 e (by decide) (by decide) (by decide) (by decide) (by decide), Z 847 e (by decide) (by decide) (by decide) (by decide) (by decide), Z 851 e (by decide) (by decide) (by decide) (by decide) (by decide), Z 852 e (by decide) (by decide) (by decide) (by decide) (by decide), Z 854 e (by decide) (by decide) (by decide) (by decide) (by decide), Z 858 e (by decide) (by decide) (by decide) (by decide) (by decide), Z 861 e (by decide) (by decide) (by decide) (by decide) (by decide)]
      refine ⟨by decide, fun k hk => ?_, by decide, by decide, fun k hk => absurd hk (by omega), rfl, show (0 : Int) ≤ 520 by decide, k859 e, by decide⟩
      rw [k848 _ (by omega)]
      exact ⟨by decide, fun q => absurd q (by decide)⟩
    · unfold iC
      rw [W, Z 817 e (by decide) (by decide) (by decide) (by decide) (by decide), Z 818 e (by decide) (by decide) (by decide) (by decide) (by decide), Z 819 e (by decide) (by decide) (by decide) (by decide) (by decide), Z 822 e (by decide) (by decide) (by decide) (by decide) (by decide)]
      refine ⟨by decide, by decide, ⟨by decide, fun q => absurd rfl q⟩, fun q => absurd q (by decide), fun q => absurd q (by decide), by decide, ?_, fun _ => by decide, fun q => absurd q (by decide), fun q => absurd q (by decide), fun q => absurd q (by decide)⟩
      intro q
      rw [Z 825 e (by decide) (by decide) (by decide) (by decide) (by decide)] at q
      exact absurd rfl q
  · intro u h1 h2
    rw [W] at h2
    omega
  · unfold iN
    rw [W, W, W, W, b0, b0]
    refine ⟨⟨fun _ _ _ => Int.le_refl _, fun _ _ => rfl, fun _ => Int.le_refl _, fun _ _ _ => ⟨Int.le_refl _, Int.le_refl _⟩⟩, ⟨fun _ _ _ => Int.le_refl _, fun _ _ _ => Int.le_refl _, fun _ _ _ => Int.le_refl _, fun _ => ⟨Int.le_refl _, Int.le_refl _, Int.le_refl _⟩, fun _ _ => ⟨rfl, rfl, rfl⟩⟩, fun a _ => ?_, fun a _ => ?_, fun a _ => ?_, by decide, by decide, by decide⟩
    · have : (if a = (0 : Int) then (0 : Int) else 0) = 0 := by split <;> rfl
      rw [this]
      show (0 : Int) - 0 + 0 ≤ 2 + 0 - 0
      decide
    · have : (if a = (0 : Int) then (0 : Int) else 0) = 0 := by split <;> rfl
      rw [this]
      show (0 : Int) - 0 + 0 ≤ 0 - 0 + 78 + 0 - 0
      decide
    · have : (if a = (0 : Int) then (0 : Int) else 0) = 0 := by split <;> rfl
      rw [this]
      show ((0 : Int) - 0 - 0) - (0 - 0 - 0) + 0 ≤ 0 - 0 + 62 + 0 - 0
      decide
