/-! the hour moves -/
section IM
variable {g g' c c' : Nat → Int → Int} {d0 d1 d2 L M κ om : Int} {v v1 z : VV}
theorem Im.mon {L' M' κ' : Int} (h : Im g c d0 d1 d2 L M κ om v) (hM : M ≤ M') (hκ : M + κ ≤ M' + κ') (hL : L ≤ L' ∧ L' ≤ 512) (hM2 : M' ≤ 12144) : Im g c d0 d1 d2 L' M' κ' om v := by
  obtain ⟨⟨a1, a2, a3, a4⟩, hE, hF, n1, n2, n3, n4, n5, n6, n7, n8⟩ := h
  refine ⟨⟨a1, a2, a3, hM2⟩, fun p q hpq => ?_, hF, n1, n2, n3, n4, n5, n6, by omega, n8⟩
  obtain ⟨b1, b2, b3, b4, b5⟩ := hE p q hpq
  obtain ⟨c1, c2, c3, c4, c5, c6, c7, c8⟩ := b3
  exact ⟨b1, b2, ⟨c1, c2, c3, c4, c5, c6, c7, fun q => by have := c8.1 q; omega, fun q => by have := c8.2.1 q; omega, fun q => by have := c8.2.2.1 q; omega, fun q => by have := c8.2.2.2 q; omega⟩, b4, b5⟩
theorem Im.tick {x : Int32} (h : Im g c d0 d1 d2 L M κ 8 v) (hx : x.toInt = (v 816 0).toInt + 1) (hn : (v 816 0).toInt + 1 ≤ 3000) (hM : M + 2 ≤ 12144) : Im g c (62 + (c 1 (c 0 ((v 816 0).toInt - 1)) - c 1 (c 0 ((v 816 0).toInt - 2)))) (78 + (c 2 (c 0 ((v 816 0).toInt - 1)) - c 2 (c 0 ((v 816 0).toInt - 2)))) 2 L (M + 2) κ 9 (up2 v 816 0 x) ∧ c 0 (v 816 0).toInt = (v 816 54).toInt := by
  have hwin := h.win (by decide)
  have hbk := h.bk
  obtain ⟨⟨a1, a2, a3, a4⟩, hE, hF, hN0⟩ := h
  have R : ∀ a, a ≠ 816 → up2 v 816 0 x a = v a := fun a ha => up2_of _ _ _ _ ha
  have K : ∀ q, q ≠ 0 → up2 v 816 0 x 816 q = v 816 q := fun q hq => up2_k _ _ _ _ hq
  have K0 : up2 v 816 0 x 816 0 = x := up2_s _ _ _ _
  have N : (up2 v 816 0 x 816 0).toInt = (v 816 0).toInt + 1 := by rw [K0]; exact hx
  generalize up2 v 816 0 x = w at *
  have H : ∀ e f, EF e f → g e ((v 816 0).toInt + 1) = g e (v 816 0).toInt ∧ g (e + 2) ((v 816 0).toInt + 1) = g (e + 2) (v 816 0).toInt := fun e f hef => by
    obtain ⟨b1, b2, b3, b4, b5⟩ := hE e f hef
    exact ⟨b4.1.2.1 _ (by omega), b5.1.2.1 _ (by omega)⟩
  obtain ⟨⟨s1, s2, s3, s4⟩, ⟨t3, t4, t5, tp, tc⟩, q2, q1, q0, hd, hL, h9⟩ := hN0
  have z0 := s2 (v 816 0).toInt (Int.le_refl _)
  have z1 := s2 ((v 816 0).toInt + 1) (by omega)
  have cc := tc ((v 816 0).toInt + 1) (by omega)
  refine ⟨⟨⟨?_, a2.cg (R _ (by decide)) (R _ (by decide)) (R _ (by decide)) (R _ (by decide)) (R _ (by decide)) (R _ (by decide)), ?_, hM⟩, ?_, fun u hu1 hu2 => ?_, ?_⟩, z0⟩
  · unfold iSc; rw [N, K 48 (by decide), K 49 (by decide), R 869 (by decide)]; exact ⟨by have := a1.1; omega, a1.2⟩
  · unfold iFa; rw [K 49 (by decide), R 864 (by decide), R 866 (by decide), R 867 (by decide)]; exact a3
  · intro p q hpq
    obtain ⟨b1, b2, b3, b4, b5⟩ := hE p q hpq
    obtain ⟨e1, e2⟩ := H p q hpq
    refine ⟨b1.cg (R _ (by decide)) (R _ (by decide)) (R _ (by decide)) (R _ (by decide)) (R _ (by decide)) (R _ (by decide)) (R _ (by decide)) (R _ (by decide)) (R _ (by decide)) (R _ (by decide)), ?_, ?_, ?_, ?_⟩
    · unfold iR at b2 ⊢
      rw [N, e1, e2, R 846 (by decide), R 847 (by decide), R 848 (by decide), R 851 (by decide), R 852 (by decide), R 854 (by decide), R 855 (by decide), R 856 (by decide), R 858 (by decide), R 859 (by decide), R 861 (by decide)]
      exact b2
    · obtain ⟨c1, c2, c3, c4, c5, c6, c7, c8⟩ := b3
      unfold iC
      rw [N, e1, e2, R 817 (by decide), R 818 (by decide), R 819 (by decide), R 822 (by decide)]
      refine ⟨c1, c2, c3, c4, c5, by omega, ?_, fun q => by have := c8.1 q; omega, fun q => by have := c8.2.1 q; omega, fun q => by have := c8.2.2.1 q; omega, fun q => by have := c8.2.2.2 q; omega⟩
      unfold iW at c7 ⊢
      rw [N, e1, e2, R 817 (by decide), R 818 (by decide), R 820 (by decide), R 825 (by decide), R 828 (by decide), R 829 (by decide)]
      exact c7
    · unfold iT at b4 ⊢
      rw [N, R 817 (by decide), R 818 (by decide), cc.2.1]
      exact ⟨b4.1.tick, b4.2⟩
    · unfold iT at b5 ⊢
      rw [N, R 817 (by decide), R 818 (by decide), cc.2.1]
      exact ⟨b5.1.tick, b5.2⟩
  · rw [K 55 (by decide)] at hu1
    rw [K 54 (by decide)] at hu2
    exact (hF u hu1 hu2).cg (R _ (by decide)) (R _ (by decide)) (R _ (by decide)) (R _ (by decide)) (R _ (by decide)) (R _ (by decide)) (R _ (by decide))
  · have p1 := s4 (c 0 ((v 816 0).toInt - 2)) (c 0 ((v 816 0).toInt - 1)) (s1 _ _ (by omega))
    unfold iN
    rw [N, K 48 (by decide), K 54 (by decide), K 55 (by decide), bnk.cg (R _ (by decide)) (R _ (by decide)) (R _ (by decide)) (R _ (by decide)), bnk.cg (R _ (by decide)) (R _ (by decide)) (R _ (by decide)) (R _ (by decide)), cc.1, cc.2.1, cc.2.2, show (v 816 0).toInt + 1 - 1 = (v 816 0).toInt by omega, show (v 816 0).toInt + 1 - 9 = (v 816 0).toInt - 8 by omega]
    refine ⟨⟨s1, fun a ha => s2 a (by omega), s3, s4⟩, ⟨t3, t4, t5, tp, fun a ha => tc a (by omega)⟩, fun a ha => ?_, fun a ha => ?_, fun a ha => ?_, by omega, hL, ⟨h9.1, h9.2.1, h9.2.2.1, by omega⟩⟩
    · by_cases e : a = (v 816 0).toInt + 1
      · rw [if_pos e, e, show (v 816 0).toInt + 1 - 1 = (v 816 0).toInt by omega, z1, z0, cc.2.2]; omega
      · have := q2 a (by omega)
        rw [if_neg e]
        have d : 0 ≤ (if a = (v 816 0).toInt then d2 else 0) := by split <;> omega
        omega
    · by_cases e : a = (v 816 0).toInt + 1
      · rw [if_pos e, e, show (v 816 0).toInt + 1 - 1 = (v 816 0).toInt by omega, show (v 816 0).toInt + 1 - 2 = (v 816 0).toInt - 1 by omega, show (v 816 0).toInt + 1 - 3 = (v 816 0).toInt - 2 by omega, z1, z0, cc.2.1]; omega
      · have := q1 a (by omega)
        rw [if_neg e]
        have d : 0 ≤ (if a = (v 816 0).toInt then d1 else 0) := by split <;> omega
        omega
    · by_cases e : a = (v 816 0).toInt + 1
      · rw [if_pos e, e, show (v 816 0).toInt + 1 - 1 = (v 816 0).toInt by omega, show (v 816 0).toInt + 1 - 2 = (v 816 0).toInt - 1 by omega, show (v 816 0).toInt + 1 - 3 = (v 816 0).toInt - 2 by omega, z1, z0, cc.1]; omega
      · have := q0 a (by omega)
        rw [if_neg e]
        have d : 0 ≤ (if a = (v 816 0).toInt then d0 else 0) := by split <;> omega
        omega
theorem sl_tick {p1 n0 : Int32} {vz : VV} {Q : Int32 → VV → Prop} (hL : L ≤ 511) (h0 : 0 ≤ n0.toInt) (hp : 1 ≤ p1.toInt ∧ p1.toInt ≤ 20) (hn : n0.toInt + p1.toInt ≤ 3000) (hM : M + 2 * p1.toInt ≤ 12144) (k : ∀ (x : Int32) (w : VV) (g c : Nat → Int → Int) (e0 e1 e2 : Int), x.toInt = n0.toInt + p1.toInt → Im g c e0 e1 e2 L (M + 2 * p1.toInt) 0 8 w → w 816 0 = x → (∀ a, a < 816 → w a = vz a) → Q x w) : ∀ (m j : Nat) (a2 : Int32) (w : VV) (g c : Nat → Int → Int) (e0 e1 e2 : Int), a2.toInt = (j : Int) → (j : Int) ≤ p1.toInt → Im g c e0 e1 e2 L (M + 2 * (j : Int)) 0 8 w → (w 816 0).toInt = n0.toInt + j → (∀ a, a < 816 → w a = vz a) → p1.toInt < (m : Int) + (j : Int) → b_X10_tick_30 p1 Q m p1 a2 w := by
  have l1 : Int32.toInt 1 = 1 := by decide
  intro m
  induction m with
  | zero => intro j a2 w g c e0 e1 e2 h1 h2 h3 h4 h5 h6; exfalso; omega
  | succ m ih =>
    intro j a2 w g c e0 e1 e2 h1 h2 h3 h4 h5 h6
    refine ⟨fun q => ?_, fun q => ?_⟩
    · have q := i_le q
      intro x66 e66
      have i66 := i_eq e66
      have ej : (j : Int) = p1.toInt := by omega
      rw [ej] at h3
      exact k x66 w g c e0 e1 e2 (by omega) h3 e66.symm h5
    · have q := i_nle q
      intro x37 e37 x41 e41 v1 hv1
      have i37 := i_eq e37
      have i41 := i_add e41 (by omega) (by omega)
      obtain ⟨i1, i2⟩ := h3.tick (x := x41) (by omega) (by omega) (by omega)
      rw [← hv1] at i1
      have z0 : v1 816 0 = x41 := by rw [hv1, up2_s]
      have z54 : v1 816 54 = w 816 54 := by rw [hv1, up2_k _ _ _ _ (by decide)]
      have n1 : (v1 816 0).toInt = (w 816 0).toInt + 1 := by rw [z0]; omega
      refine s_arriveAll i1 (by decide) hL (by rw [n1, show (w 816 0).toInt + 1 - 1 = (w 816 0).toInt by omega, i2, z54]) (by rw [n1, show (w 816 0).toInt + 1 - 2 = (w 816 0).toInt - 1 by omega, show (w 816 0).toInt + 1 - 3 = (w 816 0).toInt - 2 by omega]; exact Int.le_refl _) (by rw [n1, show (w 816 0).toInt + 1 - 2 = (w 816 0).toInt - 1 by omega, show (w 816 0).toInt + 1 - 3 = (w 816 0).toInt - 2 by omega]; exact Int.le_refl _) (fun w2 g2 c2 j1 j2 j3 => ?_)
      refine s_step (e := 0) (f := 1) ⟨g2, c2, j1, Fx.rf⟩ (by decide) (by decide) (by decide) (by decide) (by decide) (by decide) (by decide) (fun w3 hw3 => ?_)
      refine s_step (e := 1) (f := 0) hw3 (by decide) (by decide) (by decide) (by decide) (by decide) (by decide) (by decide) (fun w4 hw4 => ?_)
      obtain ⟨g4, c4, k1, k2⟩ := hw4
      intro x59 e59
      have i59 := i_add e59 (by omega) (by omega)
      have nw : w4 816 0 = x41 := by rw [k2.1.1, j2, z0]
      refine ih (j + 1) x59 w4 g4 c4 _ _ _ (by omega) (by omega) (by rw [show M + 2 * ((j + 1 : Nat) : Int) = M + 2 * (j : Int) + 2 by omega]; exact k1) (by rw [nw]; omega) (fun a ha => ?_) (by omega)
      rw [k2.2.2.2.2 a ha, j3 a ha, hv1, up2_of _ _ _ _ (by omega)]
      exact h5 a ha
/-- between calls: C calls were made, the hour is n -/
def IA (C : Int) (n : Int32) (v : VV) : Prop := ∃ g c e0 e1 e2, Im g c e0 e1 e2 C (12 * C + 2 * n.toInt) 12 8 v ∧ v 816 0 = n ∧ 0 ≤ C
theorem IA.n {C : Int} {n : Int32} (h : IA C n v) : 0 ≤ n.toInt ∧ n.toInt ≤ 3000 := by
  obtain ⟨g, c, e0, e1, e2, h1, h2, _⟩ := h
  rw [← h2]
  exact h1.1.1.1
theorem s_X10_tick {C : Int} {n p1 : Int32} {Q : Int32 → VV → Prop} (h : IA C n v) (hC : C + 1 ≤ 512) (k : ∀ (x : Int32) (w : VV), IA (C + 1) (tkn n p1) w → x = tka n p1 → (∀ a, a < 816 → w a = v a) → Q x w) : w_X10_tick p1 v Q := by
  have hn := h.n
  have l1 : Int32.toInt 1 = 1 := by decide
  have l20 : Int32.toInt 20 = 20 := by decide
  have l3000 : Int32.toInt 3000 = 3000 := by decide
  obtain ⟨g, c, e0, e1, e2, h1, h2, h3⟩ := h
  have still : IA (C + 1) n v := ⟨g, c, e0, e1, e2, h1.mon (by omega) (by omega) (by omega) (by omega), h2, by omega⟩
  unfold w_X10_tick
  refine ⟨fun q => ?_, fun q => ⟨fun q2 => ?_, fun q2 => ?_⟩⟩
  · unfold b_X10_tick_11
    exact k _ v (by unfold tkn; rw [if_pos (Or.inl q)]; exact still) (by unfold tka; rw [if_pos (Or.inl q)]) (fun _ _ => rfl)
  · intro x14 e14 x18 e18
    have e1' : x14 = n := e14.trans h2
    have i1 := i_nlt q
    have i2 := i_le q2
    rw [e1'] at e18
    have i18 := i_add e18 (by omega) (by omega)
    have hc : ¬ (p1 < 1 ∨ ¬ p1 ≤ 20) := fun q3 => q3.elim q (fun q3 => q3 q2)
    refine ⟨fun c3 => ?_, fun c3 => ?_⟩
    · have i3 := i_le c3
      rw [e18] at c3
      have hI : Im g c e0 e1 e2 C (12 * C + 2 * n.toInt + 12 + 2 * ((0 : Nat) : Int)) 0 8 v := h1.mon (by omega) (by omega) (by have := h1.2.2.2.2.2.2.2.2.1; omega) (by omega)
      refine ⟨30, sl_tick (n0 := n) (M := 12 * C + 2 * n.toInt + 12) (vz := v) (by omega) hn.1 (by omega) (by omega) (by omega) (fun x w g2 c2 f0 f1 f2 hx hI2 hw hfr => k x w ?_ ?_ hfr) 30 0 0 v g c e0 e1 e2 (by decide) (by omega) hI (by rw [h2]; omega) (fun _ _ => rfl) (by omega)⟩
      · have ex : x = n + p1 := i_of (by rw [hx, i_add (x := n + p1) rfl (by omega) (by omega)])
        unfold tkn
        rw [if_neg hc, if_pos c3, ← ex]
        refine ⟨g2, c2, f0, f1, f2, ?_, hw, by omega⟩
        have := hI2.mon (M' := 12 * (C + 1) + 2 * x.toInt) (κ' := 12) (L' := C + 1) (by omega) (by omega) (by omega) (by omega)
        exact this
      · have ex : x = n + p1 := i_of (by rw [hx, i_add (x := n + p1) rfl (by omega) (by omega)])
        unfold tka
        rw [if_neg hc, if_pos c3, ← ex]
    · rw [e18] at c3
      exact k _ v (by unfold tkn; rw [if_neg hc, if_neg c3]; exact still) (by unfold tka; rw [if_neg hc, if_neg c3]) (fun _ _ => rfl)
  · unfold b_X10_tick_11
    exact k _ v (by unfold tkn; rw [if_pos (Or.inr q2)]; exact still) (by unfold tka; rw [if_pos (Or.inr q2)]) (fun _ _ => rfl)
end IM
