/-! sending again, and the clock -/
section IM
variable {g g' c c' : Nat → Int → Int} {d0 d1 d2 L M κ om : Int} {v v1 z : VV}
theorem s_isDue {p1 p2 p3 : Int32} {e f : Nat} {cz : Nat → Int → Int} {vz : VV} {Q : Int32 → VV → Prop} (h : Iz cz vz d0 d1 d2 L M κ om v) (ho : 1 ≤ om ∧ om ≤ 9) (hκ : κ ≤ 12) (he : p1.toInt = (e : Int)) (hef : EF e f) (hd : 1 ≤ d1) (k0 : Q 0 v) (k1 : 1 ≤ (v 817 e).toInt → (v 817 e).toInt ≤ 3 → p2.toInt ≠ 0 → p2.toInt < 4 → Q 1 v) (k2 : ∀ w, Iz cz vz d0 (d1 - 1) d2 L M κ om w → (w 817 e).toInt = 4 → Q 0 w) : w_X10_isDue p1 p2 p3 v Q := by
  have t1 := tn_of (x := p1) (by omega)
  have u1 : p1.toNatClampNeg = e := by omega
  have L5 : Int32.toInt 0 = 0 ∧ Int32.toInt 1 = 1 ∧ Int32.toInt 3 = 3 ∧ Int32.toInt 4 = 4 := by decide
  unfold w_X10_isDue b_X10_isDue_35 b_X10_isDue_47
  refine ⟨in_of (by omega) (by omega), ?_⟩
  intro x5 e5
  rw [u1] at e5
  have i5 := i_eq e5
  refine ⟨fun _ => k0, fun q1 => ⟨in_of (by omega) (by omega), ?_⟩⟩
  have q1 := i_nlt q1
  intro x15 e15
  rw [u1] at e15
  have i15 := i_eq e15
  refine ⟨fun _ => k0, fun q2 => ⟨fun _ => k0, fun q3 => ?_⟩⟩
  have q2 := i_nlt q2
  have q3 := i_ne q3
  intro x25 e25 x29 e29
  refine ⟨fun _ => ⟨fun q4 => ?_, fun q4 => ?_⟩, fun _ => k0⟩
  · refine ⟨fun _ => k0, fun q5 => ?_⟩
    have q5 := i_nle q5
    exact k1 (by omega) (by omega) (by omega) (by omega)
  · have q4 := i_eq q4
    refine s_giveUp h ho hκ he hef (by omega) hd (fun w hw hs => ⟨fun _ => k2 w hw hs, fun q5 => ?_⟩)
    have q5 := i_nle q5
    omega
theorem b_152 {p1 a2 : Int32} {e f : Nat} {cz : Nat → Int → Int} {vz : VV} {Q : VV → Prop} (h : Iz cz vz d0 d1 d2 L M κ om v) (ho : 1 ≤ om ∧ om ≤ 9) (hκ : κ ≤ 12) (he : p1.toInt = (e : Int)) (hef : EF e f) (hd : 1 ≤ d1) (htk : 0 ≤ d0 ∧ 0 ≤ d2) (k : ∀ w, Iz cz vz d0 (d1 - 1) d2 L M κ om w → Q w) : b_X10_resend_152 p1 Q p1 a2 v := by
  have t1 := tn_of (x := p1) (by omega)
  have u1 : p1.toNatClampNeg = e := by omega
  have L5 : Int32.toInt 0 = 0 ∧ Int32.toInt 2 = 2 := by decide
  have kl : Q v := k v (h.less (by omega) (by omega) (by omega))
  unfold b_X10_resend_152
  refine ⟨in_of (by omega) (by omega), ?_⟩
  intro x157 e157
  rw [u1] at e157
  have i157 := i_eq e157
  refine ⟨fun _ => kl, fun q1 => ⟨in_of (by omega) (by omega), ?_⟩⟩
  have q1 := i_eq q1
  intro x167 e167
  refine ⟨fun _ => kl, fun q2 => ⟨in_of (by omega) (by omega), ?_⟩⟩
  intro x178 e178
  rw [u1] at e178
  have i178 := i_eq e178
  refine ⟨in_of (by omega) (by omega), ?_⟩
  intro x184 e184
  refine s_isDue h ho hκ he hef hd ⟨fun _ => kl, fun c => absurd rfl c⟩ (fun a1 a2 a3 a4 => ⟨fun c => absurd c (by decide), fun _ => ?_⟩) (fun w hw hs => ⟨fun _ => k w hw, fun c => absurd rfl c⟩)
  exact s_urgeAgain h ho he hef (by omega) (by omega) (by omega) hd k
theorem sl_90 {p1 : Int32} {e f : Nat} {T : Int} {cz : Nat → Int → Int} {vz : VV} {Q : VV → Prop} (ho : 1 ≤ om ∧ om ≤ 9) (hκ : κ ≤ 12) (he : p1.toInt = (e : Int)) (hef : EF e f) (hT : 0 ≤ T) (htk : 0 ≤ d0 ∧ 0 ≤ d2) (k : ∀ w, Iz cz vz d0 T d2 L M κ om w → Q w) : ∀ (n j : Nat) (a2 : Int32) (w : VV) (e1 : Int), Iz cz vz d0 e1 d2 L M κ om w → a2.toInt = (j : Int) → j ≤ 6 → T + 1 + (6 - (j : Int)) ≤ e1 → 7 < n + j → b_X10_resend_90 p1 Q n p1 a2 w := by
  have t1 := tn_of (x := p1) (by omega)
  have u1 : p1.toNatClampNeg = e := by omega
  have L5 : Int32.toInt 1 = 1 ∧ Int32.toInt 2 = 2 := by decide
  have l40 : Int32.toInt 40 = 40 := by decide
  intro n
  induction n with
  | zero => intro j a2 w e1 h1 h2 h3 h4 h5; exfalso; omega
  | succ n ih =>
    intro j a2 w e1 h1 h2 h3 h4 h5
    have fin : b_X10_resend_152 p1 Q p1 a2 w := b_152 h1 ho hκ he hef (by omega) htk (fun w2 hw2 => k w2 (hw2.less (by omega) (by omega) (by omega)))
    have hIz := h1
    obtain ⟨g, c, hI, hF⟩ := h1
    obtain ⟨sE, rE, cE, tE, uE⟩ := hI.2.1 e f hef
    have hfe : EF f e := by omega
    have sN := (hI.2.1 f e hfe).2.2.2.1.1.2.2.2.2.1
    have s1 := sE.1
    have s2 := sE.2.1
    refine ⟨in_of (by omega) (by omega), ?_⟩
    intro x96 e96
    rw [u1] at e96
    have i96 := i_eq e96
    refine ⟨fun _ => fin, fun q1 => ⟨in_of (by omega) (by omega), ?_⟩⟩
    have q1 := i_nle q1
    intro x105 e105
    rw [u1] at e105
    have i105 := i_eq e105
    refine ⟨fun _ => fin, fun q2 => ?_⟩
    have q2 := i_eq q2
    intro x119 e119 x121 e121
    have i119 := i_mul e119 (by rw [l40]; omega) (by rw [l40]; omega)
    rw [l40] at i119
    have i121 := i_add e121 (by omega) (by omega)
    refine ⟨in_of (by omega) (by omega), ?_⟩
    intro x122 e122 x130 e130 x132 e132
    have i130 := i_mul e130 (by rw [l40]; omega) (by rw [l40]; omega)
    rw [l40] at i130
    have i132 := i_add e132 (by omega) (by omega)
    refine ⟨in_of (by omega) (by omega), ?_⟩
    intro x133 e133
    have nx : ∀ (w2 : VV) (E1 : Int), Iz cz vz d0 E1 d2 L M κ om w2 → T + 1 + (6 - ((j : Int) + 1)) ≤ E1 → b_X10_resend_146 p1 Q (fun b1 b2 w3 => b_X10_resend_90 p1 Q n b1 b2 w3) p1 a2 w2 := by
      intro w2 E1 hw2 hE1
      unfold b_X10_resend_146
      intro x146 e146
      have i146 := i_add e146 (by omega) (by omega)
      exact ih (j + 1) x146 w2 E1 hw2 (by omega) (by omega) (by omega) (by omega)
    refine s_isDue hIz ho hκ he hef (by omega) ⟨fun _ => nx w e1 hIz (by omega), fun c => absurd rfl c⟩ (fun b1 b2 b3 b4 => ⟨fun c => absurd c (by decide), fun _ => ?_⟩) (fun w2 hw2 hs => ⟨fun _ => nx w2 _ hw2 (by omega), fun c => absurd rfl c⟩)
    exact s_piece hI ho he hef (kk := j) (by omega) (by omega) (by omega) (by omega) (fun v1 c' j1 j2 _ _ _ => nx v1 _ ⟨g, c', j1, j2 cz vz hF⟩ (by omega))
/-- a put into the times of what waits -/
theorem Im.wT {e f : Nat} {x : Int32} (h : Im g c d0 d1 d2 L M κ om v) (hef : EF e f) (hw : (v 825 e).toInt ≠ 0) : Im g c d0 d1 d2 L M κ om (up2 v 825 e x) := by
  obtain ⟨⟨a1, a2, a3, a4⟩, hE, hF, hN0⟩ := h
  have R : ∀ a, a ≠ 825 → up2 v 825 e x a = v a := fun a ha => up2_of _ _ _ _ ha
  have e0 : up2 v 825 e x 816 0 = v 816 0 := by rw [R 816 (by decide)]
  refine ⟨⟨?_, a2.cg (R _ (by decide)) (R _ (by decide)) (R _ (by decide)) (R _ (by decide)) (R _ (by decide)) (R _ (by decide)), ?_, a4⟩, ?_, fun u hu1 hu2 => ?_, ?_⟩
  · unfold iSc; rw [R 816 (by decide), R 869 (by decide)]; exact a1
  · unfold iFa; rw [R 816 (by decide), R 864 (by decide), R 866 (by decide), R 867 (by decide)]; exact a3
  · intro p q hpq
    obtain ⟨b1, b2, b3, b4, b5⟩ := hE p q hpq
    refine ⟨b1.cg (R _ (by decide)) (R _ (by decide)) (R _ (by decide)) (R _ (by decide)) (R _ (by decide)) (R _ (by decide)) (R _ (by decide)) (R _ (by decide)) (R _ (by decide)) (R _ (by decide)), b2.cg e0 (R _ (by decide)) (R _ (by decide)) (R _ (by decide)) (R _ (by decide)) (R _ (by decide)) (R _ (by decide)) (R _ (by decide)) (R _ (by decide)) (R _ (by decide)) (R _ (by decide)) (R _ (by decide)), ?_, b4.cg e0 (R _ (by decide)) (R _ (by decide)) rfl, b5.cg e0 (R _ (by decide)) (R _ (by decide)) rfl⟩
    obtain ⟨c1, c2, c3, c4, c5, c6, c7, c8⟩ := b3
    unfold iC
    rw [e0, R 817 (by decide), R 818 (by decide), R 819 (by decide), R 822 (by decide)]
    refine ⟨c1, c2, c3, c4, c5, c6, ?_, c8⟩
    unfold iW at c7 ⊢
    rw [e0, R 817 (by decide), R 818 (by decide), R 820 (by decide), R 828 (by decide), R 829 (by decide)]
    by_cases ep : p = e
    · intro _
      subst ep
      exact c7 hw
    · rw [up2_k _ _ _ _ ep]; exact c7
  · rw [R 816 (by decide)] at hu1 hu2
    exact (hF u hu1 hu2).cg (R _ (by decide)) (R _ (by decide)) (R _ (by decide)) (R _ (by decide)) (R _ (by decide)) (R _ (by decide)) (R _ (by decide))
  · unfold iN
    rw [R 816 (by decide), bnk.cg (R _ (by decide)) (R _ (by decide)) (R _ (by decide)) (R _ (by decide)), bnk.cg (R _ (by decide)) (R _ (by decide)) (R _ (by decide)) (R _ (by decide))]
    exact hN0
theorem s_resend {p1 : Int32} {e f : Nat} {cz : Nat → Int → Int} {vz : VV} {Q : VV → Prop} (h : Iz cz vz d0 d1 d2 L M κ om v) (ho : 1 ≤ om ∧ om ≤ 9) (hκ : κ ≤ 12) (he : p1.toInt = (e : Int)) (hef : EF e f) (hd1 : 8 ≤ d1) (hd2 : 1 ≤ d2) (hd0 : 0 ≤ d0) (k : ∀ w, Iz cz vz d0 (d1 - 8) (d2 - 1) L M κ om w → Q w) : w_X10_resend p1 v Q := by
  have t1 := tn_of (x := p1) (by omega)
  have u1 : p1.toNatClampNeg = e := by omega
  have l1 : Int32.toInt 1 = 1 := by decide
  have l20 : Int32.toInt 20 = 20 := by decide
  have b88 : ∀ w, Iz cz vz d0 (d1 - 1) (d2 - 1) L M κ om w → b_X10_resend_88 p1 Q p1 w := by
    intro w hw
    unfold b_X10_resend_88
    exact ⟨20, sl_90 (T := d1 - 8) ho hκ he hef (by omega) ⟨hd0, by omega⟩ k 20 0 0 w (d1 - 1) hw (by decide) (by omega) (by omega) (by omega)⟩
  unfold w_X10_resend
  refine ⟨in_of (by omega) (by omega), ?_⟩
  intro x7 e7
  rw [u1] at e7
  have i7 := i_eq e7
  refine ⟨in_of (by omega) (by omega), ?_⟩
  intro x13 e13
  refine s_isDue h ho hκ he hef (by omega) ⟨fun _ => b88 v (h.less (by omega) (by omega) (by omega)), fun c => absurd rfl c⟩ (fun b1 b2 b3 b4 => ⟨fun c => absurd c (by decide), fun _ => ?_⟩) (fun w hw _ => ⟨fun _ => b88 w (hw.less (by omega) (by omega) (by omega)), fun c => absurd rfl c⟩)
  obtain ⟨g, c, hI, hF⟩ := h
  obtain ⟨sE, rE, cE, tE, uE⟩ := hI.2.1 e f hef
  have hw := cE.2.2.2.2.2.2.1 (by omega)
  have hB := hI.1.2.1
  refine ⟨in_of (by omega) (by omega), ?_⟩
  intro x26 e26 v5 h5
  rw [u1] at e26
  have i26 := i_eq e26
  have hw5 : v5 = Mw v (v 873) x26 := by
    rw [h5, ← Mw_un (v := v) (r := v 873) (n := v 816 63), Mw_id]
  -- the bytes are copied
  have loop : ∀ (m j : Nat) (a2 : Int32), 11 < m + j → j ≤ 11 → a2.toInt = (j : Int) → b_X10_resend_32 p1 Q m p1 a2 (Mw v (cpR (v 873) (fun i => v 828 (20 * e + i)) 0 j) x26) := by
    intro m
    induction m with
    | zero => intro j a2 g1 g2 g3; exfalso; omega
    | succ m ih =>
      intro j a2 g1 g2 g3
      intro x34 e34
      rw [Mw_n] at e34
      refine ⟨fun q => ?_, fun q => ?_⟩
      · have q := i_le q
        rw [e34] at q
        have ej : j = 11 := by omega
        subst ej
        have c11 : ∀ i, i < 11 → cpR (v 873) (fun i => v 828 (20 * e + i)) 0 11 i = v 828 (20 * e + i) := fun i hi => by
          unfold cpR; rw [if_pos (by omega)]; rfl
        have hr : ∀ j, byt (cpR (v 873) (fun i => v 828 (20 * e + i)) 0 11 j) := fun j => by
          unfold cpR
          split
          · exact (hB _).1
          · exact (hB _).2.2.2.2.2
        refine s_sendMade (i := 11) (by omega) (by omega) (by decide) (hI.sc ho.2).1 (fun w hs => ?_)
        have hc1 := c11 1 (by decide)
        have hc0 : cpR (v 873) (fun i => v 828 (20 * e + i)) 0 11 0 = v 828 (20 * e) := c11 0 (by decide)
        have hc4 := c11 4 (by decide)
        have hc5 := c11 5 (by decide)
        have hsum : sumL (cpR (v 873) (fun i => v 828 (20 * e + i)) 0 11) 11 % 255 = 0 := by
          rw [sumL_ext (g := fun i => v 828 (20 * e + i)) 11 (fun i hi => c11 i hi)]; exact hw.2.2.1
        have n11 : x26.toInt.toNat = 11 := by omega
        have mon1 := tE.1.1 ((v 816 0).toInt - 1) (v 816 0).toInt (by omega)
        have nn1 := (tE.1.2.2.1 ((v 816 0).toInt - 1)).1
        have mon2 := uE.1.1 ((v 816 0).toInt - 1) (v 816 0).toInt (by omega)
        have nn2 := (uE.1.2.2.1 ((v 816 0).toInt - 1)).1
        have hr1 := cE.2.2.1.2 (by omega)
        have tk := hI.tok
        have fl : ∃ c', Im g c' d0 (d1 - 1) (d2 - 1) L M κ om w ∧ (∀ cz vz, Fx cz c vz v → Fx cz c' vz w) := by
          generalize cpR (v 873) (fun i => v 828 (20 * e + i)) 0 11 = r at hs hr hc0 hc1 hc4 hc5 hsum
          have hCt : Ct r x26 11 10 (r 1).toInt (256 * (r 2).toInt + (r 3).toInt) := ⟨by omega, by rw [hc0]; exact hw.2.1, rfl, by have := hr 2; have := hr 3; omega, by have := hr 2; have := hr 3; omega, hr, hsum⟩
          rcases hw.2.2.2 with q1 | q1 | q1
          · have h5' := cE.2.2.2.2.1 q1.1
            obtain ⟨c', i1, i2, i3⟩ := hI.send (x1 := 0) (x2 := 1) ho hef he hs hCt (by
              refine Or.inl ⟨by show _ ≤ (r 1).toInt; rw [hc1]; exact q1.2.1, by show (r 1).toInt ≤ _; rw [hc1]; exact q1.2.2.1, hCt.2.1, rfl, (v 818 e).toInt, by omega, Int.le_refl _, ?_, fun _ => ?_⟩
              · show nr (r 4).toInt (r 5).toInt _
                rw [hc4, hc5, q1.2.2.2.1, q1.2.2.2.2]; exact ⟨nb.rf, nb.rf⟩
              · exact ⟨by omega, by omega⟩) (fun q => by rw [hc1] at q; unfold ck at q; omega) (by rw [hc1]; unfold lv1; rw [if_neg (by omega)]) (by rw [hc1]; unfold lv2; rw [if_pos (by omega)]) (by omega) (by omega) (by omega)
            exact ⟨c', i1.less (by omega) (by omega) (by omega), i2⟩
          · obtain ⟨c', i1, i2, i3⟩ := hI.send (x1 := 1) (x2 := 0) ho hef he hs hCt (by
              refine Or.inr (Or.inl ⟨by show _ ≤ (r 1).toInt; rw [hc1]; exact q1.2.2.1, by show (r 1).toInt ≤ _; rw [hc1]; exact q1.2.2.2.1, hCt.2.1, rfl, (v 818 e).toInt, by omega, Int.le_refl _, ?_, fun _ => ?_⟩)
              · show nr (r 4).toInt (r 5).toInt _
                rw [hc4, hc5, q1.2.2.2.2.1, q1.2.2.2.2.2.1]; exact ⟨nb.rf, nb.rf⟩
              · exact ⟨by omega, by omega⟩) (fun q => by omega) (by rw [hc1]; unfold lv1; rw [if_pos (by omega)]) (by rw [hc1]; unfold lv2; rw [if_neg (by omega)]) (by omega) (by omega) (by omega)
            exact ⟨c', i1.less (by omega) (by omega) (by omega), i2⟩
          · obtain ⟨c', i1, i2, i3⟩ := hI.send (x1 := 1) (x2 := 0) ho hef he hs hCt (by
              exact Or.inr (Or.inr (Or.inr (Or.inr (Or.inr (Or.inr (Or.inl ⟨by show (r 1).toInt = _; rw [hc1]; exact q1.2, hCt.2.1, rfl⟩))))))) (fun q => by rw [hc1] at q; unfold ck at q; omega) (by rw [hc1]; unfold lv1; rw [if_pos (by omega)]) (by rw [hc1]; unfold lv2; rw [if_neg (by omega)]) (by omega) (by omega) (by omega)
            exact ⟨c', i1.less (by omega) (by omega) (by omega), i2⟩
        obtain ⟨c', j1, j2⟩ := fl
        have w825 := hs.1 825 (by decide) (by decide) (by decide) (by decide) (by decide) (by decide) (by decide)
        refine ⟨in_of (by omega) (by omega), ?_⟩
        intro x74 e74 x76 e76
        refine ⟨in_of (by omega) (by omega), ?_⟩
        intro v3 h3 x84 e84
        refine ⟨in_of (by omega) (by omega), ?_⟩
        intro v5 h5
        rw [u1] at h3 h5
        refine b88 v5 ⟨g, c', ?_, ?_⟩
        · rw [h5, h3]
          exact (j1.wT (x := x76) hef (by rw [w825]; omega)).put rfl (fun q => by cases q) (fun q => by omega)
        · rw [h5, h3]
          exact ((j2 cz vz hF).put (by decide)).put (by decide)
      · have q := i_nle q
        rw [e34] at q
        intro x52 e52 x54 e54
        have i52 := i_mul e52 (by rw [l20]; omega) (by rw [l20]; omega)
        rw [l20] at i52
        have i54 := i_add e54 (by omega) (by omega)
        refine ⟨in_of (by omega) (by omega), ?_⟩
        intro x55 e55
        refine ⟨in_of (by omega) (by omega), ?_⟩
        intro v8 h8 x57 e57
        have i57 := i_add e57 (by omega) (by omega)
        have t2 := tn_of (x := a2) (by omega)
        have u2 : a2.toNatClampNeg = 0 + j := by omega
        have t54 := tn_of (x := x54) (by omega)
        have u54 : x54.toNatClampNeg = 20 * e + j := by omega
        rw [u54, Mw_o (by decide) (by decide)] at e55
        have hv : v8 = Mw v (cpR (v 873) (fun i => v 828 (20 * e + i)) 0 (j + 1)) x26 := by
          rw [h8, Mw_ub, u2, e55, ← cpR_s]
        rw [hv]
        exact ih (j + 1) x57 (by omega) (by omega) (by omega)
  have q := loop 20 0 0 (by omega) (by omega) (by decide)
  rw [cpR_0, ← hw5] at q
  exact ⟨20, q⟩
theorem s_step {p1 : Int32} {e f : Nat} {cz : Nat → Int → Int} {vz : VV} {Q : VV → Prop} (h : Iz cz vz d0 d1 d2 L M κ om v) (ho : 1 ≤ om ∧ om ≤ 9) (hκ : κ ≤ 12) (he : p1.toInt = (e : Int)) (hef : EF e f) (hd1 : 9 ≤ d1) (hd2 : 1 ≤ d2) (hd0 : 1 ≤ d0) (k : ∀ w, Iz cz vz (d0 - 1) (d1 - 9) (d2 - 1) L M κ om w → Q w) : w_X10_step p1 v Q := by
  have t1 := tn_of (x := p1) (by omega)
  have u1 : p1.toNatClampNeg = e := by omega
  have l0 : Int32.toInt 0 = 0 := by decide
  have l2 : Int32.toInt 2 = 2 := by decide
  have l4 : Int32.toInt 4 = 4 := by decide
  have l12 : Int32.toInt 12 = 12 := by decide
  have b67 : ∀ w, Iz cz vz (d0 - 1) (d1 - 9) (d2 - 1) L M κ om w → b_X10_step_67 p1 Q p1 w := by
    intro w hw
    have kl := k w hw
    obtain ⟨g, c, hI, hF⟩ := hw
    obtain ⟨sE, rE, cE, tE, uE⟩ := hI.2.1 e f hef
    have hfr := cE.2.2.2.2.2.1
    have hnow := hI.1.1.1
    unfold b_X10_step_67
    refine ⟨in_of (by omega) (by omega), ?_⟩
    intro x72 e72
    rw [u1] at e72
    have i72 := i_eq e72
    refine ⟨fun _ => kl, fun q1 => ?_⟩
    have q1 := i_eq q1
    intro x78 e78
    have i78 := i_eq e78
    refine ⟨in_of (by omega) (by omega), ?_⟩
    intro x86 e86 x87 e87
    rw [u1] at e86
    have i86 := i_eq e86
    have i87 := i_sub e87 (by omega) (by omega)
    refine ⟨fun _ => kl, fun q2 => ⟨in_of (by omega) (by omega), ?_⟩⟩
    have q2 := i_nlt q2
    intro v3 h3
    rw [u1] at h3
    have w0 : w 825 e = 0 := by
      by_cases q : (w 825 e).toInt = 0
      · exact i_of (by rw [q, l0])
      · have := (cE.2.2.2.2.2.2.1 q).2.2.2
        exfalso
        omega
    refine k v3 ⟨g, c, hI.st (σ := 0) (fr := w 822 e) ho hκ hef (Or.inr ⟨by decide, rfl, Or.inr ⟨by omega, by omega⟩⟩) (fun a n1 n2 n3 => by rw [h3, up2_of _ _ _ _ n1]) (by rw [h3, up2_f]) (by rw [h3, up2_of _ _ _ _ (by decide), upd_id]) ?_, by rw [h3]; exact hF.put (by decide)⟩
    rw [h3, up2_of _ _ _ _ (by decide)]
    conv => lhs; rw [← upd_id (f := w 825) (k := e)]
    rw [w0]
  have b36 : ∀ w, Iz cz vz d0 (d1 - 9) (d2 - 1) L M κ om w → b_X10_step_36 p1 Q p1 w := by
    intro w hw
    have kl := b67 w (hw.less (by omega) (by omega) (by omega))
    unfold b_X10_step_36
    refine ⟨in_of (by omega) (by omega), ?_⟩
    intro x41 e41
    rw [u1] at e41
    have i41 := i_eq e41
    refine ⟨fun _ => kl, fun q1 => ?_⟩
    have q1 := i_eq q1
    intro x47 e47
    refine ⟨in_of (by omega) (by omega), ?_⟩
    intro x55 e55 x56 e56
    exact ⟨fun _ => kl, fun _ => s_sendReceipt hw ho he hef (by omega) hd0 b67⟩
  unfold w_X10_step
  refine s_resend h ho hκ he hef (by omega) hd2 (by omega) (fun w hw => ?_)
  have kl := b36 w (hw.less (by omega) (by omega) (by omega))
  refine ⟨in_of (by omega) (by omega), ?_⟩
  intro x10 e10
  rw [u1] at e10
  have i10 := i_eq e10
  refine ⟨fun _ => kl, fun q1 => ?_⟩
  have q1 := i_eq q1
  intro x16 e16
  refine ⟨in_of (by omega) (by omega), ?_⟩
  intro x24 e24 x25 e25
  exact ⟨fun _ => kl, fun _ => s_giveUp hw ho hκ he hef (by omega) (by omega) (fun w2 hw2 _ => b36 w2 (hw2.less (by omega) (by omega) (by omega)))⟩
end IM
