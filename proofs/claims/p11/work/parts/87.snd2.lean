section IM
variable {g g' c c' : Nat → Int → Int} {d0 d1 d2 L M κ om : Int} {v v1 : VV}
theorem FU.mp {u : Nat} (h : FU g c u v) (hz : v1 869 (u % 4096) = v 869 (u % 4096)) (hto : v1 870 (u % 4096) = v 870 (u % 4096)) (ht : v1 871 (u % 4096) = v 871 (u % 4096)) (hb : ∀ i, i < 20 → v1 868 (20 * (u % 4096) + i) = v 868 (20 * (u % 4096) + i)) (hc0 : ∀ s, c 0 (s - 1) ≤ (u : Int) ∧ (u : Int) < c 0 s → c' 0 (s - 1) ≤ (u : Int) ∧ (u : Int) < c' 0 s) (hc1 : c' 1 ((u : Int) + 1) - c' 1 (u : Int) = c 1 ((u : Int) + 1) - c 1 (u : Int)) (hc2 : c' 2 ((u : Int) + 1) - c' 2 (u : Int) = c 2 ((u : Int) + 1) - c 2 (u : Int)) (hU : ∀ R S : Nat, EF R S → ∀ (f : Nat → Int) (z s : Int), s = (v 871 (u % 4096)).toInt → (c 0 (s - 1) ≤ (u : Int) ∧ (u : Int) < c 0 s) → (ck (f 1) → (v 817 S).toInt ≠ 0 ∧ (v 817 S).toInt ≠ 1 ∧ ((v 817 S).toInt = 4 → s ≤ (v 822 S).toInt)) → UOK g R S (v 818 R).toInt (v 818 S).toInt f z s → UOK g' R S (v1 818 R).toInt (v1 818 S).toInt f z s ∧ (ck (f 1) → (v1 817 S).toInt ≠ 0 ∧ (v1 817 S).toInt ≠ 1 ∧ ((v1 817 S).toInt = 4 → s ≤ (v1 822 S).toInt))) : FU g' c' u v1 := by
  obtain ⟨R, S, hRS, h1, h2, h3, h4, h5, h6⟩ := h
  have hsz := h2.size
  obtain ⟨k1, k2⟩ := hU R S hRS _ _ _ rfl h4 h6 h2
  refine ⟨R, S, hRS, by rw [hto]; exact h1, ?_, ?_, ?_, ?_, ?_⟩
  · rw [hz, ht]
    refine k1.mp (by show (v1 868 _).toInt = (v 868 _).toInt; rw [hb 0 (by decide)]) (by show (v1 868 _).toInt = (v 868 _).toInt; rw [hb 1 (by decide)]) (fun _ q => ?_) (fun _ q => ?_) (fun _ q => ?_) (fun _ q => ?_) (fun _ q => ?_)
    · show uFrom _ _ _ (v1 868 _).toInt (v1 868 _).toInt _
      rw [hb 4 (by decide), hb 5 (by decide)]; exact q
    · show uRec _ _ (v1 868 _).toInt _
      rw [hb 4 (by decide)]; exact q
    · show uRec _ _ (v1 868 _).toInt _
      rw [hb 4 (by decide)]; exact q
    · show uDat _ _ _ (v1 868 _).toInt (v1 868 _).toInt (v1 868 _).toInt _
      rw [hb 2 (by decide), hb 3 (by decide), hb 4 (by decide)]; exact q
    · show uDat _ _ _ (v1 868 _).toInt (v1 868 _).toInt (v1 868 _).toInt _
      rw [hb 2 (by decide), hb 3 (by decide), hb 4 (by decide)]; exact q
  · rw [hz, sumL_ext (g := fun i => v 868 (20 * (u % 4096) + i)) _ (fun i hi => hb i (by omega))]
    exact h3
  · rw [ht]; exact hc0 _ h4
  · rw [hb 1 (by decide)]; omega
  · rw [hb 1 (by decide), ht]; exact k2
theorem Im.snd {e f : Nat} {ee n : Int32} {r : Nat → Int32} (h : Im g c d0 d1 d2 L M κ om v) (ho : 1 ≤ om ∧ om ≤ 9) (hef : EF e f) (hee : ee.toInt = (e : Int)) (hs : Snt v v1 r n ee) (hr : ∀ j, byt (r j)) (hsum : sumL r n.toInt.toNat % 255 = 0) (hu : UOK g f e (v 818 f).toInt (v 818 e).toInt (fun i => (r i).toInt) n.toInt (v 816 0).toInt) (hck : ck (r 1).toInt → (v 817 e).toInt ≠ 0 ∧ (v 817 e).toInt ≠ 1 ∧ (v 817 e).toInt ≠ 4) (h0 : 1 - lv1 (r 1).toInt - lv2 (r 1).toInt ≤ d0) (h1 : lv1 (r 1).toInt ≤ d1) (h2 : lv2 (r 1).toInt ≤ d2) : Im g (cs c (v 816 0).toInt (v 816 54).toInt (r 1).toInt) (d0 - (1 - lv1 (r 1).toInt - lv2 (r 1).toInt)) (d1 - lv1 (r 1).toInt) (d2 - lv2 (r 1).toInt) L M κ om v1 := by
  have hsc := h.sc ho.2
  have hwin := h.win ho.2
  have hsz := hu.size
  obtain ⟨⟨a1, a2, a3, a4⟩, hE, hF, hN⟩ := h
  have hs2 := hs
  obtain ⟨s1, s2, s3, s4, s5, s6, s7, s8, s9, s10⟩ := hs
  have Rw : ∀ a, 817 ≤ a → a ≤ 867 → a ≠ 823 → v1 a = v a := fun a b1 b2 b3 => s1 a (by omega) b3 (by omega) (by omega) (by omega) (by omega) (by omega)
  have e0 := s2 0 (by decide) (by decide)
  have e48 := s2 48 (by decide) (by decide)
  have e49 := s2 49 (by decide) (by decide)
  have e55 := s2 55 (by decide) (by decide)
  have l1 : Int32.toInt 1 = 1 := by decide
  have e54 := i_add s3 (by omega) (by omega)
  rw [l1] at e54
  generalize hat : (v 816 54).toInt.toNat % 4096 = at_ at *
  refine ⟨⟨?_, ?_, ?_, a4⟩, ?_, ?_, hN.snd hs2 hsc ho.1 h0 h1 h2⟩
  · unfold iSc
    rw [e0, e48, e49]
    refine ⟨a1.1, a1.2.1, a1.2.2.1, a1.2.2.2.1, fun k => ?_⟩
    rw [s6]
    by_cases ek : k = at_
    · rw [ek, upd_s]; omega
    · rw [upd_n ek]; exact a1.2.2.2.2 k
  · intro k
    have q := a2 k
    rw [Rw 828 (by decide) (by decide) (by decide), Rw 837 (by decide) (by decide) (by decide), Rw 842 (by decide) (by decide) (by decide), Rw 863 (by decide) (by decide) (by decide), s5]
    refine ⟨q.1, q.2.1, q.2.2.1, q.2.2.2.1, ?_, hr k⟩
    by_cases qk : (k : Int) < 20 * (at_ : Nat) ∨ 20 * (at_ : Nat) + n.toInt ≤ (k : Int)
    · rw [s10 k qk]; exact q.2.2.2.2.1
    · have e1 : k = 20 * at_ + (k - 20 * at_) := by omega
      rw [e1, s9 (k - 20 * at_) (by omega)]
      exact hr _
  · intro k
    rw [e49, Rw 864 (by decide) (by decide) (by decide), Rw 866 (by decide) (by decide) (by decide), Rw 867 (by decide) (by decide) (by decide)]
    exact a3 k
  · intro p q hpq
    obtain ⟨b1, b2, b3, b4, b5⟩ := hE p q hpq
    refine ⟨b1.cg (Rw _ (by decide) (by decide) (by decide)) (Rw _ (by decide) (by decide) (by decide)) (Rw _ (by decide) (by decide) (by decide)) (Rw _ (by decide) (by decide) (by decide)) (Rw _ (by decide) (by decide) (by decide)) (Rw _ (by decide) (by decide) (by decide)) (Rw _ (by decide) (by decide) (by decide)) (Rw _ (by decide) (by decide) (by decide)) (Rw _ (by decide) (by decide) (by decide)) (Rw _ (by decide) (by decide) (by decide)), b2.cg e0 (Rw _ (by decide) (by decide) (by decide)) (Rw _ (by decide) (by decide) (by decide)) (Rw _ (by decide) (by decide) (by decide)) (Rw _ (by decide) (by decide) (by decide)) (Rw _ (by decide) (by decide) (by decide)) (Rw _ (by decide) (by decide) (by decide)) (Rw _ (by decide) (by decide) (by decide)) (Rw _ (by decide) (by decide) (by decide)) (Rw _ (by decide) (by decide) (by decide)) (Rw _ (by decide) (by decide) (by decide)) (Rw _ (by decide) (by decide) (by decide)), b3.cg e0 (Rw _ (by decide) (by decide) (by decide)) (Rw _ (by decide) (by decide) (by decide)) (Rw _ (by decide) (by decide) (by decide)) (Rw _ (by decide) (by decide) (by decide)) (Rw _ (by decide) (by decide) (by decide)) (Rw _ (by decide) (by decide) (by decide)) (Rw _ (by decide) (by decide) (by decide)) (Rw _ (by decide) (by decide) (by decide)), b4.cg e0 (Rw _ (by decide) (by decide) (by decide)) (Rw _ (by decide) (by decide) (by decide)) (cs3 (by decide)), b5.cg e0 (Rw _ (by decide) (by decide) (by decide)) (Rw _ (by decide) (by decide) (by decide)) (cs3 (by decide))⟩
  · intro u hu1 hu2
    rw [e55] at hu1
    rw [e54] at hu2
    have z0 := hN.1.2.1 _ (Int.le_refl (v 816 0).toInt)
    have zm := hN.1.1 ((v 816 0).toInt - 1) (v 816 0).toInt (by omega)
    by_cases hus : (u : Int) = (v 816 54).toInt
    · have hua : u % 4096 = at_ := by rw [← hat]; omega
      have g9 : ∀ i : Nat, i < 9 → v1 868 (20 * at_ + i) = r i := fun i hi => s9 i (by omega)
      refine ⟨f, e, by omega, ?_, ?_, ?_, ?_, ?_, ?_⟩
      · rw [hua, s7, upd_s]
        have := i_sub (x := 1 - ee) rfl (by omega) (by omega)
        omega
      · rw [hua, s6, s8, upd_s, upd_s, Rw 818 (by decide) (by decide) (by decide)]
        refine hu.mp (by show (v1 868 _).toInt = (r 0).toInt; rw [g9 0 (by decide)]) (by show (v1 868 _).toInt = (r 1).toInt; rw [g9 1 (by decide)]) (fun _ q => ?_) (fun _ q => ?_) (fun _ q => ?_) (fun _ q => ?_) (fun _ q => ?_)
        · show uFrom _ _ _ (v1 868 _).toInt (v1 868 _).toInt _
          rw [g9 4 (by decide), g9 5 (by decide)]; exact q
        · show uRec _ _ (v1 868 _).toInt _
          rw [g9 4 (by decide)]; exact q
        · show uRec _ _ (v1 868 _).toInt _
          rw [g9 4 (by decide)]; exact q
        · show uDat _ _ _ (v1 868 _).toInt (v1 868 _).toInt (v1 868 _).toInt _
          rw [g9 2 (by decide), g9 3 (by decide), g9 4 (by decide)]; exact q
        · show uDat _ _ _ (v1 868 _).toInt (v1 868 _).toInt (v1 868 _).toInt _
          rw [g9 2 (by decide), g9 3 (by decide), g9 4 (by decide)]; exact q
      · rw [hua, s6, upd_s, sumL_ext (g := r) _ (fun i hi => s9 i (by omega))]
        exact hsum
      · rw [hua, s8, upd_s, cs0, upH_lt (by omega), upH_ge (Int.le_refl _)]
        omega
      · rw [hua, g9 1 (by decide), cs1, cs2, hus]
        exact ⟨by rw [upQ_gt (u := (v 816 54).toInt + 1) (by omega), upQ_le (u := (v 816 54).toInt) (Int.le_refl _)], by rw [upQ_gt (u := (v 816 54).toInt + 1) (by omega), upQ_le (u := (v 816 54).toInt) (Int.le_refl _)]⟩
      · rw [hua, g9 1 (by decide), s8, upd_s, Rw 817 (by decide) (by decide) (by decide)]
        intro q
        have := hck q
        exact ⟨this.1, this.2.1, fun q => absurd q this.2.2⟩
    · have hne : u % 4096 ≠ at_ := by rw [← hat]; omega
      refine (hF u hu1 (by omega)).mp (by rw [s6, upd_n hne]) (by rw [s7, upd_n hne]) (by rw [s8, upd_n hne]) (fun i hi => s10 _ (by omega)) (fun s hs => ?_) (by rw [cs1, upQ_le (by omega), upQ_le (by omega)]) (by rw [cs2, upQ_le (by omega), upQ_le (by omega)]) (fun R S hRS f z s es hcs hk hU => ?_)
      · rw [cs0]
        by_cases q1 : (v 816 0).toInt < s
        · have := hN.1.2.1 (s - 1) (by omega)
          omega
        · rw [upH_lt (by omega)]
          by_cases q2 : s = (v 816 0).toInt
          · rw [upH_ge (by omega)]; omega
          · rw [upH_lt (by omega)]; exact hs
      · rw [Rw 818 (by decide) (by decide) (by decide), Rw 817 (by decide) (by decide) (by decide), Rw 822 (by decide) (by decide) (by decide)]
        exact ⟨hU, hk⟩
end IM
