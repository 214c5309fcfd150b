/-! the connection's state -/
section IM
variable {g g' c c' : Nat → Int → Int} {d0 d1 d2 L M κ om : Int} {v v1 z : VV}
theorem iW.one {e : Nat} (h0 : v1 816 0 = v 816 0) (h : ∀ i, v1 817 e = v 817 e ∧ v1 818 e = v 818 e ∧ v1 820 e = v 820 e ∧ v1 825 e = v 825 e ∧ v1 829 e = v 829 e ∧ (i < 20 → v1 828 (20 * e + i) = v 828 (20 * e + i))) (hg : g' e = g e ∧ g' (e + 2) = g (e + 2)) (hW : iW g e v) : iW g' e v1 := by
  obtain ⟨r1, r2, r3, r4, r5, _⟩ := h 0
  have B := fun i hi => (h i).2.2.2.2.2 hi
  unfold iW at hW ⊢
  rw [h0, r1, r2, r3, r4, r5, hg.1, hg.2, sumL_ext (g := fun i => v 828 (20 * e + i)) _ (fun i hi => B i (by omega)), B 1 (by decide), B 4 (by decide), B 5 (by decide), show v1 828 (20 * e) = v 828 (20 * e) from B 0 (by decide)]
  exact hW
theorem iC.one {e f : Nat} (h0 : v1 816 0 = v 816 0) (h : ∀ i, v1 817 e = v 817 e ∧ v1 818 e = v 818 e ∧ v1 819 e = v 819 e ∧ v1 820 e = v 820 e ∧ v1 822 e = v 822 e ∧ v1 825 e = v 825 e ∧ v1 829 e = v 829 e ∧ (i < 20 → v1 828 (20 * e + i) = v 828 (20 * e + i))) (hr : (v 818 f).toInt ≤ (v1 818 f).toInt) (hg : g' e = g e ∧ g' (e + 2) = g (e + 2) ∧ g' (16 + e) = g (16 + e) ∧ g' (8 + f) = g (8 + f) ∧ g' (8 + (f + 2)) = g (8 + (f + 2))) (hC : iC g M κ e f v) {M' κ' : Int} (hM : M ≤ M') (hκ : κ ≤ κ') : iC g' M' κ' e f v1 := by
  obtain ⟨c1, c2, c3, c4, c5, c6, c7, c8⟩ := hC
  obtain ⟨r1, r2, r3, r4, r5, r6, r7, _⟩ := h 0
  have hW := c7.one (g' := g') h0 (fun i => ⟨r1, r2, r4, r6, r7, (h i).2.2.2.2.2.2.2⟩) ⟨hg.1, hg.2.1⟩
  unfold iC
  rw [h0, r1, r2, r3, r5, hg.1, hg.2.1, hg.2.2.1, hg.2.2.2.1, hg.2.2.2.2]
  exact ⟨c1, c2, c3, fun q => by have := c4 q; exact ⟨this.1, by omega, this.2.2⟩, c5, c6, hW, fun q => by have := c8.1 q; omega, fun q => by have := c8.2.1 q; omega, fun q => by have := c8.2.2.1 q; omega, fun q => by have := c8.2.2.2 q; omega⟩
/-- the unit u is young -/
theorem iN.young {u : Nat} {s : Int} (h : iN c d0 d1 d2 L om v) (hom : om ≤ 9) (hu : (v 816 55).toInt ≤ (u : Int)) (hs : (u : Int) < c 0 s) : (v 816 0).toInt - 8 ≤ s := by
  by_cases q : (v 816 0).toInt - 8 ≤ s
  · exact q
  · have h1 := h.1.1 s ((v 816 0).toInt - om) (by omega)
    have h2 := h.2.2.2.2.2.2.2.1
    omega
/-- frozen, or closed -/
theorem Im.st {e f : Nat} {σ fr : Int32} (h : Im g c d0 d1 d2 L M κ om v) (ho : 1 ≤ om ∧ om ≤ 9) (hκ : κ ≤ 12) (hef : EF e f) (hσ : (σ.toInt = 4 ∧ fr.toInt = (v 816 0).toInt ∧ ((v 817 e).toInt = 1 ∨ (v 817 e).toInt = 2 ∨ (v 817 e).toInt = 3)) ∨ (σ.toInt = 0 ∧ fr = v 822 e ∧ (((v 817 e).toInt = 1 ∧ κ ≤ 0) ∨ ((v 817 e).toInt = 4 ∧ 12 ≤ (v 816 0).toInt - (v 822 e).toInt)))) (R : ∀ a, a ≠ 817 → a ≠ 822 → a ≠ 825 → z a = v a) (R817 : z 817 = upd (v 817) e σ) (R822 : z 822 = upd (v 822) e fr) (R825 : z 825 = upd (v 825) e 0) : Im g c d0 d1 d2 L M κ om z := by
  obtain ⟨⟨a1, a2, a3, a4⟩, hE, hF, hN0⟩ := h
  have hfe : EF f e := by omega
  obtain ⟨sE, rE, cE, tE, uE⟩ := hE e f hef
  obtain ⟨sF, rF, cF, tF, uF⟩ := hE f e hfe
  have e816 : z 816 = v 816 := R 816 (by decide) (by decide) (by decide)
  have e0 : z 816 0 = v 816 0 := by rw [e816]
  have l0 : Int32.toInt 0 = 0 := by decide
  have ef : z 817 f = v 817 f := by rw [R817, upd_n (by omega)]
  have ee : z 817 e = σ := by rw [R817, upd_s]
  have ff : z 822 f = v 822 f := by rw [R822, upd_n (by omega)]
  have fe : z 822 e = fr := by rw [R822, upd_s]
  have hs2 : ¬ σ.toInt = 2 := by omega
  refine ⟨⟨?_, a2.cg (R _ (by decide) (by decide) (by decide)) (R _ (by decide) (by decide) (by decide)) (R _ (by decide) (by decide) (by decide)) (R _ (by decide) (by decide) (by decide)) (R _ (by decide) (by decide) (by decide)) (R _ (by decide) (by decide) (by decide)), ?_, a4⟩, ?_, ?_, ?_⟩
  · unfold iSc; rw [e816, R 869 (by decide) (by decide) (by decide)]; exact a1
  · unfold iFa; rw [e816, R 864 (by decide) (by decide) (by decide), R 866 (by decide) (by decide) (by decide), R 867 (by decide) (by decide) (by decide)]; exact a3
  · intro p q hpq
    have hp : (p = e ∧ q = f) ∨ (p = f ∧ q = e) := by omega
    rcases hp with ⟨rfl, rfl⟩ | ⟨rfl, rfl⟩
    · refine ⟨sE.cg (R _ (by decide) (by decide) (by decide)) (R _ (by decide) (by decide) (by decide)) (R _ (by decide) (by decide) (by decide)) (R _ (by decide) (by decide) (by decide)) (R _ (by decide) (by decide) (by decide)) (R _ (by decide) (by decide) (by decide)) (R _ (by decide) (by decide) (by decide)) (R _ (by decide) (by decide) (by decide)) (R _ (by decide) (by decide) (by decide)) (R _ (by decide) (by decide) (by decide)), rE.cg e0 (R _ (by decide) (by decide) (by decide)) (R _ (by decide) (by decide) (by decide)) (R _ (by decide) (by decide) (by decide)) (R _ (by decide) (by decide) (by decide)) (R _ (by decide) (by decide) (by decide)) (R _ (by decide) (by decide) (by decide)) (R _ (by decide) (by decide) (by decide)) (R _ (by decide) (by decide) (by decide)) (R _ (by decide) (by decide) (by decide)) (R _ (by decide) (by decide) (by decide)) (R _ (by decide) (by decide) (by decide)), ?_, ?_, ?_⟩
      · obtain ⟨c1, c2, c3, c4, c5, c6, c7, c8⟩ := cE
        unfold iC
        rw [e0, ee, fe, R 818 (by decide) (by decide) (by decide), R 819 (by decide) (by decide) (by decide)]
        refine ⟨by omega, c2, ⟨c3.1, fun _ => c3.2 (by omega)⟩, fun q => by omega, fun q => by omega, ?_, ?_, ?_⟩
        · rcases hσ with q | q
          · omega
          · rw [q.2.1]; exact c6
        · intro q
          rw [R825, upd_s, l0] at q
          exact absurd rfl q
        · rcases hσ with q | ⟨q1, q2, q3⟩
          · refine ⟨fun _ => by omega, fun _ => by omega, fun _ => by omega, fun _ => ?_⟩
            rcases q.2.2 with k | k | k
            · have := c8.2.1 k; omega
            · have := c8.2.2.1 (Or.inl k); omega
            · have := c8.2.2.1 (Or.inr k); omega
          · refine ⟨fun _ => ?_, fun _ => by omega, fun _ => by omega, fun _ => by omega⟩
            rcases q3 with k | k
            · have := c8.2.1 k.1; omega
            · have := c8.2.2.2 k.1; omega
      · unfold iT at tE ⊢; rw [e0, ef, R 818 (by decide) (by decide) (by decide)]; exact tE
      · unfold iT at uE ⊢; rw [e0, ef, R 818 (by decide) (by decide) (by decide)]; exact uE
    · refine ⟨sF.cg (R _ (by decide) (by decide) (by decide)) (R _ (by decide) (by decide) (by decide)) (R _ (by decide) (by decide) (by decide)) (R _ (by decide) (by decide) (by decide)) (R _ (by decide) (by decide) (by decide)) (R _ (by decide) (by decide) (by decide)) (R _ (by decide) (by decide) (by decide)) (R _ (by decide) (by decide) (by decide)) (R _ (by decide) (by decide) (by decide)) (R _ (by decide) (by decide) (by decide)), rF.cg e0 (R _ (by decide) (by decide) (by decide)) (R _ (by decide) (by decide) (by decide)) (R _ (by decide) (by decide) (by decide)) (R _ (by decide) (by decide) (by decide)) (R _ (by decide) (by decide) (by decide)) (R _ (by decide) (by decide) (by decide)) (R _ (by decide) (by decide) (by decide)) (R _ (by decide) (by decide) (by decide)) (R _ (by decide) (by decide) (by decide)) (R _ (by decide) (by decide) (by decide)) (R _ (by decide) (by decide) (by decide)), ?_, ?_, ?_⟩
      · exact cF.one e0 (fun i => ⟨ef, by rw [R 818 (by decide) (by decide) (by decide)], by rw [R 819 (by decide) (by decide) (by decide)], by rw [R 820 (by decide) (by decide) (by decide)], ff, by rw [R825, upd_n (by omega)], by rw [R 829 (by decide) (by decide) (by decide)], fun _ => by rw [R 828 (by decide) (by decide) (by decide)]⟩) (by rw [R 818 (by decide) (by decide) (by decide)]; exact Int.le_refl _) ⟨rfl, rfl, rfl, rfl, rfl⟩ (Int.le_refl _) (Int.le_refl _)
      · unfold iT at tF ⊢; rw [e0, ee, R 818 (by decide) (by decide) (by decide)]; exact ⟨tF.1.wk (fun q => absurd q.1 hs2), tF.2⟩
      · unfold iT at uF ⊢; rw [e0, ee, R 818 (by decide) (by decide) (by decide)]; exact ⟨uF.1.wk (fun q => absurd q.1 hs2), uF.2⟩
  · intro u hu1 hu2
    rw [e816] at hu1 hu2
    refine (hF u hu1 hu2).mp (by rw [R 869 (by decide) (by decide) (by decide)]) (by rw [R 870 (by decide) (by decide) (by decide)]) (by rw [R 871 (by decide) (by decide) (by decide)]) (fun i hi => by rw [R 868 (by decide) (by decide) (by decide)]) (fun s hs => hs) rfl rfl (fun R0 S0 hRS f0 z0 s es hcs hk hU => ?_)
    rw [R 818 (by decide) (by decide) (by decide)]
    refine ⟨hU, fun q => ?_⟩
    have q2 := hk q
    have y1 := hN0.young ho.2 hu1 hcs.2
    have y2 := hN0.le hu2 hcs.1
    by_cases eS : S0 = e
    · subst eS
      rw [ee, fe]
      rcases hσ with k | ⟨k1, k2, k3⟩
      · exact ⟨by omega, by omega, fun _ => by omega⟩
      · exfalso
        rcases k3 with k | k
        · omega
        · have := q2.2.2 k.1
          omega
    · have : S0 = f := by omega
      subst this
      rw [ef, ff]
      exact q2
  · unfold iN
    rw [e816, bnk.cg (R _ (by decide) (by decide) (by decide)) (R _ (by decide) (by decide) (by decide)) (R _ (by decide) (by decide) (by decide)) (R _ (by decide) (by decide) (by decide)), bnk.cg (R _ (by decide) (by decide) (by decide)) (R _ (by decide) (by decide) (by decide)) (R _ (by decide) (by decide) (by decide)) (R _ (by decide) (by decide) (by decide))]
    exact hN0
/-- something is laid by to be sent again; at an end's closing the queue is cut -/
theorem Im.wai {e f : Nat} {σ x : Int32} (h : Im g c d0 d1 d2 L M κ om v) (hκ : κ ≤ 12) (hef : EF e f) (hσ : σ = v 817 e ∨ (σ.toInt = 3 ∧ ((v 817 e).toInt = 1 ∨ (v 817 e).toInt = 2))) (hx : x.toInt = (v 830 e).toInt ∨ x.toInt = (v 831 e).toInt) (hm : (v 816 63).toInt = 11) (h0 : (v 873 0).toInt = 10) (hsum : sumL (v 873) 11 % 255 = 0) (hcase : (σ.toInt = 1 ∧ 224 ≤ (v 873 1).toInt ∧ (v 873 1).toInt ≤ 230 ∧ (v 873 4).toInt = (v 818 e).toInt / 256 ∧ (v 873 5).toInt = (v 818 e).toInt % 256) ∨ (σ.toInt = 2 ∧ (v 820 e).toInt = 1 ∧ 208 ≤ (v 873 1).toInt ∧ (v 873 1).toInt ≤ 214 ∧ (v 873 4).toInt = (v 818 e).toInt / 256 ∧ (v 873 5).toInt = (v 818 e).toInt % 256 ∧ g e (v 816 0).toInt = 0 ∧ g (e + 2) (v 816 0).toInt = 0) ∨ (σ.toInt = 3 ∧ (v 873 1).toInt = 128)) (R : ∀ a, a ≠ 817 → a ≠ 825 → a ≠ 826 → a ≠ 828 → a ≠ 829 → a ≠ 830 → a ≠ 821 → z a = v a) (R817 : z 817 = upd (v 817) e σ) (R825 : z 825 = upd (v 825) e 1) (R829 : z 829 = upd (v 829) e (v 816 63)) (R828 : z 828 = cpR (v 828) (v 873) (20 * e) (v 816 63).toInt.toNat) (R830 : z 830 = upd (v 830) e x) : Im g c d0 d1 d2 L M κ om z := by
  obtain ⟨⟨a1, a2, a3, a4⟩, hE, hF, hN0⟩ := h
  have hfe : EF f e := by omega
  obtain ⟨sE, rE, cE, tE, uE⟩ := hE e f hef
  obtain ⟨sF, rF, cF, tF, uF⟩ := hE f e hfe
  have R' : ∀ a, a ≠ 817 → a ≠ 825 → a ≠ 826 → (a < 828 ∨ 830 < a) → a ≠ 821 → z a = v a := fun a n1 n2 n3 n4 n5 => R a n1 n2 n3 (by omega) (by omega) (by omega) n5
  have e816 : z 816 = v 816 := R' 816 (by decide) (by decide) (by decide) (by decide) (by decide)
  have e0 : z 816 0 = v 816 0 := by rw [e816]
  have ef : z 817 f = v 817 f := by rw [R817, upd_n (by omega)]
  have ee : z 817 e = σ := by rw [R817, upd_s]
  have qf : z 830 f = v 830 f := by rw [R830, upd_n (by omega)]
  have qe : z 830 e = x := by rw [R830, upd_s]
  have m11 : (v 816 63).toInt.toNat = 11 := by omega
  have is0 : σ.toInt = (v 817 e).toInt ∨ (σ.toInt = 3 ∧ ((v 817 e).toInt = 1 ∨ (v 817 e).toInt = 2)) := by
    rcases hσ with q | q
    · exact Or.inl (by rw [q])
    · exact Or.inr q
  have B1 : ∀ i, i < 11 → z 828 (20 * e + i) = v 873 i := fun i hi => by
    rw [R828, m11]; unfold cpR; rw [if_pos (by omega), show 20 * e + i - 20 * e = i by omega]
  have B2 : ∀ i, i < 20 → z 828 (20 * f + i) = v 828 (20 * f + i) := fun i hi => by
    rw [R828, m11]; unfold cpR; rw [if_neg (by omega)]
  have bke : bnk z e ≤ bnk v e := by
    unfold bnk
    rw [qe, R' 831 (by decide) (by decide) (by decide) (by decide) (by decide), R' 841 (by decide) (by decide) (by decide) (by decide) (by decide), R' 844 (by decide) (by decide) (by decide) (by decide) (by decide)]
    have := sE.1
    omega
  have bkf : bnk z f = bnk v f := by
    unfold bnk
    rw [qf, R' 831 (by decide) (by decide) (by decide) (by decide) (by decide), R' 841 (by decide) (by decide) (by decide) (by decide) (by decide), R' 844 (by decide) (by decide) (by decide) (by decide) (by decide)]
  have bk2 : bnk z 0 + bnk z 1 ≤ bnk v 0 + bnk v 1 := by
    rcases hef with ⟨rfl, rfl⟩ | ⟨rfl, rfl⟩ <;> omega
  refine ⟨⟨?_, ?_, ?_, a4⟩, ?_, ?_, ?_⟩
  · unfold iSc; rw [e816, R' 869 (by decide) (by decide) (by decide) (by decide) (by decide)]; exact a1
  · intro k
    have b := a2 k
    rw [R' 837 (by decide) (by decide) (by decide) (by decide) (by decide), R' 842 (by decide) (by decide) (by decide) (by decide) (by decide), R' 863 (by decide) (by decide) (by decide) (by decide) (by decide), R' 868 (by decide) (by decide) (by decide) (by decide) (by decide), R' 873 (by decide) (by decide) (by decide) (by decide) (by decide)]
    refine ⟨?_, b.2⟩
    rw [R828]; unfold cpR
    split
    · exact (a2 _).2.2.2.2.2
    · exact b.1
  · unfold iFa; rw [e816, R' 864 (by decide) (by decide) (by decide) (by decide) (by decide), R' 866 (by decide) (by decide) (by decide) (by decide) (by decide), R' 867 (by decide) (by decide) (by decide) (by decide) (by decide)]; exact a3
  · have rr : ∀ p, iR g p v → iR g p z := fun p q => q.cg e0 (R' _ (by decide) (by decide) (by decide) (by decide) (by decide)) (R' _ (by decide) (by decide) (by decide) (by decide) (by decide)) (R' _ (by decide) (by decide) (by decide) (by decide) (by decide)) (R' _ (by decide) (by decide) (by decide) (by decide) (by decide)) (R' _ (by decide) (by decide) (by decide) (by decide) (by decide)) (R' _ (by decide) (by decide) (by decide) (by decide) (by decide)) (R' _ (by decide) (by decide) (by decide) (by decide) (by decide)) (R' _ (by decide) (by decide) (by decide) (by decide) (by decide)) (R' _ (by decide) (by decide) (by decide) (by decide) (by decide)) (R' _ (by decide) (by decide) (by decide) (by decide) (by decide)) (R' _ (by decide) (by decide) (by decide) (by decide) (by decide))
    intro p q hpq
    have hp : (p = e ∧ q = f) ∨ (p = f ∧ q = e) := by omega
    rcases hp with ⟨rfl, rfl⟩ | ⟨rfl, rfl⟩
    · refine ⟨?_, rr p rE, ?_, ?_, ?_⟩
      · obtain ⟨s1, s2, s3, s4, s5, s6, s7, s8, s9, s10⟩ := sE
        unfold iS
        rw [qe, R' 831 (by decide) (by decide) (by decide) (by decide) (by decide), R' 832 (by decide) (by decide) (by decide) (by decide) (by decide), R' 834 (by decide) (by decide) (by decide) (by decide) (by decide), R' 838 (by decide) (by decide) (by decide) (by decide) (by decide), R' 839 (by decide) (by decide) (by decide) (by decide) (by decide), R' 840 (by decide) (by decide) (by decide) (by decide) (by decide), R' 841 (by decide) (by decide) (by decide) (by decide) (by decide), R' 843 (by decide) (by decide) (by decide) (by decide) (by decide), R' 844 (by decide) (by decide) (by decide) (by decide) (by decide)]
        exact ⟨by omega, s2, s3, fun k hk => s4 k (by omega), s5, s6, s7, s8, s9, s10⟩
      · obtain ⟨c1, c2, c3, c4, c5, c6, c7, c8⟩ := cE
        unfold iC
        rw [e0, ee, R' 818 (by decide) (by decide) (by decide) (by decide) (by decide), R' 819 (by decide) (by decide) (by decide) (by decide) (by decide), R' 822 (by decide) (by decide) (by decide) (by decide) (by decide)]
        refine ⟨by omega, c2, ⟨c3.1, fun _ => c3.2 (by omega)⟩, fun q => c4 (by omega), fun q => c5 (by omega), c6, ?_, ?_⟩
        · intro _
          rw [e0, ee, R829, upd_s, R' 818 (by decide) (by decide) (by decide) (by decide) (by decide), R' 820 (by decide) (by decide) (by decide) (by decide) (by decide), B1 1 (by decide), B1 4 (by decide), B1 5 (by decide), show z 828 (20 * p) = v 873 0 from B1 0 (by decide), sumL_ext (g := v 873) _ (fun i hi => B1 i hi)]
          exact ⟨hm, h0, hsum, hcase⟩
        · rcases is0 with k | ⟨k1, k2⟩
          · rw [k]; exact c8
          · refine ⟨fun _ => by omega, fun _ => by omega, fun _ => ?_, fun _ => by omega⟩
            rcases k2 with k2 | k2
            · have := c8.2.1 k2; omega
            · have := c8.2.2.1 (Or.inl k2); omega
      · unfold iT at tE ⊢; rw [e0, ef, R' 818 (by decide) (by decide) (by decide) (by decide) (by decide)]; exact tE
      · unfold iT at uE ⊢; rw [e0, ef, R' 818 (by decide) (by decide) (by decide) (by decide) (by decide)]; exact uE
    · refine ⟨?_, rr p rF, ?_, ?_, ?_⟩
      · refine iS.one (fun k => ⟨qf, by rw [R' _ (by decide) (by decide) (by decide) (by decide) (by decide)], by rw [R' _ (by decide) (by decide) (by decide) (by decide) (by decide)], by rw [R' _ (by decide) (by decide) (by decide) (by decide) (by decide)], by rw [R' _ (by decide) (by decide) (by decide) (by decide) (by decide)], by rw [R' _ (by decide) (by decide) (by decide) (by decide) (by decide)], by rw [R' _ (by decide) (by decide) (by decide) (by decide) (by decide)], by rw [R' _ (by decide) (by decide) (by decide) (by decide) (by decide)], fun _ => ⟨by rw [R' _ (by decide) (by decide) (by decide) (by decide) (by decide)], by rw [R' _ (by decide) (by decide) (by decide) (by decide) (by decide)]⟩⟩) ⟨rfl, rfl, rfl, rfl⟩ sF
      · exact cF.one e0 (fun i => ⟨ef, by rw [R' 818 (by decide) (by decide) (by decide) (by decide) (by decide)], by rw [R' 819 (by decide) (by decide) (by decide) (by decide) (by decide)], by rw [R' 820 (by decide) (by decide) (by decide) (by decide) (by decide)], by rw [R' 822 (by decide) (by decide) (by decide) (by decide) (by decide)], by rw [R825, upd_n (by omega)], by rw [R829, upd_n (by omega)], B2 i⟩) (by rw [R' 818 (by decide) (by decide) (by decide) (by decide) (by decide)]; exact Int.le_refl _) ⟨rfl, rfl, rfl, rfl, rfl⟩ (Int.le_refl _) (Int.le_refl _)
      · unfold iT at tF ⊢; rw [e0, ee, R' 818 (by decide) (by decide) (by decide) (by decide) (by decide)]; exact ⟨tF.1.wk (fun q => ⟨by omega, q.2⟩), tF.2⟩
      · unfold iT at uF ⊢; rw [e0, ee, R' 818 (by decide) (by decide) (by decide) (by decide) (by decide)]; exact ⟨uF.1.wk (fun q => ⟨by omega, q.2⟩), uF.2⟩
  · intro u hu1 hu2
    rw [e816] at hu1 hu2
    refine (hF u hu1 hu2).mp (by rw [R' 869 (by decide) (by decide) (by decide) (by decide) (by decide)]) (by rw [R' 870 (by decide) (by decide) (by decide) (by decide) (by decide)]) (by rw [R' 871 (by decide) (by decide) (by decide) (by decide) (by decide)]) (fun i hi => by rw [R' 868 (by decide) (by decide) (by decide) (by decide) (by decide)]) (fun s hs => hs) rfl rfl (fun R0 S0 hRS f0 z0 s es hcs hk hU => ?_)
    rw [R' 818 (by decide) (by decide) (by decide) (by decide) (by decide), R' 822 (by decide) (by decide) (by decide) (by decide) (by decide)]
    refine ⟨hU, fun q => ?_⟩
    have q2 := hk q
    by_cases eS : S0 = e
    · subst eS
      rw [ee]
      exact ⟨by omega, by omega, fun k => q2.2.2 (by omega)⟩
    · have : S0 = f := by omega
      subst this
      rw [ef]
      exact q2
  · obtain ⟨n1, n2, n3, n4, n5, n6, n7, n8⟩ := hN0
    unfold iN
    rw [e816]
    exact ⟨n1, n2, n3, n4, n5, n6, by omega, n8⟩
end IM
