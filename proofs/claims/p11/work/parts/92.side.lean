/-! what changes the sender's side of one end alone -/
def sd (a : Nat) : Bool := a == 830 || a == 831 || a == 832 || a == 834 || a == 838 || a == 839 || a == 840 || a == 841 || a == 843 || a == 844
section IM
variable {g g' c c' : Nat → Int → Int} {d0 d1 d2 L M κ om : Int} {v v1 : VV}
theorem iT.gg {i R S : Nat} (h : iT g c i R S v) (h0 : v1 816 0 = v 816 0) (h817 : v1 817 = v 817) (h818 : v1 818 = v 818) (g1 : g' i = g i) (g2 : g' (4 + i) = g (4 + i)) (g3 : g' (8 + i) = g (8 + i)) (g4 : g' (12 + i) = g (12 + i)) (g5 : g' (16 + S) = g (16 + S)) (hc : c 4 (v 816 0).toInt ≤ c' 4 (v 816 0).toInt) : iT g' c' i R S v1 := by
  unfold iT at h ⊢
  rw [h0, h817, h818, g1, g2, g3, g4, g5]
  exact ⟨h.1, by omega, by omega⟩
theorem iR.gg {p : Nat} (h : iR g p v) (g1 : g' p = g p) (g2 : g' (p + 2) = g (p + 2)) (g3 : g' (4 + p) = g (4 + p)) : iR g' p v := by
  unfold iR at h ⊢
  rw [g1, g2, g3]
  exact h
theorem iC.gg {p q : Nat} (h : iC g M κ p q v) (g1 : g' p = g p) (g2 : g' (p + 2) = g (p + 2)) (g5 : g' (16 + p) = g (16 + p)) (hs : (v 817 p).toInt = 1 → g' (8 + q) 0 = g (8 + q) 0 ∧ g' (8 + (q + 2)) 0 = g (8 + (q + 2)) 0) : iC g' M κ p q v := by
  obtain ⟨c1, c2, c3, c4, c5, c6, c7, c8⟩ := h
  refine ⟨c1, c2, c3, by rw [g5]; exact c4, fun q1 => ?_, c6, ?_, c8⟩
  · have := hs q1
    rw [g1, g2, this.1, this.2]
    exact c5 q1
  · unfold iW at c7 ⊢
    rw [g1, g2]
    exact c7
theorem iF.moreN (h : iF g c v) (R868 : v1 868 = v 868) (R869 : v1 869 = v 869) (R870 : v1 870 = v 870) (R871 : v1 871 = v 871) (R817 : v1 817 = v 817) (R818 : v1 818 = v 818) (R822 : v1 822 = v 822) (e54 : v1 816 54 = v 816 54) (e55 : v1 816 55 = v 816 55) (hc : ∀ a, a < 3 → c' a = c a) (hH : ∀ i, i < 4 → g' i = g i) (hN : ∀ i, i < 4 → g (8 + i) 0 ≤ g' (8 + i) 0) : iF g' c' v1 := by
  intro u hu1 hu2
  rw [e55] at hu1
  rw [e54] at hu2
  refine (h u hu1 hu2).mp (by rw [R869]) (by rw [R870]) (by rw [R871]) (fun i hi => by rw [R868]) (fun s hs => by rw [hc 0 (by decide)]; exact hs) (by rw [hc 1 (by decide)]) (by rw [hc 2 (by decide)]) (fun R0 S0 hRS f0 z0 s es hcs hk hU => ?_)
  rw [R817, R818, R822]
  exact ⟨hU.moreN hRS hH hN, hk⟩
theorem Im.side {e f : Nat} {d0' d1' d2' L' : Int} (h : Im g c d0 d1 d2 L M κ om v) (hef : EF e f) (R : ∀ a, fre a = false → sd a = false → v1 a = v a) (K : ∀ k, k = 0 ∨ k = 49 ∨ k = 54 ∨ k = 55 → v1 816 k = v 816 k) (hlen : 0 ≤ (v1 816 48).toInt ∧ (v1 816 48).toInt ≤ 64) (hb : iBy v1) (hO : ∀ k, v1 830 f = v 830 f ∧ v1 831 f = v 831 f ∧ v1 838 f = v 838 f ∧ v1 839 f = v 839 f ∧ v1 840 f = v 840 f ∧ v1 841 f = v 841 f ∧ v1 843 f = v 843 f ∧ v1 844 f = v 844 f ∧ (k < 40 → v1 832 (40 * f + k) = v 832 (40 * f + k) ∧ v1 834 (40 * f + k) = v 834 (40 * f + k))) (hg : ∀ j, j ≠ 8 + f → j ≠ 12 + f → j ≠ 8 + (f + 2) → j ≠ 12 + (f + 2) → g' j = g j) (hN : g (8 + f) 0 ≤ g' (8 + f) 0 ∧ g (8 + (f + 2)) 0 ≤ g' (8 + (f + 2)) 0) (hs : (v 817 e).toInt = 1 → g' (8 + f) 0 = g (8 + f) 0 ∧ g' (8 + (f + 2)) 0 = g (8 + (f + 2)) 0) (hS : iS g' e f v1) (hT : iT g' c' f f e v1) (hU : iT g' c' (f + 2) f e v1) (hc : (∀ a, a < 3 → c' a = c a) ∧ c 4 (v 816 0).toInt ≤ c' 4 (v 816 0).toInt) (hNN : iN c' d0' d1' d2' L' om v1) : Im g' c' d0' d1' d2' L' M κ om v1 := by
  obtain ⟨⟨a1, a2, a3, a4⟩, hE, hF, hN0⟩ := h
  have e0 := K 0 (by decide)
  obtain ⟨sE, rE, cE, tE, uE⟩ := hE e f hef
  have hfe : EF f e := by omega
  obtain ⟨sF, rF, cF, tF, uF⟩ := hE f e hfe
  refine ⟨⟨⟨by rw [e0]; exact a1.1, hlen, by rw [K 49 (by decide), R 869 rfl rfl]; exact a1.2.2⟩, hb, ?_, a4⟩, ?_, ?_, hNN⟩
  · unfold iFa
    rw [K 49 (by decide), R 864 rfl rfl, R 866 rfl rfl, R 867 rfl rfl]
    exact a3
  · intro p q hpq
    have hp : (p = e ∧ q = f) ∨ (p = f ∧ q = e) := by omega
    rcases hp with ⟨rfl, rfl⟩ | ⟨rfl, rfl⟩
    · refine ⟨hS, (rE.cg e0 (R _ rfl rfl) (R _ rfl rfl) (R _ rfl rfl) (R _ rfl rfl) (R _ rfl rfl) (R _ rfl rfl) (R _ rfl rfl) (R _ rfl rfl) (R _ rfl rfl) (R _ rfl rfl) (R _ rfl rfl)).gg (hg _ (by omega) (by omega) (by omega) (by omega)) (hg _ (by omega) (by omega) (by omega) (by omega)) (hg _ (by omega) (by omega) (by omega) (by omega)), ?_, tE.gg e0 (R _ rfl rfl) (R _ rfl rfl) (hg _ (by omega) (by omega) (by omega) (by omega)) (hg _ (by omega) (by omega) (by omega) (by omega)) (hg _ (by omega) (by omega) (by omega) (by omega)) (hg _ (by omega) (by omega) (by omega) (by omega)) (hg _ (by omega) (by omega) (by omega) (by omega)) hc.2, uE.gg e0 (R _ rfl rfl) (R _ rfl rfl) (hg _ (by omega) (by omega) (by omega) (by omega)) (hg _ (by omega) (by omega) (by omega) (by omega)) (hg _ (by omega) (by omega) (by omega) (by omega)) (hg _ (by omega) (by omega) (by omega) (by omega)) (hg _ (by omega) (by omega) (by omega) (by omega)) hc.2⟩
      exact (cE.cg e0 (R _ rfl rfl) (R _ rfl rfl) (R _ rfl rfl) (R _ rfl rfl) (R _ rfl rfl) (R _ rfl rfl) (R _ rfl rfl) (R _ rfl rfl)).gg (hg _ (by omega) (by omega) (by omega) (by omega)) (hg _ (by omega) (by omega) (by omega) (by omega)) (hg _ (by omega) (by omega) (by omega) (by omega)) (fun q1 => hs (by rw [R 817 rfl rfl] at q1; exact q1))
    · refine ⟨iS.one hO ⟨by rw [hg _ (by omega) (by omega) (by omega) (by omega)], by rw [hg _ (by omega) (by omega) (by omega) (by omega)], by rw [hg _ (by omega) (by omega) (by omega) (by omega)], by rw [hg _ (by omega) (by omega) (by omega) (by omega)]⟩ sF, (rF.cg e0 (R _ rfl rfl) (R _ rfl rfl) (R _ rfl rfl) (R _ rfl rfl) (R _ rfl rfl) (R _ rfl rfl) (R _ rfl rfl) (R _ rfl rfl) (R _ rfl rfl) (R _ rfl rfl) (R _ rfl rfl)).gg (hg _ (by omega) (by omega) (by omega) (by omega)) (hg _ (by omega) (by omega) (by omega) (by omega)) (hg _ (by omega) (by omega) (by omega) (by omega)), ?_, hT, hU⟩
      exact (cF.cg e0 (R _ rfl rfl) (R _ rfl rfl) (R _ rfl rfl) (R _ rfl rfl) (R _ rfl rfl) (R _ rfl rfl) (R _ rfl rfl) (R _ rfl rfl)).gg (hg _ (by omega) (by omega) (by omega) (by omega)) (hg _ (by omega) (by omega) (by omega) (by omega)) (hg _ (by omega) (by omega) (by omega) (by omega)) (fun q1 => ⟨by rw [hg _ (by omega) (by omega) (by omega) (by omega)], by rw [hg _ (by omega) (by omega) (by omega) (by omega)]⟩)
  · refine hF.moreN (R _ rfl rfl) (R _ rfl rfl) (R _ rfl rfl) (R _ rfl rfl) (R _ rfl rfl) (R _ rfl rfl) (R _ rfl rfl) (K 54 (by decide)) (K 55 (by decide)) hc.1 (fun i hi => hg i (by omega) (by omega) (by omega) (by omega)) (fun i hi => ?_)
    by_cases e1 : i = f
    · rw [e1]; exact hN.1
    · by_cases e2 : i = f + 2
      · rw [e2]; exact hN.2
      · rw [hg _ (by omega) (by omega) (by omega) (by omega)]; exact Int.le_refl _
theorem iBy.cg (h : iBy v) (h828 : v1 828 = v 828) (h837 : v1 837 = v 837) (h842 : v1 842 = v 842) (h863 : v1 863 = v 863) (h868 : v1 868 = v 868) (h873 : v1 873 = v 873) : iBy v1 := by
  intro k
  rw [h828, h837, h842, h863, h868, h873]
  exact h k
/-- an urgent byte's first sending -/
theorem Im.urge1 {e f : Nat} {x : Int32} (h : Im g c d0 d1 d2 L M κ om v) (ho : 1 ≤ om) (hef : EF e f) (hst : (v 817 e).toInt = 2) (hu : (v 844 e).toInt = 0) (hq : 0 < (v 841 e).toInt) (hx : x.toInt = 1) : Im (upG g (8 + (f + 2)) (fun _ => g (8 + (f + 2)) 0 + 1)) (upG c 4 (upH (c 4) (v 816 0).toInt (c 4 (v 816 0).toInt + 1))) d0 (d1 + 1) d2 L M κ om (up2 v 844 e x) := by
  have h' := h
  obtain ⟨⟨a1, a2, a3, a4⟩, hE, hF, hN0⟩ := h
  obtain ⟨sE, rE, cE, tE, uE⟩ := hE e f hef
  have hfe : EF f e := by omega
  obtain ⟨sF, rF, cF, tF, uF⟩ := hE f e hfe
  have R : ∀ a, a ≠ 844 → up2 v 844 e x a = v a := fun a ha => up2_of v 844 e x ha
  have gN : upG g (8 + (f + 2)) (fun _ => g (8 + (f + 2)) 0 + 1) (8 + (f + 2)) 0 = g (8 + (f + 2)) 0 + 1 := by rw [upG_s]
  have gO : ∀ j, j ≠ 8 + (f + 2) → upG g (8 + (f + 2)) (fun _ => g (8 + (f + 2)) 0 + 1) j = g j := fun j hj => upG_n hj
  generalize upG g (8 + (f + 2)) (fun _ => g (8 + (f + 2)) 0 + 1) = g' at gN gO
  have c4 : upG c 4 (upH (c 4) (v 816 0).toInt (c 4 (v 816 0).toInt + 1)) 4 (v 816 0).toInt = c 4 (v 816 0).toInt + 1 := by rw [upG_s, upH_ge (Int.le_refl _)]
  have bke : bnk (up2 v 844 e x) e = bnk v e - 1 := by
    unfold bnk
    rw [R 830 (by decide), R 831 (by decide), R 841 (by decide), up2_s, hx, hu, if_pos rfl, if_neg (by decide)]
    omega
  have bkf : bnk (up2 v 844 e x) f = bnk v f := by
    unfold bnk
    rw [R 830 (by decide), R 831 (by decide), R 841 (by decide), up2_k _ _ _ _ (by omega)]
  have bk2 : bnk (up2 v 844 e x) 0 + bnk (up2 v 844 e x) 1 = bnk v 0 + bnk v 1 - 1 := by
    rcases hef with ⟨rfl, rfl⟩ | ⟨rfl, rfl⟩ <;> omega
  obtain ⟨s1, s2, s3, s4, s5, s6, s7, s8, s9, s10⟩ := sE
  rw [if_pos hu] at s9
  refine h'.side hef (fun a _ h2 => R a (fun q => by rw [q] at h2; cases h2)) (fun k _ => by rw [R 816 (by decide)]) (by rw [R 816 (by decide)]; exact a1.2.1) (a2.cg (R _ (by decide)) (R _ (by decide)) (R _ (by decide)) (R _ (by decide)) (R _ (by decide)) (R _ (by decide))) (fun k => ⟨by rw [R 830 (by decide)], by rw [R 831 (by decide)], by rw [R 838 (by decide)], by rw [R 839 (by decide)], by rw [R 840 (by decide)], by rw [R 841 (by decide)], by rw [R 843 (by decide)], up2_k _ _ _ _ (by omega), fun _ => ⟨by rw [R 832 (by decide)], by rw [R 834 (by decide)]⟩⟩) (fun j _ _ h3 _ => gO j h3) ⟨by rw [gO _ (by omega)]; exact Int.le_refl _, by omega⟩ (fun q => by omega) ?_ ?_ ?_ ⟨fun a ha => upG_n (by omega), by omega⟩ (hN0.bud4 (by rw [R 816 (by decide)]) (by rw [R 816 (by decide)]) (by rw [R 816 (by decide)]) (by rw [R 816 (by decide)]; have := hN0.2.2.2.2.2.2.1; omega) ho)
  · unfold iS
    rw [gN, gO (12 + f) (by omega), gO (8 + f) (by omega), gO (12 + (f + 2)) (by omega), up2_s, hx, R 830 (by decide), R 831 (by decide), R 832 (by decide), R 834 (by decide), R 838 (by decide), R 839 (by decide), R 840 (by decide), R 841 (by decide), R 843 (by decide), if_neg (by decide)]
    exact ⟨s1, s2, s3, s4, s5, s6, s7, by omega, by omega, fun q => by omega⟩
  · exact tF.gg (by rw [R 816 (by decide)]) (R _ (by decide)) (R _ (by decide)) (gO _ (by omega)) (gO _ (by omega)) (gO _ (by omega)) (gO _ (by omega)) (gO _ (by omega)) (by omega)
  · unfold iT at uF ⊢
    rw [R 816 (by decide), R 817 (by decide), R 818 (by decide), c4, gN, gO (f + 2) (by omega), gO (4 + (f + 2)) (by omega), gO (12 + (f + 2)) (by omega), gO (16 + e) (by omega)]
    exact ⟨uF.1.first (by omega), by omega, by omega⟩
theorem Im.urge2 {e f : Nat} {x : Int32} (h : Im g c d0 d1 d2 L M κ om v) (hef : EF e f) (hu : (v 844 e).toInt ≠ 0) (hx : 1 ≤ x.toInt ∧ x.toInt ≤ 4) : Im g c d0 d1 d2 L M κ om (up2 v 844 e x) := by
  have h' := h
  obtain ⟨⟨a1, a2, a3, a4⟩, hE, hF, hN0⟩ := h
  obtain ⟨sE, rE, cE, tE, uE⟩ := hE e f hef
  have hfe : EF f e := by omega
  obtain ⟨sF, rF, cF, tF, uF⟩ := hE f e hfe
  have R : ∀ a, a ≠ 844 → up2 v 844 e x a = v a := fun a ha => up2_of v 844 e x ha
  have bke : bnk (up2 v 844 e x) e = bnk v e := by
    unfold bnk
    rw [R 830 (by decide), R 831 (by decide), R 841 (by decide), up2_s, if_neg hu, if_neg (by omega)]
  have bkf : bnk (up2 v 844 e x) f = bnk v f := by
    unfold bnk
    rw [R 830 (by decide), R 831 (by decide), R 841 (by decide), up2_k _ _ _ _ (by omega)]
  have bk2 : bnk (up2 v 844 e x) 0 + bnk (up2 v 844 e x) 1 = bnk v 0 + bnk v 1 := by
    rcases hef with ⟨rfl, rfl⟩ | ⟨rfl, rfl⟩ <;> omega
  obtain ⟨s1, s2, s3, s4, s5, s6, s7, s8, s9, s10⟩ := sE
  rw [if_neg hu] at s9
  refine h'.side hef (fun a _ h2 => R a (fun q => by rw [q] at h2; cases h2)) (fun k _ => by rw [R 816 (by decide)]) (by rw [R 816 (by decide)]; exact a1.2.1) (a2.cg (R _ (by decide)) (R _ (by decide)) (R _ (by decide)) (R _ (by decide)) (R _ (by decide)) (R _ (by decide))) (fun k => ⟨by rw [R 830 (by decide)], by rw [R 831 (by decide)], by rw [R 838 (by decide)], by rw [R 839 (by decide)], by rw [R 840 (by decide)], by rw [R 841 (by decide)], by rw [R 843 (by decide)], up2_k _ _ _ _ (by omega), fun _ => ⟨by rw [R 832 (by decide)], by rw [R 834 (by decide)]⟩⟩) (fun j _ _ h3 _ => rfl) ⟨Int.le_refl _, Int.le_refl _⟩ (fun q => ⟨rfl, rfl⟩) ?_ ?_ ?_ ⟨fun a ha => rfl, Int.le_refl _⟩ ?_
  · unfold iS
    rw [up2_s, R 830 (by decide), R 831 (by decide), R 832 (by decide), R 834 (by decide), R 838 (by decide), R 839 (by decide), R 840 (by decide), R 841 (by decide), R 843 (by decide), if_neg (by omega)]
    exact ⟨s1, s2, s3, s4, s5, s6, s7, by omega, by omega, fun q => absurd (s10 q) hu⟩
  · exact tF.gg (by rw [R 816 (by decide)]) (R _ (by decide)) (R _ (by decide)) rfl rfl rfl rfl rfl (Int.le_refl _)
  · exact uF.gg (by rw [R 816 (by decide)]) (R _ (by decide)) (R _ (by decide)) rfl rfl rfl rfl rfl (Int.le_refl _)
  · obtain ⟨n1, n2, n3, n4, n5, n6, n7, n8⟩ := hN0
    unfold iN
    rw [R 816 (by decide)]
    exact ⟨n1, n2, n3, n4, n5, n6, by omega, n8⟩
end IM
