/-! what changes the receiver's side of one end alone -/
def rc (a : Nat) : Bool := a == 846 || a == 847 || a == 848 || a == 851 || a == 852 || a == 854 || a == 855 || a == 856 || a == 858 || a == 859 || a == 861
section IM
variable {g g' c c' : Nat → Int → Int} {d0 d1 d2 L M κ om : Int} {v v1 : VV}
theorem UOK.grow {R S : Nat} {rr rs t : Int} {f : Nat → Int} {z s : Int} (h : UOK g R S rr rs f z s) (hRS : EF R S) (hs : s ≤ t) (G : ∀ i, i < 4 → (∀ a, a < t → g' i a = g i a) ∧ g i t ≤ g' i t ∧ g' (8 + i) 0 = g (8 + i) 0) : UOK g' R S rr rs f z s := by
  have FRg : ∀ i r, i < 4 → FR (g i) r s → FR (g' i) r s := fun i r hi q => by
    obtain ⟨g1, g2, g3⟩ := G i hi
    refine ⟨by rw [g1 _ (by omega)]; exact q.1, ?_⟩
    by_cases e : s = t
    · rw [e]; have := q.2; rw [e] at this; omega
    · rw [g1 _ (by omega)]; exact q.2
  have FDg : ∀ i rr f2 f3 f4, i < 4 → uDat g i rr f2 f3 f4 s → uDat g' i rr f2 f3 f4 s := fun i rr f2 f3 f4 hi q => by
    obtain ⟨g1, g2, g3⟩ := G i hi
    obtain ⟨a, l, m, q1, q2, q3, q4, q5, q6⟩ := q
    refine ⟨a, l, m, q1, q2, q3, q4, q5, q6.1, by rw [g3]; exact q6.2.1, fun q7 => ?_⟩
    rw [g1 _ (by omega), g1 _ (by omega)]
    exact q6.2.2 q7
  refine h.mp rfl rfl (fun _ q => ?_) (fun _ q => ?_) (fun _ q => ?_) (fun _ q => ?_) (fun _ q => ?_)
  · unfold uFrom at q ⊢; rw [(G S (by omega)).1 _ (by omega), (G (S + 2) (by omega)).1 _ (by omega)]; exact q
  · obtain ⟨r, q1, q2⟩ := q; exact ⟨r, q1, FRg S r (by omega) q2⟩
  · obtain ⟨r, q1, q2⟩ := q; exact ⟨r, q1, FRg (S + 2) r (by omega) q2⟩
  · exact FDg R _ _ _ _ (by omega) q
  · exact FDg (R + 2) _ _ _ _ (by omega) q
theorem iN.le {u : Nat} {s : Int} (h : iN c d0 d1 d2 L om v) (hu : (u : Int) < (v 816 54).toInt) (hs : c 0 (s - 1) ≤ (u : Int)) : s ≤ (v 816 0).toInt := by
  by_cases q : s ≤ (v 816 0).toInt
  · exact q
  · have := h.1.2.1 (s - 1) (by omega)
    omega
theorem iF.grow (h : iF g c v) (hN : iN c d0 d1 d2 L om v) (R868 : v1 868 = v 868) (R869 : v1 869 = v 869) (R870 : v1 870 = v 870) (R871 : v1 871 = v 871) (R817 : v1 817 = v 817) (R818 : v1 818 = v 818) (R822 : v1 822 = v 822) (e54 : v1 816 54 = v 816 54) (e55 : v1 816 55 = v 816 55) (G : ∀ i, i < 4 → (∀ a, a < (v 816 0).toInt → g' i a = g i a) ∧ g i (v 816 0).toInt ≤ g' i (v 816 0).toInt ∧ g' (8 + i) 0 = g (8 + i) 0) : iF g' c v1 := by
  intro u hu1 hu2
  rw [e55] at hu1
  rw [e54] at hu2
  refine (h u hu1 hu2).mp (by rw [R869]) (by rw [R870]) (by rw [R871]) (fun i hi => by rw [R868]) (fun s hs => hs) rfl rfl (fun R0 S0 hRS f0 z0 s es hcs hk hU => ?_)
  rw [R817, R818, R822]
  exact ⟨hU.grow hRS (hN.le hu2 hcs.1) G, hk⟩
/-- the ghosts of a receiver that has moved on -/
def gr (g : Nat → Int → Int) (e : Nat) (t E X KB XB : Int) : Nat → Int → Int := upG (upG (upG (upG g e (upH (g e) t E)) (e + 2) (upH (g (e + 2)) t X)) (4 + e) (fun _ => KB)) (4 + (e + 2)) (fun _ => XB)
section GR
variable {e : Nat} {t E X KB XB : Int}
theorem gr1 (he : e < 2) : gr g e t E X KB XB e = upH (g e) t E := by unfold gr; rw [upG_n (by omega), upG_n (by omega), upG_n (by omega), upG_s]
theorem gr2 (he : e < 2) : gr g e t E X KB XB (e + 2) = upH (g (e + 2)) t X := by unfold gr; rw [upG_n (by omega), upG_n (by omega), upG_s]
theorem gr3 (he : e < 2) : gr g e t E X KB XB (4 + e) = fun _ => KB := by unfold gr; rw [upG_n (by omega), upG_s]
theorem gr4 : gr g e t E X KB XB (4 + (e + 2)) = fun _ => XB := by unfold gr; rw [upG_s]
theorem gr30 (he : e < 2) : gr g e t E X KB XB (4 + e) 0 = KB := by rw [gr3 he]
theorem gr40 : gr g e t E X KB XB (4 + (e + 2)) 0 = XB := by rw [gr4]
theorem gr0 {j : Nat} (h1 : j ≠ e) (h2 : j ≠ e + 2) (h3 : j ≠ 4 + e) (h4 : j ≠ 4 + (e + 2)) : gr g e t E X KB XB j = g j := by unfold gr; rw [upG_n h4, upG_n h3, upG_n h2, upG_n h1]
end GR
theorem iR.one {e : Nat} (h0 : v1 816 0 = v 816 0) (h : ∀ k, v1 846 e = v 846 e ∧ v1 847 e = v 847 e ∧ v1 851 e = v 851 e ∧ v1 852 e = v 852 e ∧ v1 854 e = v 854 e ∧ v1 858 e = v 858 e ∧ v1 859 e = v 859 e ∧ v1 861 e = v 861 e ∧ (k < 128 → v1 848 (128 * e + k) = v 848 (128 * e + k)) ∧ (k < 64 → v1 855 (64 * e + k) = v 855 (64 * e + k) ∧ v1 856 (64 * e + k) = v 856 (64 * e + k))) (hR : iR g e v) : iR g e v1 := by
  obtain ⟨a1, a2, a3, a4, a5, a6, a7, a8, a9⟩ := hR
  obtain ⟨r1, r2, r3, r4, r5, r6, r7, r8, _⟩ := h 0
  unfold iR
  rw [h0, r1, r2, r3, r4, r5, r6, r7, r8]
  refine ⟨a1, fun k hk => ?_, a3, a4, fun m hm => ?_, ?_, ?_, a8, a9⟩
  · rw [(h k).2.2.2.2.2.2.2.2.1 hk]; exact a2 k hk
  · have := (h m).2.2.2.2.2.2.2.2.2 (by omega)
    rw [this.1, this.2]; exact a5 m hm
  · rw [sumL_ext (g := fun m => v 855 (64 * e + m)) _ (fun i hi => ((h i).2.2.2.2.2.2.2.2.2 (by omega)).1)]; exact a6
  · rw [sumL_ext (g := fun m => v 856 (64 * e + m)) _ (fun i hi => ((h i).2.2.2.2.2.2.2.2.2 (by omega)).2)]; exact a7
theorem Im.rside {e f : Nat} {E X KB XB : Int} (h : Im g c d0 d1 d2 L M κ om v) (hef : EF e f) (R : ∀ a, fre a = false → rc a = false → v1 a = v a) (K : ∀ k, k = 0 ∨ k = 48 ∨ k = 49 ∨ k = 54 ∨ k = 55 → v1 816 k = v 816 k) (hb : iBy v1) (hO : ∀ k, v1 846 f = v 846 f ∧ v1 847 f = v 847 f ∧ v1 851 f = v 851 f ∧ v1 852 f = v 852 f ∧ v1 854 f = v 854 f ∧ v1 858 f = v 858 f ∧ v1 859 f = v 859 f ∧ v1 861 f = v 861 f ∧ (k < 128 → v1 848 (128 * f + k) = v 848 (128 * f + k)) ∧ (k < 64 → v1 855 (64 * f + k) = v 855 (64 * f + k) ∧ v1 856 (64 * f + k) = v 856 (64 * f + k))) (hq : ((v 825 e).toInt = 0 ∧ (v 817 e).toInt ≠ 1) ∨ (E = g e (v 816 0).toInt ∧ X = g (e + 2) (v 816 0).toInt)) (h1 : g e (v 816 0).toInt ≤ E ∧ g (4 + e) 0 ≤ KB ∧ E ≤ KB + 1 ∧ KB ≤ g e ((v 816 0).toInt - 4) + 6 ∧ ((v 817 f).toInt = 2 ∧ g (16 + f) 0 = (v 818 e).toInt → KB ≤ max (g (8 + e) 0) 20) ∧ KB ≤ c 4 (v 816 0).toInt) (h2 : g (e + 2) (v 816 0).toInt ≤ X ∧ g (4 + (e + 2)) 0 ≤ XB ∧ X ≤ XB + 1 ∧ XB ≤ g (e + 2) ((v 816 0).toInt - 4) + 6 ∧ ((v 817 f).toInt = 2 ∧ g (16 + f) 0 = (v 818 e).toInt → XB ≤ max (g (8 + (e + 2)) 0) 20) ∧ XB ≤ c 4 (v 816 0).toInt) (hR : iR (gr g e (v 816 0).toInt E X KB XB) e v1) : Im (gr g e (v 816 0).toInt E X KB XB) c d0 d1 d2 L M κ om v1 := by
  obtain ⟨⟨a1, a2, a3, a4⟩, hE, hF, hN0⟩ := h
  have e0 := K 0 (by decide)
  obtain ⟨sE, rE, cE, tE, uE⟩ := hE e f hef
  have hfe : EF f e := by omega
  obtain ⟨sF, rF, cF, tF, uF⟩ := hE f e hfe
  have he2 : e < 2 := by omega
  have G1 := gr1 (g := g) (t := (v 816 0).toInt) (E := E) (X := X) (KB := KB) (XB := XB) he2
  have G2 := gr2 (g := g) (t := (v 816 0).toInt) (E := E) (X := X) (KB := KB) (XB := XB) he2
  have G3 := gr3 (g := g) (t := (v 816 0).toInt) (E := E) (X := X) (KB := KB) (XB := XB) he2
  have G4 := gr4 (g := g) (e := e) (t := (v 816 0).toInt) (E := E) (X := X) (KB := KB) (XB := XB)
  have G0 : ∀ j, j ≠ e → j ≠ e + 2 → j ≠ 4 + e → j ≠ 4 + (e + 2) → gr g e (v 816 0).toInt E X KB XB j = g j := fun j q1 q2 q3 q4 => gr0 q1 q2 q3 q4
  generalize gr g e (v 816 0).toInt E X KB XB = g' at *
  have N1 : g' e (v 816 0).toInt = E := by rw [G1, upH_ge (Int.le_refl _)]
  have N2 : g' (e + 2) (v 816 0).toInt = X := by rw [G2, upH_ge (Int.le_refl _)]
  refine ⟨⟨?_, hb, ?_, a4⟩, ?_, ?_, ?_⟩
  · unfold iSc
    rw [e0, K 48 (by decide), K 49 (by decide), R 869 rfl rfl]; exact a1
  · unfold iFa
    rw [K 49 (by decide), R 864 rfl rfl, R 866 rfl rfl, R 867 rfl rfl]
    exact a3
  · intro p q hpq
    have hp : (p = e ∧ q = f) ∨ (p = f ∧ q = e) := by omega
    rcases hp with ⟨rfl, rfl⟩ | ⟨rfl, rfl⟩
    · have cS := sE.cg (v1 := v1) (R _ rfl rfl) (R _ rfl rfl) (R _ rfl rfl) (R _ rfl rfl) (R _ rfl rfl) (R _ rfl rfl) (R _ rfl rfl) (R _ rfl rfl) (R _ rfl rfl) (R _ rfl rfl)
      have cC := cE.cg (v1 := v1) e0 (R _ rfl rfl) (R _ rfl rfl) (R _ rfl rfl) (R _ rfl rfl) (R _ rfl rfl) (R _ rfl rfl) (R _ rfl rfl) (R _ rfl rfl)
      refine ⟨?_, hR, ?_, ?_, ?_⟩
      · unfold iS at cS ⊢
        rw [G0 (8 + q) (by omega) (by omega) (by omega) (by omega), G0 (12 + q) (by omega) (by omega) (by omega) (by omega), G0 (8 + (q + 2)) (by omega) (by omega) (by omega) (by omega), G0 (12 + (q + 2)) (by omega) (by omega) (by omega) (by omega)]
        exact cS
      · obtain ⟨c1, c2, c3, c4, c5, c6, c7, c8⟩ := cC
        refine ⟨c1, c2, c3, by rw [G0 (16 + p) (by omega) (by omega) (by omega) (by omega)]; exact c4, fun q1 => ?_, c6, ?_, c8⟩
        · have c5 := c5 q1
          rw [e0] at c5 ⊢
          rw [G0 (8 + q) (by omega) (by omega) (by omega) (by omega), G0 (8 + (q + 2)) (by omega) (by omega) (by omega) (by omega), N1, N2]
          rw [R 817 rfl rfl] at q1
          rcases hq with hq | hq
          · exact absurd q1 hq.2
          · rw [hq.1, hq.2]; exact c5
        · intro q1
          have c7 := c7 q1
          rw [R 825 rfl rfl] at q1
          rcases hq with hq | hq
          · exact absurd hq.1 q1
          · rw [e0] at c7 ⊢
            rw [N1, N2, hq.1, hq.2]; exact c7
      · unfold iT at tE ⊢
        rw [e0, R 817 rfl rfl, R 818 rfl rfl, G1, G3, G0 (8 + p) (by omega) (by omega) (by omega) (by omega), G0 (12 + p) (by omega) (by omega) (by omega) (by omega), G0 (16 + q) (by omega) (by omega) (by omega) (by omega)]
        exact ⟨tE.1.grow h1.1 h1.2.1 h1.2.2.1 h1.2.2.2.1 h1.2.2.2.2.1, tE.2.1, h1.2.2.2.2.2⟩
      · unfold iT at uE ⊢
        rw [e0, R 817 rfl rfl, R 818 rfl rfl, G2, G4, G0 (8 + (p + 2)) (by omega) (by omega) (by omega) (by omega), G0 (12 + (p + 2)) (by omega) (by omega) (by omega) (by omega), G0 (16 + q) (by omega) (by omega) (by omega) (by omega)]
        exact ⟨uE.1.grow h2.1 h2.2.1 h2.2.2.1 h2.2.2.2.1 h2.2.2.2.2.1, uE.2.1, h2.2.2.2.2.2⟩
    · have cS := sF.cg (v1 := v1) (R _ rfl rfl) (R _ rfl rfl) (R _ rfl rfl) (R _ rfl rfl) (R _ rfl rfl) (R _ rfl rfl) (R _ rfl rfl) (R _ rfl rfl) (R _ rfl rfl) (R _ rfl rfl)
      refine ⟨?_, (rF.one e0 hO).gg (G0 _ (by omega) (by omega) (by omega) (by omega)) (G0 _ (by omega) (by omega) (by omega) (by omega)) (G0 _ (by omega) (by omega) (by omega) (by omega)), (cF.cg (v1 := v1) e0 (R _ rfl rfl) (R _ rfl rfl) (R _ rfl rfl) (R _ rfl rfl) (R _ rfl rfl) (R _ rfl rfl) (R _ rfl rfl) (R _ rfl rfl)).gg (G0 _ (by omega) (by omega) (by omega) (by omega)) (G0 _ (by omega) (by omega) (by omega) (by omega)) (G0 _ (by omega) (by omega) (by omega) (by omega)) (fun _ => ⟨by rw [G0 _ (by omega) (by omega) (by omega) (by omega)], by rw [G0 _ (by omega) (by omega) (by omega) (by omega)]⟩), tF.gg e0 (R _ rfl rfl) (R _ rfl rfl) (G0 _ (by omega) (by omega) (by omega) (by omega)) (G0 _ (by omega) (by omega) (by omega) (by omega)) (G0 _ (by omega) (by omega) (by omega) (by omega)) (G0 _ (by omega) (by omega) (by omega) (by omega)) (G0 _ (by omega) (by omega) (by omega) (by omega)) (Int.le_refl _), uF.gg e0 (R _ rfl rfl) (R _ rfl rfl) (G0 _ (by omega) (by omega) (by omega) (by omega)) (G0 _ (by omega) (by omega) (by omega) (by omega)) (G0 _ (by omega) (by omega) (by omega) (by omega)) (G0 _ (by omega) (by omega) (by omega) (by omega)) (G0 _ (by omega) (by omega) (by omega) (by omega)) (Int.le_refl _)⟩
      unfold iS at cS ⊢
      rw [G0 (8 + q) (by omega) (by omega) (by omega) (by omega), G0 (12 + q) (by omega) (by omega) (by omega) (by omega), G0 (8 + (q + 2)) (by omega) (by omega) (by omega) (by omega), G0 (12 + (q + 2)) (by omega) (by omega) (by omega) (by omega)]
      exact cS
  · refine hF.grow hN0 (R _ rfl rfl) (R _ rfl rfl) (R _ rfl rfl) (R _ rfl rfl) (R _ rfl rfl) (R _ rfl rfl) (R _ rfl rfl) (K 54 (by decide)) (K 55 (by decide)) (fun i hi => ?_)
    refine ⟨fun a ha => ?_, ?_, by rw [G0 _ (by omega) (by omega) (by omega) (by omega)]⟩
    · by_cases e1 : i = e
      · rw [e1, G1, upH_lt ha]
      · by_cases e2 : i = e + 2
        · rw [e2, G2, upH_lt ha]
        · rw [G0 i e1 e2 (by omega) (by omega)]
    · by_cases e1 : i = e
      · rw [e1, N1]; exact h1.1
      · by_cases e2 : i = e + 2
        · rw [e2, N2]; exact h2.1
        · rw [G0 i e1 e2 (by omega) (by omega)]; exact Int.le_refl _
  · unfold iN
    rw [e0, K 48 (by decide), K 54 (by decide), K 55 (by decide), bnk.cg (R _ rfl rfl) (R _ rfl rfl) (R _ rfl rfl) (R _ rfl rfl), bnk.cg (R _ rfl rfl) (R _ rfl rfl) (R _ rfl rfl) (R _ rfl rfl)]
    exact hN0
end IM
