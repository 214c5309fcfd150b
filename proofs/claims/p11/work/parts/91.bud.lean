/-! first sends, from what calls paid for -/
section IM
variable {g g' c c' : Nat → Int → Int} {d0 d1 d2 L M κ om : Int} {v v1 : VV}

theorem iN.bud3 {L' : Int} (h : iN c d0 d1 d2 L om v) (e0 : v1 816 0 = v 816 0) (e54 : v1 816 54 = v 816 54) (e55 : v1 816 55 = v 816 55) (hL : c 3 (v 816 0).toInt + c 4 (v 816 0).toInt + c 5 (v 816 0).toInt + 1 + bnk v1 0 + bnk v1 1 + ((v1 816 48).toInt + 7) / 8 ≤ L' ∧ L' ≤ 512) (ho : 1 ≤ om) : iN (upG c 3 (upH (c 3) (v 816 0).toInt (c 3 (v 816 0).toInt + 1))) (d0 + 1) d1 d2 L' om v1 := by
  obtain ⟨s, ⟨b3, b4, b5, bp, bc⟩, q2, q1, q0, hd, hL0, h9⟩ := h
  have P : upG c 3 (upH (c 3) (v 816 0).toInt (c 3 (v 816 0).toInt + 1)) 3 = upH (c 3) (v 816 0).toInt (c 3 (v 816 0).toInt + 1) := upG_s
  have mono : ∀ a b, a ≤ b → upH (c 3) (v 816 0).toInt (c 3 (v 816 0).toInt + 1) a ≤ upH (c 3) (v 816 0).toInt (c 3 (v 816 0).toInt + 1) b := fun a b hab => by
    by_cases qa : (v 816 0).toInt ≤ a
    · rw [upH_ge qa, upH_ge (by omega)]; omega
    · rw [upH_lt (by omega)]
      by_cases qb : (v 816 0).toInt ≤ b
      · rw [upH_ge qb]; have := b3 a (v 816 0).toInt (by omega); omega
      · rw [upH_lt (by omega)]; exact b3 a b hab
  have pos : ∀ a, 0 ≤ upH (c 3) (v 816 0).toInt (c 3 (v 816 0).toInt + 1) a := fun a => by
    by_cases qa : (v 816 0).toInt ≤ a
    · rw [upH_ge qa]; have := bp (v 816 0).toInt; omega
    · rw [upH_lt (by omega)]; have := bp a; omega
  have at0 : upH (c 3) (v 816 0).toInt (c 3 (v 816 0).toInt + 1) (v 816 0).toInt = c 3 (v 816 0).toInt + 1 := upH_ge (Int.le_refl _)
  unfold iN
  rw [e0, e54, e55, P, upG_n (a := 3) (b := 0) (by decide), upG_n (a := 3) (b := 1) (by decide), upG_n (a := 3) (b := 2) (by decide), upG_n (a := 3) (b := 4) (by decide), upG_n (a := 3) (b := 5) (by decide)]
  refine ⟨s, ⟨mono, b4, b5, fun a => by have := bp a; have := pos a; omega, fun a ha => ?_⟩, fun a ha => ?_, fun a ha => ?_, fun a ha => ?_, by omega, by rw [at0]; omega, h9⟩
  · have := bc a ha
    rw [upH_ge ha, at0]
    omega
  · exact q2 a ha
  · exact q1 a ha
  · have := q0 a ha
    by_cases e : a = (v 816 0).toInt
    · rw [if_pos e] at this ⊢
      subst e
      rw [at0, upH_lt (by omega)]
      omega
    · rw [if_neg e] at this ⊢
      rw [upH_lt (by omega), upH_lt (by omega)]
      exact this


theorem iN.bud4 {L' : Int} (h : iN c d0 d1 d2 L om v) (e0 : v1 816 0 = v 816 0) (e54 : v1 816 54 = v 816 54) (e55 : v1 816 55 = v 816 55) (hL : c 3 (v 816 0).toInt + c 4 (v 816 0).toInt + c 5 (v 816 0).toInt + 1 + bnk v1 0 + bnk v1 1 + ((v1 816 48).toInt + 7) / 8 ≤ L' ∧ L' ≤ 512) (ho : 1 ≤ om) : iN (upG c 4 (upH (c 4) (v 816 0).toInt (c 4 (v 816 0).toInt + 1))) d0 (d1 + 1) d2 L' om v1 := by
  obtain ⟨s, ⟨b3, b4, b5, bp, bc⟩, q2, q1, q0, hd, hL0, h9⟩ := h
  have P : upG c 4 (upH (c 4) (v 816 0).toInt (c 4 (v 816 0).toInt + 1)) 4 = upH (c 4) (v 816 0).toInt (c 4 (v 816 0).toInt + 1) := upG_s
  have mono : ∀ a b, a ≤ b → upH (c 4) (v 816 0).toInt (c 4 (v 816 0).toInt + 1) a ≤ upH (c 4) (v 816 0).toInt (c 4 (v 816 0).toInt + 1) b := fun a b hab => by
    by_cases qa : (v 816 0).toInt ≤ a
    · rw [upH_ge qa, upH_ge (by omega)]; omega
    · rw [upH_lt (by omega)]
      by_cases qb : (v 816 0).toInt ≤ b
      · rw [upH_ge qb]; have := b4 a (v 816 0).toInt (by omega); omega
      · rw [upH_lt (by omega)]; exact b4 a b hab
  have pos : ∀ a, 0 ≤ upH (c 4) (v 816 0).toInt (c 4 (v 816 0).toInt + 1) a := fun a => by
    by_cases qa : (v 816 0).toInt ≤ a
    · rw [upH_ge qa]; have := bp (v 816 0).toInt; omega
    · rw [upH_lt (by omega)]; have := bp a; omega
  have at0 : upH (c 4) (v 816 0).toInt (c 4 (v 816 0).toInt + 1) (v 816 0).toInt = c 4 (v 816 0).toInt + 1 := upH_ge (Int.le_refl _)
  unfold iN
  rw [e0, e54, e55, P, upG_n (a := 4) (b := 0) (by decide), upG_n (a := 4) (b := 1) (by decide), upG_n (a := 4) (b := 2) (by decide), upG_n (a := 4) (b := 3) (by decide), upG_n (a := 4) (b := 5) (by decide)]
  refine ⟨s, ⟨b3, mono, b5, fun a => by have := bp a; have := pos a; omega, fun a ha => ?_⟩, fun a ha => ?_, fun a ha => ?_, fun a ha => ?_, by omega, by rw [at0]; omega, h9⟩
  · have := bc a ha
    rw [upH_ge ha, at0]
    omega
  · exact q2 a ha
  · have := q1 a ha
    by_cases e : a = (v 816 0).toInt
    · rw [if_pos e] at this ⊢
      subst e
      rw [at0, upH_lt (by omega)]
      omega
    · rw [if_neg e] at this ⊢
      rw [upH_lt (by omega), upH_lt (by omega)]
      exact this
  · exact q0 a ha


theorem iN.bud5 {L' : Int} (h : iN c d0 d1 d2 L om v) (e0 : v1 816 0 = v 816 0) (e54 : v1 816 54 = v 816 54) (e55 : v1 816 55 = v 816 55) (hL : c 3 (v 816 0).toInt + c 4 (v 816 0).toInt + c 5 (v 816 0).toInt + 1 + bnk v1 0 + bnk v1 1 + ((v1 816 48).toInt + 7) / 8 ≤ L' ∧ L' ≤ 512) (ho : 1 ≤ om) : iN (upG c 5 (upH (c 5) (v 816 0).toInt (c 5 (v 816 0).toInt + 1))) d0 d1 (d2 + 1) L' om v1 := by
  obtain ⟨s, ⟨b3, b4, b5, bp, bc⟩, q2, q1, q0, hd, hL0, h9⟩ := h
  have P : upG c 5 (upH (c 5) (v 816 0).toInt (c 5 (v 816 0).toInt + 1)) 5 = upH (c 5) (v 816 0).toInt (c 5 (v 816 0).toInt + 1) := upG_s
  have mono : ∀ a b, a ≤ b → upH (c 5) (v 816 0).toInt (c 5 (v 816 0).toInt + 1) a ≤ upH (c 5) (v 816 0).toInt (c 5 (v 816 0).toInt + 1) b := fun a b hab => by
    by_cases qa : (v 816 0).toInt ≤ a
    · rw [upH_ge qa, upH_ge (by omega)]; omega
    · rw [upH_lt (by omega)]
      by_cases qb : (v 816 0).toInt ≤ b
      · rw [upH_ge qb]; have := b5 a (v 816 0).toInt (by omega); omega
      · rw [upH_lt (by omega)]; exact b5 a b hab
  have pos : ∀ a, 0 ≤ upH (c 5) (v 816 0).toInt (c 5 (v 816 0).toInt + 1) a := fun a => by
    by_cases qa : (v 816 0).toInt ≤ a
    · rw [upH_ge qa]; have := bp (v 816 0).toInt; omega
    · rw [upH_lt (by omega)]; have := bp a; omega
  have at0 : upH (c 5) (v 816 0).toInt (c 5 (v 816 0).toInt + 1) (v 816 0).toInt = c 5 (v 816 0).toInt + 1 := upH_ge (Int.le_refl _)
  unfold iN
  rw [e0, e54, e55, P, upG_n (a := 5) (b := 0) (by decide), upG_n (a := 5) (b := 1) (by decide), upG_n (a := 5) (b := 2) (by decide), upG_n (a := 5) (b := 3) (by decide), upG_n (a := 5) (b := 4) (by decide)]
  refine ⟨s, ⟨b3, b4, mono, fun a => by have := bp a; have := pos a; omega, fun a ha => ?_⟩, fun a ha => ?_, fun a ha => ?_, fun a ha => ?_, by omega, by rw [at0]; omega, h9⟩
  · have := bc a ha
    rw [upH_ge ha, at0]
    omega
  · have := q2 a ha
    by_cases e : a = (v 816 0).toInt
    · rw [if_pos e] at this ⊢
      subst e
      rw [at0, upH_lt (by omega)]
      omega
    · rw [if_neg e] at this ⊢
      rw [upH_lt (by omega), upH_lt (by omega)]
      exact this
  · exact q1 a ha
  · exact q0 a ha
theorem Im.send {e f : Nat} {ee n : Int32} {r : Nat → Int32} {z : Nat} {hd code to x1 x2 : Int} (h : Im g c d0 d1 d2 L M κ om v) (ho : 1 ≤ om ∧ om ≤ 9) (hef : EF e f) (hee : ee.toInt = (e : Int)) (hs : Snt v v1 r n ee) (hc : Ct r n z hd code to) (hu : UOK g f e (v 818 f).toInt (v 818 e).toInt (fun i => (r i).toInt) (z : Int) (v 816 0).toInt) (hck : ck code → (v 817 e).toInt ≠ 0 ∧ (v 817 e).toInt ≠ 1 ∧ (v 817 e).toInt ≠ 4) (l1 : lv1 code = x1) (l2 : lv2 code = x2) (h0 : 1 - x1 - x2 ≤ d0) (h1 : x1 ≤ d1) (h2 : x2 ≤ d2) : ∃ c', Im g c' (d0 - (1 - x1 - x2)) (d1 - x1) (d2 - x2) L M κ om v1 ∧ (∀ cz vz, Fx cz c vz v → Fx cz c' vz v1) ∧ (∀ a, 3 ≤ a → c' a = c a) := by
  obtain ⟨c1, c2, c3, c4, c5, c6, c7⟩ := hc
  have hsc := h.sc ho.2
  subst l1 l2
  refine ⟨cs c (v 816 0).toInt (v 816 54).toInt code, ?_, fun cz vz hz => hz.snd hs hsc, fun a ha => cs3 ha⟩
  have q := h.snd ho hef hee hs c6 (by rw [c1]; exact c7) (by rw [c1]; exact hu) (by rw [c3]; exact hck) (by rw [c3]; exact h0) (by rw [c3]; exact h1) (by rw [c3]; exact h2)
  rw [c3] at q
  exact q
theorem iS.one {e f : Nat} (h : ∀ k, v1 830 e = v 830 e ∧ v1 831 e = v 831 e ∧ v1 838 e = v 838 e ∧ v1 839 e = v 839 e ∧ v1 840 e = v 840 e ∧ v1 841 e = v 841 e ∧ v1 843 e = v 843 e ∧ v1 844 e = v 844 e ∧ (k < 40 → v1 832 (40 * e + k) = v 832 (40 * e + k) ∧ v1 834 (40 * e + k) = v 834 (40 * e + k))) (hg : g' (8 + f) 0 = g (8 + f) 0 ∧ g' (12 + f) 0 = g (12 + f) 0 ∧ g' (8 + (f + 2)) 0 = g (8 + (f + 2)) 0 ∧ g' (12 + (f + 2)) 0 = g (12 + (f + 2)) 0) (hS : iS g e f v) : iS g' e f v1 := by
  obtain ⟨a1, a2, a3, a4, a5, a6, a7, a8, a9, a10⟩ := hS
  obtain ⟨r1, r2, r3, r4, r5, r6, r7, r8, _⟩ := h 0
  unfold iS
  rw [r1, r2, r3, r4, r5, r6, r7, r8, hg.1, hg.2.1, hg.2.2.1, hg.2.2.2]
  refine ⟨a1, a2, a3, fun k hk => ?_, fun k hk => ?_, a6, a7, a8, a9, a10⟩
  · rw [((h k).2.2.2.2.2.2.2.2 (by omega)).1]; exact a4 k hk
  · rw [((h k).2.2.2.2.2.2.2.2 (by omega)).2]; exact a5 k hk
theorem uDat.more {i : Nat} {rr f2 f3 f4 s : Int} (h : uDat g i rr f2 f3 f4 s) (hH : g' i = g i) (hN : g (8 + i) 0 ≤ g' (8 + i) 0) : uDat g' i rr f2 f3 f4 s := by
  obtain ⟨a, l, m, q1, q2, q3, q4, q5, q6⟩ := h
  exact ⟨a, l, m, q1, q2, q3, q4, q5, by rw [hH]; exact q6.more hN⟩
/-- more units are numbered -/
theorem UOK.moreN {R S : Nat} {rr rs : Int} {f : Nat → Int} {z s : Int} (h : UOK g R S rr rs f z s) (hRS : EF R S) (hH : ∀ i, i < 4 → g' i = g i) (hN : ∀ i, i < 4 → g (8 + i) 0 ≤ g' (8 + i) 0) : UOK g' R S rr rs f z s := by
  refine h.mp rfl rfl (fun _ q => ?_) (fun _ q => ?_) (fun _ q => ?_) (fun _ q => ?_) (fun _ q => ?_)
  · unfold uFrom at q ⊢; rw [hH S (by omega), hH (S + 2) (by omega)]; exact q
  · unfold uRec at q ⊢; rw [hH S (by omega)]; exact q
  · unfold uRec at q ⊢; rw [hH (S + 2) (by omega)]; exact q
  · exact q.more (hH R (by omega)) (hN R (by omega))
  · exact q.more (hH (R + 2) (by omega)) (hN (R + 2) (by omega))
/-- the first sending of a piece: numbered, and a unit allowed -/
theorem Im.first {e f kk : Nat} {y z q : Int32} (h : Im g c d0 d1 d2 L M κ om v) (ho : 1 ≤ om) (hef : EF e f) (hst : (v 817 e).toInt = 2) (hk : (v 831 e).toInt = (kk : Int)) (hq : (v 831 e).toInt < (v 830 e).toInt) (hN : g (8 + f) 0 + 1 ≤ g (12 + f) 0 + 6) (hy : y.toInt = ((v 838 e).toInt + 1) % 128) (hz : z.toInt = (v 831 e).toInt + 1) : Im (upG g (8 + f) (fun _ => g (8 + f) 0 + 1)) (upG c 4 (upH (c 4) (v 816 0).toInt (c 4 (v 816 0).toInt + 1))) d0 (d1 + 1) d2 L M κ om (up2 (up2 (up2 (up2 v 834 (40 * e + kk) (v 838 e)) 835 (40 * e + kk) q) 838 e y) 831 e z) := by
  obtain ⟨⟨a1, a2, a3, a4⟩, hE, hF, hN0⟩ := h
  generalize hw : up2 (up2 (up2 (up2 v 834 (40 * e + kk) (v 838 e)) 835 (40 * e + kk) q) 838 e y) 831 e z = w
  have R : ∀ a, a ≠ 834 → a ≠ 835 → a ≠ 838 → a ≠ 831 → w a = v a := fun a n1 n2 n3 n4 => by
    rw [← hw, up2_of _ _ _ _ n4, up2_of _ _ _ _ n3, up2_of _ _ _ _ n2, up2_of _ _ _ _ n1]
  have R831 : w 831 = upd (v 831) e z := by rw [← hw, up2_f, up2_of _ _ _ _ (by decide), up2_of _ _ _ _ (by decide), up2_of _ _ _ _ (by decide)]
  have R838 : w 838 = upd (v 838) e y := by rw [← hw, up2_of _ _ _ _ (by decide), up2_f, up2_of _ _ _ _ (by decide), up2_of _ _ _ _ (by decide)]
  have R834 : w 834 = upd (v 834) (40 * e + kk) (v 838 e) := by rw [← hw, up2_of _ _ _ _ (by decide), up2_of _ _ _ _ (by decide), up2_of _ _ _ _ (by decide), up2_f]
  have e816 : w 816 = v 816 := R 816 (by decide) (by decide) (by decide) (by decide)
  have RR : ∀ a, fre a = false → a ≠ 834 → a ≠ 838 → a ≠ 831 → w a = v a := fun a n0 n1 n3 n4 => R a n1 (fun q => by rw [q] at n0; cases n0) n3 n4
  obtain ⟨sE, rE, cE, tE, uE⟩ := hE e f hef
  have hfe : EF f e := by omega
  obtain ⟨sF, rF, cF, tF, uF⟩ := hE f e hfe
  have bu := hN0.2.1
  have gN : upG g (8 + f) (fun _ => g (8 + f) 0 + 1) (8 + f) = fun _ => g (8 + f) 0 + 1 := upG_s
  have gO : ∀ j, j ≠ 8 + f → upG g (8 + f) (fun _ => g (8 + f) 0 + 1) j = g j := fun j hj => upG_n hj
  generalize upG g (8 + f) (fun _ => g (8 + f) 0 + 1) = g' at gN gO
  have gN : g' (8 + f) 0 = g (8 + f) 0 + 1 := by rw [gN]
  have c4 : upG c 4 (upH (c 4) (v 816 0).toInt (c 4 (v 816 0).toInt + 1)) 4 (v 816 0).toInt = c 4 (v 816 0).toInt + 1 := by rw [upG_s, upH_ge (Int.le_refl _)]
  have bke : bnk w e = bnk v e - 1 := by
    unfold bnk
    rw [R 830 (by decide) (by decide) (by decide) (by decide), R 841 (by decide) (by decide) (by decide) (by decide), R 844 (by decide) (by decide) (by decide) (by decide), R831, upd_s, hz]
    omega
  have bkf : bnk w f = bnk v f := by
    unfold bnk
    rw [R 830 (by decide) (by decide) (by decide) (by decide), R 841 (by decide) (by decide) (by decide) (by decide), R 844 (by decide) (by decide) (by decide) (by decide), R831, upd_n (by omega)]
  have bk2 : bnk w 0 + bnk w 1 = bnk v 0 + bnk v 1 - 1 := by
    rcases hef with ⟨rfl, rfl⟩ | ⟨rfl, rfl⟩ <;> omega
  refine ⟨⟨?_, ?_, ?_, a4⟩, ?_, ?_, ?_⟩
  · unfold iSc; rw [e816, R 869 (by decide) (by decide) (by decide) (by decide)]; exact a1
  · intro k
    rw [R 828 (by decide) (by decide) (by decide) (by decide), R 837 (by decide) (by decide) (by decide) (by decide), R 842 (by decide) (by decide) (by decide) (by decide), R 863 (by decide) (by decide) (by decide) (by decide), R 868 (by decide) (by decide) (by decide) (by decide), R 873 (by decide) (by decide) (by decide) (by decide)]
    exact a2 k
  · unfold iFa
    rw [e816, R 864 (by decide) (by decide) (by decide) (by decide), R 866 (by decide) (by decide) (by decide) (by decide), R 867 (by decide) (by decide) (by decide) (by decide)]
    exact a3
  · have ct : ∀ i R0 S0, i < 4 → iT g c i R0 S0 v → i ≠ f → iT g' (upG c 4 (upH (c 4) (v 816 0).toInt (c 4 (v 816 0).toInt + 1))) i R0 S0 w := fun i R0 S0 hi q hne => by
      unfold iT at q ⊢
      rw [e816, RR 817 rfl (by decide) (by decide) (by decide), RR 818 rfl (by decide) (by decide) (by decide), c4, gO i (by omega), gO (4 + i) (by omega), gO (8 + i) (by omega), gO (12 + i) (by omega), gO (16 + S0) (by omega)]
      exact ⟨q.1, by omega, by omega⟩
    have cr : ∀ p, p < 2 → iR g p v → iR g' p w := fun p hp q => by
      have q := q.cg (v1 := w) (by rw [e816]) (RR _ rfl (by decide) (by decide) (by decide)) (RR _ rfl (by decide) (by decide) (by decide)) (RR _ rfl (by decide) (by decide) (by decide)) (RR _ rfl (by decide) (by decide) (by decide)) (RR _ rfl (by decide) (by decide) (by decide)) (RR _ rfl (by decide) (by decide) (by decide)) (RR _ rfl (by decide) (by decide) (by decide)) (RR _ rfl (by decide) (by decide) (by decide)) (RR _ rfl (by decide) (by decide) (by decide)) (RR _ rfl (by decide) (by decide) (by decide)) (RR _ rfl (by decide) (by decide) (by decide))
      unfold iR at q ⊢
      rw [gO p (by omega), gO (p + 2) (by omega), gO (4 + p) (by omega)]
      exact q
    have cc : ∀ p q, EF p q → iC g M κ p q v → ((v 817 p).toInt = 1 → q ≠ f) → iC g' M κ p q w := fun p q hpq h hne => by
      have h := h.cg (v1 := w) (by rw [e816]) (RR _ rfl (by decide) (by decide) (by decide)) (RR _ rfl (by decide) (by decide) (by decide)) (RR _ rfl (by decide) (by decide) (by decide)) (RR _ rfl (by decide) (by decide) (by decide)) (RR _ rfl (by decide) (by decide) (by decide)) (RR _ rfl (by decide) (by decide) (by decide)) (RR _ rfl (by decide) (by decide) (by decide)) (RR _ rfl (by decide) (by decide) (by decide))
      have e817 := RR 817 rfl (by decide) (by decide) (by decide)
      obtain ⟨c1, c2, c3, c4, c5, c6, c7, c8⟩ := h
      refine ⟨c1, c2, c3, by rw [gO (16 + p) (by omega)]; exact c4, fun hs => ?_, c6, ?_, c8⟩
      · have := hne (by rw [← e817]; exact hs)
        rw [gO p (by omega), gO (p + 2) (by omega), gO (8 + q) (by omega), gO (8 + (q + 2)) (by omega)]
        exact c5 hs
      · unfold iW at c7 ⊢
        rw [gO p (by omega), gO (p + 2) (by omega)]
        exact c7
    intro p q hpq
    have hp : (p = e ∧ q = f) ∨ (p = f ∧ q = e) := by omega
    rcases hp with ⟨rfl, rfl⟩ | ⟨rfl, rfl⟩
    · refine ⟨?_, cr p (by omega) rE, cc p q hpq cE (fun hs => by omega), ct p p q (by omega) tE (by omega), ct (p + 2) p q (by omega) uE (by omega)⟩
      obtain ⟨s1, s2, s3, s4, s5, s6, s7, s8, s9, s10⟩ := sE
      unfold iS
      rw [gN, gO (12 + q) (by omega), gO (8 + (q + 2)) (by omega), gO (12 + (q + 2)) (by omega), R831, R838, R834, upd_s, upd_s, R 830 (by decide) (by decide) (by decide) (by decide), R 832 (by decide) (by decide) (by decide) (by decide), R 839 (by decide) (by decide) (by decide) (by decide), R 840 (by decide) (by decide) (by decide) (by decide), R 841 (by decide) (by decide) (by decide) (by decide), R 843 (by decide) (by decide) (by decide) (by decide), R 844 (by decide) (by decide) (by decide) (by decide)]
      refine ⟨by omega, by omega, s3, s4, fun k hk2 => ?_, s6, s7, s8, s9, s10⟩
      by_cases ek : k = kk
      · subst ek
        rw [upd_s]
        omega
      · rw [upd_n (by omega)]
        exact s5 k (by omega)
    · refine ⟨?_, cr p (by omega) rF, cc p q hpq cF (fun _ => by omega), ?_, ct (p + 2) p q (by omega) uF (by omega)⟩
      · refine iS.one (fun k => ⟨by rw [R 830 (by decide) (by decide) (by decide) (by decide)], by rw [R831, upd_n (by omega)], by rw [R838, upd_n (by omega)], by rw [R 839 (by decide) (by decide) (by decide) (by decide)], by rw [R 840 (by decide) (by decide) (by decide) (by decide)], by rw [R 841 (by decide) (by decide) (by decide) (by decide)], by rw [R 843 (by decide) (by decide) (by decide) (by decide)], by rw [R 844 (by decide) (by decide) (by decide) (by decide)], fun hk => ⟨by rw [R 832 (by decide) (by decide) (by decide) (by decide)], by rw [R834, upd_n (by have := sE.1; omega)]⟩⟩) ⟨by rw [gO _ (by omega)], by rw [gO _ (by omega)], by rw [gO _ (by omega)], by rw [gO _ (by omega)]⟩ sF
      · unfold iT at tF ⊢
        rw [e816, RR 817 rfl (by decide) (by decide) (by decide), RR 818 rfl (by decide) (by decide) (by decide), c4, gN, gO p (by omega), gO (4 + p) (by omega), gO (12 + p) (by omega), gO (16 + q) (by omega)]
        exact ⟨tF.1.first hN, by omega, by omega⟩
  · intro u hu1 hu2
    rw [e816] at hu1 hu2
    refine (hF u hu1 hu2).mp (by rw [RR 869 rfl (by decide) (by decide) (by decide)]) (by rw [RR 870 rfl (by decide) (by decide) (by decide)]) (by rw [RR 871 rfl (by decide) (by decide) (by decide)]) (fun i hi => by rw [RR 868 rfl (by decide) (by decide) (by decide)]) (fun s hs => by rw [upG_n (by decide)]; exact hs) (by rw [upG_n (by decide)]) (by rw [upG_n (by decide)]) (fun R0 S0 hRS f0 z0 s es hcs hk hU => ?_)
    rw [RR 818 rfl (by decide) (by decide) (by decide), RR 817 rfl (by decide) (by decide) (by decide), RR 822 rfl (by decide) (by decide) (by decide)]
    refine ⟨hU.moreN hRS (fun i hi => gO i (by omega)) (fun i hi => ?_), hk⟩
    by_cases ei : i = f
    · rw [ei, gN]; omega
    · rw [gO _ (by omega)]; exact Int.le_refl _
  · have hL := hN0.2.2.2.2.2.2.1
    exact hN0.bud4 (by rw [e816]) (by rw [e816]) (by rw [e816]) (by rw [e816]; omega) ho
end IM
