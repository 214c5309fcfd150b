/-! a unit more keeps what holds -/
theorem tel {f h b : Int → Int} {t K : Int} (H : ∀ a, a ≤ t → f a - f (a - 1) ≤ h (a - 2) - h (a - 3) + K + b a - b (a - 1)) : ∀ n : Nat, f t - f (t - n) ≤ h (t - 2) - h (t - 2 - n) + K * n + b t - b (t - n)
  | 0 => by
    rw [show t - ((0 : Nat) : Int) = t by omega, show t - 2 - ((0 : Nat) : Int) = t - 2 by omega, show K * ((0 : Nat) : Int) = 0 from Int.mul_zero K]
    omega
  | n + 1 => by
    have h1 := tel H n
    have h2 := H (t - n) (by omega)
    rw [show t - ((n + 1 : Nat) : Int) = t - n - 1 by omega, show t - 2 - ((n + 1 : Nat) : Int) = t - n - 3 by omega, show K * ((n + 1 : Nat) : Int) = K * n + K by rw [Int.natCast_add, Int.mul_add]; simp]
    rw [show t - 2 - (n : Int) = t - n - 2 by omega] at h1
    omega
theorem iN.win {c : Nat → Int → Int} {d0 d1 d2 L om : Int} {v : VV} (h : iN c d0 d1 d2 L om v) (hb : 0 ≤ bnk v 0 + bnk v 1) (hl : 0 ≤ (v 816 48).toInt) (ho : om ≤ 9) : (v 816 54).toInt - (v 816 55).toInt ≤ 3552 ∧ (v 816 54).toInt ≤ c 0 ((v 816 0).toInt - 1) + 3552 := by
  obtain ⟨⟨s1, s2, s3⟩, ⟨b3, b4, b5, bp, bc⟩, q2, q1, q0, hd, hL, h9⟩ := h
  have Q0 : ∀ a, a ≤ (v 816 0).toInt → (c 0 a - c 1 (c 0 a) - c 2 (c 0 a)) - (c 0 (a - 1) - c 1 (c 0 (a - 1)) - c 2 (c 0 (a - 1))) ≤ c 1 (c 0 (a - 2)) - c 1 (c 0 (a - 3)) + 62 + c 3 a - c 3 (a - 1) := fun a ha => by
    have := q0 a ha
    have : 0 ≤ (if a = (v 816 0).toInt then d0 else 0) := by split <;> omega
    omega
  have t0 := tel (f := fun a => c 0 a - c 1 (c 0 a) - c 2 (c 0 a)) (h := fun a => c 1 (c 0 a)) (b := c 3) (t := (v 816 0).toInt) (K := 62) Q0 9
  have Q1 : ∀ a, a ≤ (v 816 0).toInt → c 1 (c 0 a) - c 1 (c 0 (a - 1)) ≤ c 2 (c 0 (a - 2)) - c 2 (c 0 (a - 3)) + 78 + c 4 a - c 4 (a - 1) := fun a ha => by
    have := q1 a ha
    have : 0 ≤ (if a = (v 816 0).toInt then d1 else 0) := by split <;> omega
    omega
  have Q2 : ∀ a, a ≤ (v 816 0).toInt → c 2 (c 0 a) - c 2 (c 0 (a - 1)) ≤ 0 - 0 + 2 + c 5 a - c 5 (a - 1) := fun a ha => by
    have := q2 a ha
    have : 0 ≤ (if a = (v 816 0).toInt then d2 else 0) := by split <;> omega
    omega
  have t1 := tel (f := fun a => c 1 (c 0 a)) (h := fun a => c 2 (c 0 a)) (b := c 4) (t := (v 816 0).toInt) (K := 78) Q1 9
  have t2 := tel (f := fun a => c 2 (c 0 a)) (h := fun _ => 0) (b := c 5) (t := (v 816 0).toInt) (K := 2) Q2 9
  have t11 := tel (f := fun a => c 1 (c 0 a)) (h := fun a => c 2 (c 0 a)) (b := c 4) (t := (v 816 0).toInt - 2) (K := 78) (fun a ha => Q1 a (by omega)) 9
  have t22 := tel (f := fun a => c 2 (c 0 a)) (h := fun _ => 0) (b := c 5) (t := (v 816 0).toInt - 2) (K := 2) (fun a ha => Q2 a (by omega)) 9
  have t23 := tel (f := fun a => c 2 (c 0 a)) (h := fun _ => 0) (b := c 5) (t := (v 816 0).toInt - 2 - 2) (K := 2) (fun a ha => Q2 a (by omega)) 9
  have e9 : ((9 : Nat) : Int) = 9 := rfl
  rw [e9] at t0 t1 t2 t11 t22 t23
  have p1 := bp ((v 816 0).toInt - 9)
  have p2 := bp ((v 816 0).toInt - 2 - 9)
  have p3 := bp ((v 816 0).toInt - 2 - 2 - 9)
  have m1 := b4 ((v 816 0).toInt - 2) (v 816 0).toInt (by omega)
  have m2 := b5 ((v 816 0).toInt - 2) (v 816 0).toInt (by omega)
  have m3 := b5 ((v 816 0).toInt - 2 - 2) (v 816 0).toInt (by omega)
  have m4 := b5 ((v 816 0).toInt - 2) (v 816 0).toInt (by omega)
  have z0 := s2 (v 816 0).toInt (Int.le_refl _)
  have z1 := s1 ((v 816 0).toInt - 9) ((v 816 0).toInt - om) (by omega)
  have z2 := s1 ((v 816 0).toInt - 9) ((v 816 0).toInt - 1) (by omega)
  have p0 := bp (v 816 0).toInt
  omega
section IM
variable {g c : Nat → Int → Int} {d0 d1 d2 L M κ om : Int} {v v1 : VV}
theorem iS.bk {e f : Nat} (h : iS g e f v) : 0 ≤ bnk v e := by
  obtain ⟨h1, h2, h3, h4, h5, h6, h7, h8, h9, h10⟩ := h
  unfold bnk
  split
  · omega
  · rename_i q
    have : ¬ (v 841 e).toInt = 0 := fun q2 => q (h10 q2)
    omega
theorem Im.bk (h : Im g c d0 d1 d2 L M κ om v) : 0 ≤ bnk v 0 + bnk v 1 := by
  have h0 := (h.2.1 0 1 (by decide)).1.bk
  have h1 := (h.2.1 1 0 (by decide)).1.bk
  omega
theorem Im.win (h : Im g c d0 d1 d2 L M κ om v) (ho : om ≤ 9) : (v 816 54).toInt - (v 816 55).toInt ≤ 3552 ∧ (v 816 54).toInt ≤ c 0 ((v 816 0).toInt - 1) + 3552 := h.2.2.2.win h.bk h.1.1.2.1.1 ho
theorem Im.sc (h : Im g c d0 d1 d2 L M κ om v) (ho : om ≤ 9) : 0 ≤ (v 816 54).toInt ∧ (v 816 54).toInt ≤ 20000000 := by
  have h1 := h.win ho
  have h2 := h.2.2.2.2.2.2.2.2.2
  have h3 := h.1.1.1
  omega
theorem Im.ref (h : Im g c d0 d1 d2 L M κ om v) (hk : κ ≤ 12) {e f : Nat} (hef : EF e f) : 0 ≤ (v 818 e).toInt ∧ (v 818 e).toInt ≤ 507 := by
  have h1 := (h.2.1 e f hef).2.2.1
  have hM := h.1.2.2.2
  obtain ⟨c1, c2, c3, c4, c5, c6, c7, c8, c9, c10, c11⟩ := h1
  have : (v 817 e).toInt = 0 ∨ (v 817 e).toInt = 1 ∨ ((v 817 e).toInt = 2 ∨ (v 817 e).toInt = 3) ∨ (v 817 e).toInt = 4 := by omega
  rcases this with q | q | q | q
  · have := c8 q; omega
  · have := c9 q; omega
  · have := c10 q; omega
  · have := c11 q; omega
theorem iS.cg {e f : Nat} (h830 : v1 830 = v 830) (h831 : v1 831 = v 831) (h832 : v1 832 = v 832) (h834 : v1 834 = v 834) (h838 : v1 838 = v 838) (h839 : v1 839 = v 839) (h840 : v1 840 = v 840) (h841 : v1 841 = v 841) (h843 : v1 843 = v 843) (h844 : v1 844 = v 844) (h : iS g e f v) : iS g e f v1 := by
  unfold iS at h ⊢
  rw [h830, h831, h832, h834, h838, h839, h840, h841, h843, h844]
  exact h
theorem iR.cg {e : Nat} (h0 : v1 816 0 = v 816 0) (h846 : v1 846 = v 846) (h847 : v1 847 = v 847) (h848 : v1 848 = v 848) (h851 : v1 851 = v 851) (h852 : v1 852 = v 852) (h854 : v1 854 = v 854) (h855 : v1 855 = v 855) (h856 : v1 856 = v 856) (h858 : v1 858 = v 858) (h859 : v1 859 = v 859) (h861 : v1 861 = v 861) (h : iR g e v) : iR g e v1 := by
  unfold iR at h ⊢
  rw [h0, h846, h847, h848, h851, h852, h854, h855, h856, h858, h859, h861]
  exact h
theorem iW.cg {e : Nat} (h0 : v1 816 0 = v 816 0) (h817 : v1 817 = v 817) (h818 : v1 818 = v 818) (h820 : v1 820 = v 820) (h825 : v1 825 = v 825) (h828 : v1 828 = v 828) (h829 : v1 829 = v 829) (h : iW g e v) : iW g e v1 := by
  unfold iW at h ⊢
  rw [h0, h817, h818, h820, h825, h828, h829]
  exact h
theorem iC.cg {e f : Nat} (h0 : v1 816 0 = v 816 0) (h817 : v1 817 = v 817) (h818 : v1 818 = v 818) (h819 : v1 819 = v 819) (h820 : v1 820 = v 820) (h822 : v1 822 = v 822) (h825 : v1 825 = v 825) (h828 : v1 828 = v 828) (h829 : v1 829 = v 829) (h : iC g M κ e f v) : iC g M κ e f v1 := by
  unfold iC at h ⊢
  rw [h0, h817, h818, h819, h822]
  exact ⟨h.1, h.2.1, h.2.2.1, h.2.2.2.1, h.2.2.2.2.1, h.2.2.2.2.2.1, h.2.2.2.2.2.2.1.cg h0 h817 h818 h820 h825 h828 h829, h.2.2.2.2.2.2.2⟩
theorem iT.cg {c' : Nat → Int → Int} {i R S : Nat} (h0 : v1 816 0 = v 816 0) (h817 : v1 817 = v 817) (h818 : v1 818 = v 818) (hc : c' 4 = c 4) (h : iT g c i R S v) : iT g c' i R S v1 := by
  unfold iT at h ⊢
  rw [h0, h817, h818, hc]
  exact h
theorem bnk.cg {e : Nat} (h830 : v1 830 = v 830) (h831 : v1 831 = v 831) (h841 : v1 841 = v 841) (h844 : v1 844 = v 844) : bnk v1 e = bnk v e := by
  unfold bnk
  rw [h830, h831, h841, h844]
def upQ (q : Int → Int) (sc x : Int) : Int → Int := fun u => if sc < u then q sc + x else q u
theorem upQ_le {q : Int → Int} {sc x u : Int} (h : u ≤ sc) : upQ q sc x u = q u := by unfold upQ; rw [if_neg (by omega)]
theorem upQ_gt {q : Int → Int} {sc x u : Int} (h : sc < u) : upQ q sc x u = q sc + x := by unfold upQ; rw [if_pos h]
theorem upQ_mo {q : Int → Int} {sc x a b : Int} (h : ∀ a b, a ≤ b → q a ≤ q b) (hx : 0 ≤ x) (hab : a ≤ b) : upQ q sc x a ≤ upQ q sc x b := by
  by_cases qa : sc < a
  · rw [upQ_gt qa, upQ_gt (show sc < b by omega)]; exact Int.le_refl _
  · rw [upQ_le (show a ≤ sc by omega)]
    by_cases qb : sc < b
    · rw [upQ_gt qb]; have := h a sc (by omega); omega
    · rw [upQ_le (show b ≤ sc by omega)]; exact h a b hab
/-- the counts with one unit more, of code x -/
def cs (c : Nat → Int → Int) (t sc x : Int) : Nat → Int → Int := upG (upG (upG c 0 (upH (c 0) t (sc + 1))) 1 (upQ (c 1) sc (lv1 x))) 2 (upQ (c 2) sc (lv2 x))
theorem cs0 {t sc x : Int} : cs c t sc x 0 = upH (c 0) t (sc + 1) := by simp [cs, upG]
theorem cs1 {t sc x : Int} : cs c t sc x 1 = upQ (c 1) sc (lv1 x) := by simp [cs, upG]
theorem cs2 {t sc x : Int} : cs c t sc x 2 = upQ (c 2) sc (lv2 x) := by simp [cs, upG]
theorem cs3 {t sc x : Int} {a : Nat} (h : 3 ≤ a) : cs c t sc x a = c a := by
  unfold cs
  rw [upG_n (by omega), upG_n (by omega), upG_n (by omega)]
theorem lv1_r (x : Int) : 0 ≤ lv1 x ∧ lv1 x ≤ 1 := by unfold lv1; split <;> omega
theorem lv2_r (x : Int) : 0 ≤ lv2 x ∧ lv2 x ≤ 1 := by unfold lv2; split <;> omega
theorem lv_r (x : Int) : lv1 x + lv2 x ≤ 1 := by unfold lv1 lv2; split <;> split <;> omega
/-- a unit more: the counts -/
theorem iN.snd {r : Nat → Int32} {n ee : Int32} {x : Int} (h : iN c d0 d1 d2 L om v) (hs : Snt v v1 r n ee) (hsc : 0 ≤ (v 816 54).toInt ∧ (v 816 54).toInt ≤ 20000000) (ho : 1 ≤ om) (h0 : 1 - lv1 x - lv2 x ≤ d0) (h1 : lv1 x ≤ d1) (h2 : lv2 x ≤ d2) : iN (cs c (v 816 0).toInt (v 816 54).toInt x) (d0 - (1 - lv1 x - lv2 x)) (d1 - lv1 x) (d2 - lv2 x) L om v1 := by
  obtain ⟨⟨s1, s2, s3, s4⟩, hB, q2, q1, q0, hd, hL, h9⟩ := h
  have e0 := hs.2.1 0 (by decide) (by decide)
  have e48 := hs.2.1 48 (by decide) (by decide)
  have e55 := hs.2.1 55 (by decide) (by decide)
  have l1 : Int32.toInt 1 = 1 := by decide
  have e54 := i_add hs.2.2.1 (by omega) (by omega)
  have r830 := hs.1 830 (by decide) (by decide) (by decide) (by decide) (by decide) (by decide) (by decide)
  have r831 := hs.1 831 (by decide) (by decide) (by decide) (by decide) (by decide) (by decide) (by decide)
  have r841 := hs.1 841 (by decide) (by decide) (by decide) (by decide) (by decide) (by decide) (by decide)
  have r844 := hs.1 844 (by decide) (by decide) (by decide) (by decide) (by decide) (by decide) (by decide)
  have z0 := s2 (v 816 0).toInt (Int.le_refl _)
  have P0 : ∀ a, a < (v 816 0).toInt → cs c (v 816 0).toInt (v 816 54).toInt x 0 a = c 0 a := fun a ha => by rw [cs0, upH_lt ha]
  have P00 : cs c (v 816 0).toInt (v 816 54).toInt x 0 (v 816 0).toInt = (v 816 54).toInt + 1 := by rw [cs0, upH_ge (Int.le_refl _)]
  have le : ∀ a, a < (v 816 0).toInt → c 0 a ≤ (v 816 54).toInt := fun a ha => by have := s1 a (v 816 0).toInt (by omega); omega
  have P1 : ∀ a, a < (v 816 0).toInt → cs c (v 816 0).toInt (v 816 54).toInt x 1 (cs c (v 816 0).toInt (v 816 54).toInt x 0 a) = c 1 (c 0 a) := fun a ha => by rw [P0 a ha, cs1, upQ_le (le a ha)]
  have P2 : ∀ a, a < (v 816 0).toInt → cs c (v 816 0).toInt (v 816 54).toInt x 2 (cs c (v 816 0).toInt (v 816 54).toInt x 0 a) = c 2 (c 0 a) := fun a ha => by rw [P0 a ha, cs2, upQ_le (le a ha)]
  have P11 : cs c (v 816 0).toInt (v 816 54).toInt x 1 (cs c (v 816 0).toInt (v 816 54).toInt x 0 (v 816 0).toInt) = c 1 (c 0 (v 816 0).toInt) + lv1 x := by rw [P00, cs1, upQ_gt (by omega), z0]
  have P22 : cs c (v 816 0).toInt (v 816 54).toInt x 2 (cs c (v 816 0).toInt (v 816 54).toInt x 0 (v 816 0).toInt) = c 2 (c 0 (v 816 0).toInt) + lv2 x := by rw [P00, cs2, upQ_gt (by omega), z0]
  have w1 := lv1_r x
  have w2 := lv2_r x
  have w3 := lv_r x
  unfold iN
  rw [e0, e48, e55, l1] at *
  rw [e54, bnk.cg r830 r831 r841 r844, bnk.cg r830 r831 r841 r844, cs3 (a := 3) (by decide), cs3 (a := 4) (by decide), cs3 (a := 5) (by decide)]
  refine ⟨⟨fun a b hab => ?_, fun a ha => ?_, fun a => ?_, fun a b hab => ?_⟩, hB, fun a ha => ?_, fun a ha => ?_, fun a ha => ?_, by omega, hL, ?_⟩
  · rw [cs0]
    by_cases qa : (v 816 0).toInt ≤ a
    · rw [upH_ge qa, upH_ge (by omega)]; omega
    · rw [upH_lt (by omega)]
      by_cases qb : (v 816 0).toInt ≤ b
      · rw [upH_ge qb]; have := le a (by omega); omega
      · rw [upH_lt (by omega)]; exact s1 a b hab
  · rw [cs0, upH_ge ha]
  · rw [cs0]
    by_cases qa : (v 816 0).toInt ≤ a
    · rw [upH_ge qa]; omega
    · rw [upH_lt (by omega)]; exact s3 a
  · rw [cs1, cs2]
    exact ⟨upQ_mo (fun a b h => (s4 a b h).1) w1.1 hab, upQ_mo (fun a b h => (s4 a b h).2) w2.1 hab⟩
  · have := q2 a ha
    by_cases qa : a = (v 816 0).toInt
    · rw [if_pos qa] at this ⊢
      subst qa
      rw [P22, P2 _ (by omega)]
      omega
    · rw [if_neg qa] at this ⊢
      rw [P2 _ (by omega), P2 _ (by omega)]
      exact this
  · have := q1 a ha
    by_cases qa : a = (v 816 0).toInt
    · rw [if_pos qa] at this ⊢
      subst qa
      rw [P11, P1 _ (by omega), P2 _ (by omega), P2 _ (by omega)]
      omega
    · rw [if_neg qa] at this ⊢
      rw [P1 _ (by omega), P1 _ (by omega), P2 _ (by omega), P2 _ (by omega)]
      exact this
  · have := q0 a ha
    by_cases qa : a = (v 816 0).toInt
    · rw [if_pos qa] at this ⊢
      subst qa
      rw [P11, P22, P1 _ (by omega), P1 _ (by omega), P1 _ (by omega), P2 _ (by omega), P00, P0 _ (by omega)]
      omega
    · rw [if_neg qa] at this ⊢
      rw [P1 _ (by omega), P1 _ (by omega), P1 _ (by omega), P1 _ (by omega), P2 _ (by omega), P2 _ (by omega), P0 _ (by omega), P0 _ (by omega)]
      exact this
  · rw [P0 _ (by omega), P0 _ (by omega)]
    omega
end IM
