/-! data arrive -/
theorem sumL_ge1 {f : Nat → Int32} : ∀ n : Nat, (∀ i : Nat, i < n → 1 ≤ (f i).toInt) → (n : Int) ≤ sumL f n
  | 0, _ => Int.le_refl _
  | n + 1, h => by
    have h1 := sumL_ge1 n (fun i hi => h i (by omega))
    have h2 := h n (by omega)
    show ((n + 1 : Nat) : Int) ≤ sumL f n + (f n).toInt
    omega
theorem sumL_8 {f k : Nat → Int32} : ∀ n : Nat, (∀ i : Nat, i < n → 0 ≤ (f i).toInt ∧ (f i).toInt ≤ 8 * (k i).toInt) → 0 ≤ sumL f n ∧ sumL f n ≤ 8 * sumL k n
  | 0, _ => by exact ⟨Int.le_refl _, Int.le_refl _⟩
  | n + 1, h => by
    have h1 := sumL_8 n (fun i hi => h i (by omega))
    have h2 := h n (by omega)
    show 0 ≤ sumL f n + (f n).toInt ∧ sumL f n + (f n).toInt ≤ 8 * (sumL k n + (k n).toInt)
    omega
section IM
variable {g c : Nat → Int → Int} {d0 d1 d2 L M κ om : Int} {v : VV}
theorem Im.c4 (h : Im g c d0 d1 d2 L M κ om v) : c 4 (v 816 0).toInt ≤ L := by
  have h1 := h.2.2.2.2.2.2.2.2.2.1
  have h2 := h.bk
  have h3 := h.1.1.2.1
  have h4 := h.2.2.2.2.1.2.2.2.1 (v 816 0).toInt
  omega
theorem Im.pb {e f at_ : Nat} {w : VV} {ks : Int} (h : Im g c d0 d1 d2 L M κ om v) (hL : L ≤ 511) (hef : EF e f) (hst : (v 817 e).toInt ≠ 1) (hw : (v 825 e).toInt = 0) (hat : (at_ : Int) = 128 * (e : Int) + (v 846 e).toInt) (hks : (v 848 at_).toInt = ks) (hk0 : 0 ≤ ks) (hp : PB e at_ v w ks) (hm : (v 854 e).toInt ≤ 11) (hsum : sumL (fun m => v 856 (64 * e + m)) (v 854 e).toInt.toNat + (v 852 e).toInt ≤ 5 + g e (v 816 0).toInt) : Im (gr g e (v 816 0).toInt (g e (v 816 0).toInt + 1) (g (e + 2) (v 816 0).toInt) (g (4 + e) 0) (g (4 + (e + 2)) 0)) c d0 d1 d2 L M κ om w ∧ (w 854 e).toInt ≤ (v 854 e).toInt + 1 ∧ sumL (fun m => w 856 (64 * e + m)) (w 854 e).toInt.toNat + (w 852 e).toInt ≤ 6 + g e (v 816 0).toInt := by
  have h' := h
  have c4 := h.c4
  obtain ⟨⟨a1, a2, a3, a4⟩, hE, hF, hN0⟩ := h
  obtain ⟨sE, rE, cE, tE, uE⟩ := hE e f hef
  obtain ⟨r1, r2, r3, r4, r5, r6, r7, r8, r9⟩ := rE
  obtain ⟨p1, ⟨y, hy, p2⟩, p3, s, u, m, t, q1, q2, q3, q4, hcase⟩ := hp
  have he2 : e < 2 := by omega
  have hke := r2 (v 846 e).toInt.toNat (by omega)
  have eat : 128 * e + (v 846 e).toInt.toNat = at_ := by omega
  rw [eat, hks] at hke
  have hEK : g e (v 816 0).toInt ≤ g (4 + e) 0 := by
    have := hke.2 hk0
    omega
  have K4 := tE.2.2
  have St1 := tE.1.2.2.2.1
  have St2 := uE.1.2.2.2.1
  have tl := tE.1.2.2.2.2.2
  have ul := uE.1.2.2.2.2.2
  have G1 := gr1 (g := g) (t := (v 816 0).toInt) (E := g e (v 816 0).toInt + 1) (X := g (e + 2) (v 816 0).toInt) (KB := g (4 + e) 0) (XB := g (4 + (e + 2)) 0) he2
  have G2 := gr2 (g := g) (t := (v 816 0).toInt) (E := g e (v 816 0).toInt + 1) (X := g (e + 2) (v 816 0).toInt) (KB := g (4 + e) 0) (XB := g (4 + (e + 2)) 0) he2
  have G3 := gr30 (g := g) (t := (v 816 0).toInt) (E := g e (v 816 0).toInt + 1) (X := g (e + 2) (v 816 0).toInt) (KB := g (4 + e) 0) (XB := g (4 + (e + 2)) 0) he2
  have w816 : w 816 = v 816 := p1 816 (by decide) (by decide) (by decide) (by decide) (by decide) (by decide) (by decide) (by decide) (by decide) (by decide)
  have P : ∀ a, rc a = false → a ≠ 853 → a ≠ 857 → w a = v a := fun a n1 n2 n3 => p1 a (fun q => by rw [q] at n1; cases n1) (fun q => by rw [q] at n1; cases n1) (fun q => by rw [q] at n1; cases n1) (fun q => by rw [q] at n1; cases n1) n2 (fun q => by rw [q] at n1; cases n1) (fun q => by rw [q] at n1; cases n1) (fun q => by rw [q] at n1; cases n1) n3 (fun q => by rw [q] at n1; cases n1)
  have w847 : w 847 = v 847 := p1 847 (by decide) (by decide) (by decide) (by decide) (by decide) (by decide) (by decide) (by decide) (by decide) (by decide)
  have w859 : w 859 = v 859 := p1 859 (by decide) (by decide) (by decide) (by decide) (by decide) (by decide) (by decide) (by decide) (by decide) (by decide)
  have w861 : w 861 = v 861 := p1 861 (by decide) (by decide) (by decide) (by decide) (by decide) (by decide) (by decide) (by decide) (by decide) (by decide)
  have e851 : w 851 e = s := by rw [q1, upd_s]
  have e852 : w 852 e = u := by rw [q2, upd_s]
  have e854 : w 854 e = m := by rw [q3, upd_s]
  have e858 : w 858 e = t := by rw [q4, upd_s]
  have hunits : sumL (fun i => w 856 (64 * e + i)) m.toInt.toNat + u.toInt ≤ 6 + g e (v 816 0).toInt ∧ m.toInt ≤ (v 854 e).toInt + 1 ∧ 0 ≤ m.toInt ∧ t.toInt = sumL (fun i => w 855 (64 * e + i)) m.toInt.toNat ∧ (∀ i : Nat, (i : Int) < m.toInt → 1 ≤ (w 856 (64 * e + i)).toInt ∧ (w 856 (64 * e + i)).toInt ≤ 512 ∧ 0 ≤ (w 855 (64 * e + i)).toInt ∧ (w 855 (64 * e + i)).toInt ≤ 8 * (w 856 (64 * e + i)).toInt) ∧ (0 ≤ s.toInt ∧ s.toInt ≤ 8 * u.toInt ∧ 0 ≤ u.toInt ∧ u.toInt ≤ g e (v 816 0).toInt + 1) := by
    rcases hcase with ⟨k1, k2, k3, k4, k5, k6⟩ | ⟨k1, k2, k3, k4, a, b, k5, k6, k7, k8⟩
    · rw [k5, k6, k3]
      exact ⟨by omega, by omega, by omega, by omega, r5, by omega⟩
    · have em : m.toInt.toNat = (v 854 e).toInt.toNat + 1 := by omega
      have x5 : sumL (fun i => w 855 (64 * e + i)) ((v 854 e).toInt.toNat + 1) = sumL (fun i => v 855 (64 * e + i)) (v 854 e).toInt.toNat + a.toInt := by
        show sumL (fun i => w 855 (64 * e + i)) (v 854 e).toInt.toNat + (w 855 (64 * e + (v 854 e).toInt.toNat)).toInt = _
        rw [k7, upd_s, sumL_ext (g := fun i => v 855 (64 * e + i)) _ (fun i hi => upd_n (by omega))]
      have x6 : sumL (fun i => w 856 (64 * e + i)) ((v 854 e).toInt.toNat + 1) = sumL (fun i => v 856 (64 * e + i)) (v 854 e).toInt.toNat + b.toInt := by
        show sumL (fun i => w 856 (64 * e + i)) (v 854 e).toInt.toNat + (w 856 (64 * e + (v 854 e).toInt.toNat)).toInt = _
        rw [k8, upd_s, sumL_ext (g := fun i => v 856 (64 * e + i)) _ (fun i hi => upd_n (by omega))]
      rw [em, x5, x6]
      refine ⟨by omega, by omega, by omega, by omega, fun i hi => ?_, by omega⟩
      by_cases ei : i = (v 854 e).toInt.toNat
      · rw [ei, k7, k8, upd_s, upd_s]
        omega
      · rw [k7, k8, upd_n (by omega), upd_n (by omega)]
        exact r5 i (by omega)
  obtain ⟨u1, u2, u3, u4, u5, u6⟩ := hunits
  have hO2 : ∀ k, k < 64 → w 855 (64 * f + k) = v 855 (64 * f + k) ∧ w 856 (64 * f + k) = v 856 (64 * f + k) := fun k hk => by
    rcases hcase with ⟨k1, k2, k3, k4, k5, k6⟩ | ⟨k1, k2, k3, k4, a, b, k5, k6, k7, k8⟩
    · rw [k5, k6]; exact ⟨rfl, rfl⟩
    · rw [k7, k8, upd_n (by omega), upd_n (by omega)]; exact ⟨rfl, rfl⟩
  clear hcase
  refine ⟨?_, by rw [e854]; exact u2, by rw [e854, e852]; exact u1⟩
  refine h'.rside hef (fun a n1 n2 => P a n2 (fun q => by rw [q] at n1; cases n1) (fun q => by rw [q] at n1; cases n1)) (fun k _ => by rw [w816]) (a2.cg (P _ rfl (by decide) (by decide)) (P _ rfl (by decide) (by decide)) (P _ rfl (by decide) (by decide)) (P _ rfl (by decide) (by decide)) (P _ rfl (by decide) (by decide)) (P _ rfl (by decide) (by decide))) (fun k => ⟨by rw [p2, upd_n (by omega)], by rw [w847], by rw [q1, upd_n (by omega)], by rw [q2, upd_n (by omega)], by rw [q3, upd_n (by omega)], by rw [q4, upd_n (by omega)], by rw [w859], by rw [w861], fun hk => by rw [p3, upd_n (by omega)], hO2 k⟩) (Or.inl ⟨hw, hst⟩) ⟨by omega, Int.le_refl _, by omega, by omega, fun q => (tl q).2, tE.2.2⟩ ⟨Int.le_refl _, Int.le_refl _, by omega, by omega, fun q => (ul q).2, uE.2.2⟩ ?_
  · unfold iR
    rw [w816, G1, G2, G3, upH_ge (Int.le_refl _), upH_ge (Int.le_refl _), e851, e852, e854, e858, w847, w859, w861]
    refine ⟨⟨by rw [p2, upd_s]; omega, r1.2⟩, fun k hk => ?_, u6, by omega, u5, u4, by omega, r8, r9⟩
    rw [p3]
    by_cases ek : 128 * e + k = at_
    · rw [ek, upd_s]
      exact ⟨by decide, fun q => absurd q (by decide)⟩
    · rw [upd_n ek]
      have := r2 k hk
      refine ⟨this.1, fun q => ?_⟩
      have := this.2 q
      omega
theorem sl_13 {p1 : Int32} {e f : Nat} {E0 : Int} {cz : Nat → Int → Int} {vz : VV} {Q : VV → Prop} (he : p1.toInt = (e : Int)) (hef : EF e f) (hL : L ≤ 511) (k : ∀ v1, Iz cz vz d0 d1 d2 L M κ om v1 → (v1 817 e).toInt = 2 → Q v1) : ∀ (n : Nat) (v : VV) (g c : Nat → Int → Int) (a2 : Int32), Im g c d0 d1 d2 L M κ om v → Fx cz c vz v → (v 817 e).toInt = 2 → (v 825 e).toInt = 0 → a2.toInt = 128 * (e : Int) + (v 846 e).toInt → (v 854 e).toInt ≤ 5 + (g e (v 816 0).toInt - E0) → sumL (fun m => v 856 (64 * e + m)) (v 854 e).toInt.toNat + (v 852 e).toInt ≤ 5 + g e (v 816 0).toInt → g (4 + e) 0 ≤ E0 + 6 → g (4 + e) 0 + 1 - g e (v 816 0).toInt < (n : Int) → b_X10_putBehind_13 p1 Q n p1 a2 v := by
  have l0 : Int32.toInt 0 = 0 := by decide
  intro n
  induction n with
  | zero =>
    intro v g c a2 h hz hst hw ha hm hs hK hn
    exfalso
    have := (h.2.1 e f hef).2.2.2.1.1.2.2.2.1
    omega
  | succ n ih =>
    intro v g c a2 h hz hst hw ha hm hs hK hn
    obtain ⟨sE, rE, cE, tE, uE⟩ := h.2.1 e f hef
    obtain ⟨r1, r2, r3, r4, r5, r6, r7, r8, r9⟩ := rE
    have c4 := h.c4
    have K4 := tE.2.2
    have t2 := tn_of (x := a2) (by omega)
    have hke := r2 (v 846 e).toInt.toNat (by omega)
    have eat : a2.toNatClampNeg = 128 * e + (v 846 e).toInt.toNat := by omega
    refine ⟨in_of (by omega) (by omega), ?_⟩
    intro x18 e18
    have i18 := i_eq e18
    rw [eat] at i18
    refine ⟨fun _ => k v ⟨g, c, h, hz⟩ hst, fun q => ?_⟩
    have q := i_nlt q
    have hke2 := hke.2 (by omega)
    have s8 := sumL_8 (f := fun m => v 855 (64 * e + m)) (k := fun m => v 856 (64 * e + m)) (v 854 e).toInt.toNat (fun i hi => by have := r5 i (by omega); exact this.2.2)
    have qq := sl_24 (v := v) (a2 := a2) (at_ := 128 * e + (v 846 e).toInt.toNat) (ks := x18.toInt) (Q := Q) (K13 := fun a b w => b_X10_putBehind_13 p1 Q n a b w) he (by omega) (by omega) (by omega) (by omega) (by omega) (by omega) (by omega) (by omega) (by omega) (by omega) (fun w x hp hx => ?_) 20 0 0 (v 851 e) (v 853) (by omega) (by omega) (by decide) (by omega)
    · rw [Wr_i] at qq
      exact ⟨20, qq⟩
    · obtain ⟨i1, i2, i3⟩ := h.pb hL hef (by omega) hw (by omega) i18.symm (by omega) hp (by omega) hs
      have p1' := hp.1
      have w816 : w 816 = v 816 := p1' 816 (by decide) (by decide) (by decide) (by decide) (by decide) (by decide) (by decide) (by decide) (by decide) (by decide)
      have N1 : gr g e (v 816 0).toInt (g e (v 816 0).toInt + 1) (g (e + 2) (v 816 0).toInt) (g (4 + e) 0) (g (4 + (e + 2)) 0) e (v 816 0).toInt = g e (v 816 0).toInt + 1 := by rw [gr1 (by omega), upH_ge (Int.le_refl _)]
      have N2 : gr g e (v 816 0).toInt (g e (v 816 0).toInt + 1) (g (e + 2) (v 816 0).toInt) (g (4 + e) 0) (g (4 + (e + 2)) 0) (4 + e) 0 = g (4 + e) 0 := by rw [gr3 (by omega)]
      refine ih w _ c x i1 ?_ ?_ ?_ hx ?_ ?_ ?_ ?_
      · obtain ⟨⟨f1, f2, f3, f4, f5⟩, f6, f7, f8, f9⟩ := hz
        exact ⟨⟨by rw [w816]; exact f1, by rw [w816]; exact f2, by rw [w816]; exact f3, (p1' _ (by decide) (by decide) (by decide) (by decide) (by decide) (by decide) (by decide) (by decide) (by decide) (by decide)).trans f4, (p1' _ (by decide) (by decide) (by decide) (by decide) (by decide) (by decide) (by decide) (by decide) (by decide) (by decide)).trans f5⟩, by rw [w816]; exact f6, f7, f8, fun a ha => (p1' a (by omega) (by omega) (by omega) (by omega) (by omega) (by omega) (by omega) (by omega) (by omega) (by omega)).trans (f9 a ha)⟩
      · rw [p1' _ (by decide) (by decide) (by decide) (by decide) (by decide) (by decide) (by decide) (by decide) (by decide) (by decide)]; exact hst
      · rw [p1' _ (by decide) (by decide) (by decide) (by decide) (by decide) (by decide) (by decide) (by decide) (by decide) (by decide)]; exact hw
      · rw [w816, N1]; omega
      · rw [w816, N1]; omega
      · rw [N2]; exact hK
      · rw [w816, N1, N2]; omega
theorem s_putBehind {p1 : Int32} {e f : Nat} {cz : Nat → Int → Int} {vz : VV} {Q : VV → Prop} (h : Im g c d0 d1 d2 L M κ om v) (hz : Fx cz c vz v) (he : p1.toInt = (e : Int)) (hef : EF e f) (hL : L ≤ 511) (hst : (v 817 e).toInt = 2) (hw : (v 825 e).toInt = 0) (hs : sumL (fun m => v 856 (64 * e + m)) (v 854 e).toInt.toNat ≤ 5) (k : ∀ v1, Iz cz vz d0 d1 d2 L M κ om v1 → (v1 817 e).toInt = 2 → Q v1) : w_X10_putBehind p1 v Q := by
  have l128 : Int32.toInt 128 = 128 := by decide
  obtain ⟨sE, rE, cE, tE, uE⟩ := h.2.1 e f hef
  obtain ⟨r1, r2, r3, r4, r5, r6, r7, r8, r9⟩ := rE
  have t1 := tn_of (x := p1) (by omega)
  have u1 : p1.toNatClampNeg = e := by omega
  have hm := sumL_ge1 (f := fun m => v 856 (64 * e + m)) (v 854 e).toInt.toNat (fun i hi => (r5 i (by omega)).1)
  have St1 := tE.1.2.2.2.1
  have St2 := tE.1.1 ((v 816 0).toInt - 4) (v 816 0).toInt (by omega)
  unfold w_X10_putBehind
  intro x4 e4
  have i4 := i_mul e4 (by rw [l128]; omega) (by rw [l128]; omega)
  rw [l128] at i4
  refine ⟨in_of (by omega) (by omega), ?_⟩
  intro x10 e10 x11 e11
  rw [u1] at e10
  have i10 := i_eq e10
  have i11 := i_add e11 (by omega) (by omega)
  exact ⟨20, sl_13 (E0 := g e (v 816 0).toInt) he hef hL k 20 v g c x11 h hz hst hw (by omega) (by omega) (by omega) (by omega) (by omega)⟩
/-- what lies in arrived came from S to R, sent at s -/
def Arr (g : Nat → Int → Int) (R S : Nat) (s : Int) (v : VV) : Prop := EF R S ∧ ((v 816 0).toInt - 8 ≤ s ∧ s ≤ (v 816 0).toInt - 2) ∧ UOK g R S (v 818 R).toInt (v 818 S).toInt (fun i => (v 872 i).toInt) (v 816 61).toInt s ∧ (∀ i : Nat, (i : Int) < (v 816 61).toInt → byt (v 872 i))
theorem Arr.dat {R S i : Nat} {s rr f2 f3 f4 : Int} (h : uDat g i rr f2 f3 f4 s) (own : 256 * f2 + f3 = rr) (hr : rr ≤ 507) : ∃ a d, (-1 ≤ d ∧ d ≤ 1) ∧ f4 % 128 = (a + d) % 128 ∧ FD (g i) (g (8 + i) 0) a s True := by
  obtain ⟨a, l, m, q1, q2, q3, q4, q5, q6⟩ := h
  have em : m = rr := nr_eq q5 own (by omega) (by omega)
  obtain ⟨d, k1, k2⟩ := nb_num q2 q1
  exact ⟨a, d, k1, k2, q6.wk (fun _ => em)⟩
end IM
