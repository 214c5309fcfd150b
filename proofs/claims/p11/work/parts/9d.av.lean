/-! a unit arrives -/
theorem i_and240 {x a : Int32} (e : x = a &&& 240) (h : byt a) : x.toInt = 16 * (a.toInt / 16) := by
  have hh : ∀ n : Nat, n < 256 → n &&& 240 = 16 * (n / 16) := by decide +kernel
  have h4 := a.toBitVec.isLt
  have h3 : a.toInt = a.toBitVec.toInt := rfl
  have h3' : a.toInt = (a.toBitVec.toNat : Int) := by
    have h0 : 0 ≤ a.toInt := h.1
    rw [h3, BitVec.toInt_eq_toNat_cond]
    rw [h3, BitVec.toInt_eq_toNat_cond] at h0
    split
    · rfl
    · rename_i q
      rw [if_neg q] at h0
      omega
  have h255 : a.toInt ≤ 255 := h.2
  have h1 : x.toBitVec.toNat = 16 * (a.toBitVec.toNat / 16) := by
    rw [e]
    show (a.toBitVec &&& 240#32).toNat = _
    rw [BitVec.toNat_and]
    exact hh _ (by omega)
  have h2 : x.toInt = x.toBitVec.toInt := rfl
  rw [h2, BitVec.toInt_eq_toNat_cond, if_pos (by omega)]
  omega
theorem s_codeOf {v : VV} {p : Int32} {Q : Int32 → VV → Prop} (hp : byt p) (k : ∀ x : Int32, ((224 ≤ p.toInt ∧ p.toInt ≤ 239) ∨ (208 ≤ p.toInt ∧ p.toInt ≤ 223) ∨ (96 ≤ p.toInt ∧ p.toInt ≤ 111) ∨ p.toInt = 240 ∨ p.toInt = 16 ∨ p.toInt = 32 ∨ p.toInt = 128 ∨ p.toInt = 192 → x.toInt = 16 * (p.toInt / 16)) → Q x v) : w_X10_codeOf p v Q := by
  have L : Int32.toInt 224 = 224 ∧ Int32.toInt 208 = 208 ∧ Int32.toInt 96 = 96 ∧ Int32.toInt 240 = 240 ∧ Int32.toInt 16 = 16 ∧ Int32.toInt 32 = 32 ∧ Int32.toInt 128 = 128 ∧ Int32.toInt 192 = 192 := by decide
  unfold w_X10_codeOf
  intro x4 e4
  have i4 := i_and240 e4 hp
  have H84 : ∀ a2 s0, b_X10_codeOf_84 p Q p x4 a2 s0 v := fun a2 s0 => by
    unfold b_X10_codeOf_84
    exact k x4 (fun _ => i4)
  have G1 : ∀ s0, b_X10_codeOf_70 p Q p x4 1 s0 v := fun s0 => by
    unfold b_X10_codeOf_70
    exact ⟨fun _ => H84 _ _, fun c => absurd c (by decide)⟩
  have G15 : b_X10_codeOf_65 p Q p x4 1 v := by unfold b_X10_codeOf_65; exact G1 1
  have F1 : b_X10_codeOf_26 p Q p x4 v := by
    unfold b_X10_codeOf_26 b_X10_codeOf_31
    exact ⟨fun _ => G15, fun _ => ⟨fun _ => G15, fun _ => ⟨fun _ => G15, fun _ => ⟨fun _ => G15, fun _ => ⟨fun _ => G1 0, fun _ => G15⟩⟩⟩⟩⟩
  refine ⟨fun _ => F1, fun n1 => ⟨fun _ => F1, fun n2 => ⟨fun n3 => ?_, fun _ => F1⟩⟩⟩
  have n1 := i_ne n1
  have n2 := i_ne n2
  have n3 := i_ne n3
  have G0 : b_X10_codeOf_65 p Q p x4 0 v := by
    unfold b_X10_codeOf_65 b_X10_codeOf_70
    refine ⟨fun c => absurd rfl c, fun _ => ⟨fun c => absurd c (by decide), fun _ => ⟨fun c => ?_, fun _ => H84 _ _⟩⟩⟩
    have c := i_ne c
    unfold b_X10_codeOf_88
    exact k 0 (fun q => by exfalso; omega)
  unfold b_X10_codeOf_31
  refine ⟨fun _ => G0, fun m1 => ⟨fun _ => G0, fun m2 => ⟨fun _ => G0, fun m3 => ⟨fun _ => G0, fun m4 => ⟨fun m5 => ?_, fun _ => G0⟩⟩⟩⟩⟩
  have m1 := i_ne m1
  have m2 := i_ne m2
  have m3 := i_ne m3
  have m4 := i_ne m4
  have m5 := i_ne m5
  unfold b_X10_codeOf_70
  refine ⟨fun c => absurd rfl c, fun _ => ⟨fun _ => ?_, fun c => absurd rfl c⟩⟩
  unfold b_X10_codeOf_88
  exact k 0 (fun q => by exfalso; omega)
theorem s_headOf {v : VV} {p : Int32} {Q : Int32 → VV → Prop} (k : ∀ x : Int32, x.toInt = 8 ∨ x.toInt = 9 ∨ x.toInt = 10 → Q x v) : w_X10_headOf p v Q := by
  have K8 := k 8 (by decide)
  have K9 := k 9 (by decide)
  have K10 := k 10 (by decide)
  unfold w_X10_headOf b_X10_headOf_21
  exact ⟨fun _ => K10, fun _ => ⟨fun _ => K10, fun _ => ⟨fun _ => ⟨fun _ => K8, fun _ => K9⟩, fun _ => K10⟩⟩⟩
theorem s_159 {v : VV} {a1 a2 a3 a4 a5 s0 : Int32} {Q : Int32 → VV → Prop} (h4 : a4.toInt = 8 ∨ a4.toInt = 9 ∨ a4.toInt = 10) (k0 : Q 0 v) (k1 : Q 1 v) : b_X10_isGood_159 Q a1 a2 a3 a4 a5 s0 v := by
  have l3 : Int32.toInt 3 = 3 := by decide
  have l2 : Int32.toInt 2 = 2 := by decide
  unfold b_X10_isGood_159
  intro x168 e168
  have i168 := i_sub e168 (by omega) (by omega)
  refine ⟨in_of (by omega) (by omega), ?_⟩
  intro x169 e169
  unfold b_X10_isGood_198
  refine ⟨fun _ => k0, fun _ => ?_⟩
  intro x183 e183
  have i183 := i_sub e183 (by omega) (by omega)
  refine ⟨in_of (by omega) (by omega), ?_⟩
  intro x184 e184
  exact ⟨fun _ => k0, fun _ => ⟨fun _ => k0, fun _ => k1⟩⟩
theorem sl_isGood {v : VV} {i : Nat} {Q : Int32 → VV → Prop} (hn : (v 816 61).toInt = (i : Int)) (hi : 2 ≤ i ∧ i ≤ 20) (hB : ∀ i : Nat, (i : Int) < (v 816 61).toInt → byt (v 872 i)) (k : ∀ x : Int32, (¬ x = 0 → sumL (v 872) i % 255 = 0) → Q x v) : ∀ (m j : Nat) (a1 a2 a3 : Int32), i < m + j → j ≤ i → a1.toInt = sumL (v 872) j → 0 ≤ a1.toInt → a1.toInt ≤ 255 * (j : Int) → 0 ≤ a2.toInt → a2.toInt ≤ 5100 * (j : Int) → a3.toInt = (j : Int) + 1 → b_X10_isGood_6 Q m a1 a2 a3 v := by
  have l1 : Int32.toInt 1 = 1 := by decide
  have l0 : Int32.toInt 0 = 0 := by decide
  intro m
  induction m with
  | zero => intro j a1 a2 a3 hm hj e1 c1 c2 b1 b2 e3; exfalso; omega
  | succ m ih =>
    intro j a1 a2 a3 hm hj e1 c1 c2 b1 b2 e3
    intro x8 e8
    have i8 := i_eq e8
    refine ⟨fun c => ?_, fun c => ?_⟩
    · have c := i_lt c
      have ej : j = i := by omega
      subst ej
      have k0 : Q 0 v := k 0 (fun q => absurd rfl q)
      intro x56 e56
      have hb1 := hB 1 (by omega)
      refine s_codeOf (by rw [e56]; exact hb1) (fun x57 _ => ?_)
      refine s_headOf (fun x62 r62 => ?_)
      intro x71 e71
      have i71 := i_rem e71 (by omega) (by decide)
      unfold b_X10_isGood_98
      refine ⟨fun _ => k0, fun q1 => ?_⟩
      have q1 := i_eq q1
      rw [show Int32.toInt 255 = 255 from by decide] at i71
      have k1 : Q 1 v := k 1 (fun _ => by omega)
      intro x79 e79
      refine ⟨fun _ => k0, fun _ => ⟨fun _ => k0, fun _ => ?_⟩⟩
      intro x92 e92
      refine ⟨fun _ => ?_, fun _ => k0⟩
      intro x101 e101 x106 e106 x108 e108
      have f0 := fun s0 => s_159 (v := v) (a1 := a1) (a2 := a2) (a3 := x57) (a4 := x62) (a5 := x108) (s0 := s0) (Q := Q) r62 k0 k1
      unfold b_X10_isGood_151 b_X10_isGood_134
      exact ⟨fun _ => ⟨fun _ => ⟨fun _ => f0 0, fun _ => f0 1⟩, fun _ => ⟨fun _ => f0 0, fun _ => f0 1⟩⟩, fun _ => ⟨fun _ => f0 0, fun _ => ⟨fun _ => f0 0, fun _ => f0 1⟩⟩⟩
    · have c := i_nlt c
      intro x21 e21
      have i21 := i_sub e21 (by omega) (by omega)
      have t21 := tn_of (x := x21) (by omega)
      have u21 : x21.toNatClampNeg = j := by omega
      refine ⟨in_of (by omega) (by omega), ?_⟩
      intro x22 e22 x23 e23 x27 e27 x31 e31 x33 e33 x40 e40
      rw [u21] at e22
      have hb := hB j (by omega)
      rw [← e22] at hb
      have i23 := i_add e23 (by omega) (by omega)
      have i27 := i_eq e27
      have i31 := i_sub e31 (by omega) (by omega)
      have i33 := i_add e33 (by omega) (by omega)
      have i40 := i_sub e40 (by omega) (by omega)
      have t40 := tn_of (x := x40) (by omega)
      have u40 : x40.toNatClampNeg = j := by omega
      refine ⟨in_of (by omega) (by omega), ?_⟩
      intro x41 e41 x42 e42 x43 e43 x45 e45
      rw [u40] at e41
      have e41' : x41 = x22 := by rw [e41, e22]
      subst e41'
      have m1 := mul_r (a := x33.toInt) (b := x41.toInt) (A := 20) (B := 255) (by omega) (by omega) (by omega) (by omega)
      have i42 := i_mul e42 (by omega) (by omega)
      have i43 := i_add e43 (by omega) (by omega)
      have i45 := i_add e45 (by omega) (by omega)
      refine ih (j + 1) x23 x43 x45 (by omega) (by omega) ?_ (by omega) (by omega) (by omega) (by omega) (by omega)
      show x23.toInt = sumL (v 872) j + (v 872 j).toInt
      rw [← e22]; omega
theorem s_isGood {v : VV} {i : Nat} {Q : Int32 → VV → Prop} (hn : (v 816 61).toInt = (i : Int)) (hi : 2 ≤ i ∧ i ≤ 20) (hB : ∀ i : Nat, (i : Int) < (v 816 61).toInt → byt (v 872 i)) (k : ∀ x : Int32, (¬ x = 0 → sumL (v 872) i % 255 = 0) → Q x v) : w_X10_isGood v Q :=
  ⟨30, sl_isGood hn hi hB k 30 0 0 0 1 (by omega) (by omega) rfl (by decide) (by decide) (by decide) (by decide) (by decide)⟩
section IM
variable {g g' c c' : Nat → Int → Int} {d0 d1 d2 L M κ om : Int} {v v1 z : VV}
/-- what lies in arrived: a unit as it was sent, one byte of it changed perhaps -/
def AR (g : Nat → Int → Int) (R S : Nat) (s code : Int) (v : VV) : Prop := EF R S ∧ ((v 816 0).toInt - 8 ≤ s ∧ s ≤ (v 816 0).toInt - 2) ∧ ∃ (o : Nat → Int32) (p : Nat), (o 1).toInt = code ∧ UOK g R S (v 818 R).toInt (v 818 S).toInt (fun i => (o i).toInt) (v 816 61).toInt s ∧ (∀ i, byt (o i)) ∧ sumL o (v 816 61).toInt.toNat % 255 = 0 ∧ (∀ i : Nat, (i : Int) < (v 816 61).toInt → byt (v 872 i)) ∧ (∀ i : Nat, (i : Int) < (v 816 61).toInt → i ≠ p → v 872 i = o i)
theorem AR.arr {R S : Nat} {s code : Int} (h : AR g R S s code v) (hs : sumL (v 872) (v 816 61).toInt.toNat % 255 = 0) : Arr g R S s v ∧ (v 872 1).toInt = code := by
  obtain ⟨h1, h2, o, p, hc, hU, hO, hso, hB, hp⟩ := h
  have hsz := hU.size
  have N : ∀ i : Nat, (i : Int) < (v 816 61).toInt → nb (v 872 i).toInt (o i).toInt := by
    intro i hi
    by_cases e : i = p
    · subst e
      have e1 : sumL (v 872) (v 816 61).toInt.toNat = sumL o (v 816 61).toInt.toNat + (v 872 i).toInt - (o i).toInt := by
        rw [← sumL_upd (f := o) (k := i) (x := v 872 i) (v 816 61).toInt.toNat (by omega)]
        refine sumL_ext _ (fun j hj => ?_)
        by_cases ej : j = i
        · rw [ej, upd_s]
        · rw [upd_n ej]; exact hp j (by omega) ej
      rw [e1] at hs
      exact spoil_nb (c := sumL o (v 816 61).toInt.toNat) (hO i) (hB i (by omega)) hso (by rw [show sumL o (v 816 61).toInt.toNat + ((v 872 i).toInt - (o i).toInt) = sumL o (v 816 61).toInt.toNat + (v 872 i).toInt - (o i).toInt by omega]; exact hs)
    · rw [hp i hi e]; exact nb.rf
  have e0 : (v 872 0).toInt = (o 0).toInt := by have := N 0 (by omega); unfold nb at this; omega
  have e1 : (v 872 1).toInt = (o 1).toInt := by have := N 1 (by omega); unfold nb at this; omega
  refine ⟨⟨h1, h2, ?_, hB⟩, by rw [e1]; exact hc⟩
  have n2 := N 2 (by omega)
  have n3 := N 3 (by omega)
  have n4 := N 4 (by omega)
  have n5 := N 5 (by omega)
  refine hU.mp e0 e1 (fun _ q => ?_) (fun _ q => ?_) (fun _ q => ?_) (fun _ q => ?_) (fun _ q => ?_)
  · obtain ⟨m, q1, q2, q3, q4⟩ := q
    exact ⟨m, q1, q2, ⟨n4.tr q3.1, n5.tr q3.2⟩, q4⟩
  · obtain ⟨r, q1, q2⟩ := q
    exact ⟨r, n4.tr q1, q2⟩
  · obtain ⟨r, q1, q2⟩ := q
    exact ⟨r, n4.tr q1, q2⟩
  · obtain ⟨a, l, m, q1, q2, q3, q4, q5, q6⟩ := q
    exact ⟨a, l, m, q1, n4.tr q2, q3, q4, ⟨n2.tr q5.1, n3.tr q5.2⟩, q6⟩
  · obtain ⟨a, l, m, q1, q2, q3, q4, q5, q6⟩ := q
    exact ⟨a, l, m, q1, n4.tr q2, q3, q4, ⟨n2.tr q5.1, n3.tr q5.2⟩, q6⟩
theorem UOK.code {R S : Nat} {rr rs : Int} {f : Nat → Int} {z s : Int} (h : UOK g R S rr rs f z s) : (224 ≤ f 1 ∧ f 1 ≤ 230) ∨ (208 ≤ f 1 ∧ f 1 ≤ 214) ∨ (96 ≤ f 1 ∧ f 1 ≤ 102) ∨ f 1 = 240 ∨ f 1 = 16 ∨ f 1 = 32 ∨ f 1 = 128 ∨ f 1 = 192 := by
  unfold UOK at h
  omega
/-- the wait of an end that was heard is over -/
theorem Im.heard {e f : Nat} (h : Im g c d0 d1 d2 L M κ om v) (ho : 1 ≤ om ∧ om ≤ 9) (hef : EF e f) : Im g c d0 d1 d2 L M κ om (up2 v 825 e 0) := by
  obtain ⟨⟨a1, a2, a3, a4⟩, hE, hF, hN0⟩ := h
  have R : ∀ a, a ≠ 825 → up2 v 825 e 0 a = v a := fun a ha => up2_of _ _ _ _ ha
  have e0 : up2 v 825 e 0 816 0 = v 816 0 := by rw [R 816 (by decide)]
  have l0 : Int32.toInt 0 = 0 := by decide
  refine ⟨⟨?_, a2.cg (R _ (by decide)) (R _ (by decide)) (R _ (by decide)) (R _ (by decide)) (R _ (by decide)) (R _ (by decide)), ?_, a4⟩, ?_, fun u hu1 hu2 => ?_, ?_⟩
  · unfold iSc; rw [R 816 (by decide), R 869 (by decide)]; exact a1
  · unfold iFa; rw [R 816 (by decide), R 864 (by decide), R 866 (by decide), R 867 (by decide)]; exact a3
  · intro p q hpq
    obtain ⟨b1, b2, b3, b4, b5⟩ := hE p q hpq
    refine ⟨b1.cg (R _ (by decide)) (R _ (by decide)) (R _ (by decide)) (R _ (by decide)) (R _ (by decide)) (R _ (by decide)) (R _ (by decide)) (R _ (by decide)) (R _ (by decide)) (R _ (by decide)), b2.cg e0 (R _ (by decide)) (R _ (by decide)) (R _ (by decide)) (R _ (by decide)) (R _ (by decide)) (R _ (by decide)) (R _ (by decide)) (R _ (by decide)) (R _ (by decide)) (R _ (by decide)) (R _ (by decide)), ?_, b4.cg e0 (R _ (by decide)) (R _ (by decide)) rfl, b5.cg e0 (R _ (by decide)) (R _ (by decide)) rfl⟩
    obtain ⟨c1, c2, c3, c4, c5, c6, c7, c8⟩ := b3
    unfold iC
    rw [e0, R 817 (by decide), R 818 (by decide), R 819 (by decide), R 822 (by decide)]
    refine ⟨c1, c2, c3, c4, c5, c6, ?_, c8⟩
    by_cases ep : p = e
    · intro k
      rw [ep, up2_s, l0] at k
      exact absurd rfl k
    · unfold iW at c7 ⊢
      rw [e0, up2_k _ _ _ _ ep, R 817 (by decide), R 818 (by decide), R 820 (by decide), R 828 (by decide), R 829 (by decide)]
      exact c7
  · rw [R 816 (by decide)] at hu1 hu2
    exact (hF u hu1 hu2).cg (R _ (by decide)) (R _ (by decide)) (R _ (by decide)) (R _ (by decide)) (R _ (by decide)) (R _ (by decide)) (R _ (by decide))
  · unfold iN
    rw [R 816 (by decide), bnk.cg (R _ (by decide)) (R _ (by decide)) (R _ (by decide)) (R _ (by decide)), bnk.cg (R _ (by decide)) (R _ (by decide)) (R _ (by decide)) (R _ (by decide))]
    exact hN0
theorem Arr.cg {R S : Nat} {s : Int} (h : Arr g R S s v) (h816 : v1 816 = v 816) (h818 : v1 818 = v 818) (h872 : v1 872 = v 872) : Arr g R S s v1 := by
  unfold Arr at h ⊢
  rw [h816, h818, h872]
  exact h
theorem s_arrive {p1 : Int32} {e f : Nat} {s code : Int} {cz : Nat → Int → Int} {vz : VV} {Q : VV → Prop} (h : Im g c d0 d1 d2 L M κ om v) (hz : Fx cz c vz v) (ho : 1 ≤ om ∧ om ≤ 9) (hκ : κ ≤ 0) (hL : L ≤ 511) (he : p1.toInt = (e : Int)) (hA : AR g e f s code v) (h0 : lv1 code ≤ d0) (h1 : lv2 code ≤ d1) (k : ∀ v1, Iz cz vz (d0 - lv1 code) (d1 - lv2 code) d2 L M κ om v1 → Q v1) : w_X10_arrive p1 v Q := by
  have hef := hA.1
  have t1 := tn_of (x := p1) (by omega)
  have u1 : p1.toNatClampNeg = e := by omega
  have tk := h.tok
  have w1 := lv1_r code
  have w2 := lv2_r code
  have hrf := h.ref (by omega) hef
  obtain ⟨z1, z2⟩ : 9 ≤ (v 816 61).toInt ∧ (v 816 61).toInt ≤ 17 := by
    obtain ⟨_, _, o, p, _, hU, _⟩ := hA
    have := hU.size
    omega
  have hB : ∀ i : Nat, (i : Int) < (v 816 61).toInt → byt (v 872 i) := by
    obtain ⟨_, _, o, p, _, _, _, _, hB, _⟩ := hA
    exact hB
  have L8 : Int32.toInt 224 = 224 ∧ Int32.toInt 208 = 208 ∧ Int32.toInt 96 = 96 ∧ Int32.toInt 240 = 240 ∧ Int32.toInt 16 = 16 ∧ Int32.toInt 32 = 32 ∧ Int32.toInt 128 = 128 ∧ Int32.toInt 0 = 0 ∧ Int32.toInt 1 = 1 ∧ Int32.toInt 2 = 2 ∧ Int32.toInt 3 = 3 := by decide
  have hless : Q v := k v ⟨g, c, h.less (by omega) (by omega) (by omega), hz⟩
  unfold w_X10_arrive
  refine s_isGood (i := (v 816 61).toInt.toNat) (by omega) (by omega) hB (fun x1 r1 => ?_)
  refine ⟨fun q => ?_, fun _ => hless⟩
  obtain ⟨hA2, hcd⟩ := hA.arr (r1 q)
  have hc8 := hA2.2.2.1.code
  have hc8 : (224 ≤ (v 872 1).toInt ∧ (v 872 1).toInt ≤ 230) ∨ (208 ≤ (v 872 1).toInt ∧ (v 872 1).toInt ≤ 214) ∨ (96 ≤ (v 872 1).toInt ∧ (v 872 1).toInt ≤ 102) ∨ (v 872 1).toInt = 240 ∨ (v 872 1).toInt = 16 ∨ (v 872 1).toInt = 32 ∨ (v 872 1).toInt = 128 ∨ (v 872 1).toInt = 192 := hc8
  intro x13 e13
  have i13 : x13.toInt = (v 872 1).toInt := i_eq e13
  have b1 := hB 1 (by omega)
  have b2 := hB 2 (by omega)
  have b3 := hB 3 (by omega)
  have b4 := hB 4 (by omega)
  have b5 := hB 5 (by omega)
  refine s_codeOf (by omega) (fun x14 r14 => ?_)
  have r14 := r14 (by omega)
  refine ⟨fun q2 => ?_, fun q2 => ?_⟩
  · have q2 := i_ne q2
    have nv2 : lv2 code = 0 := by unfold lv2; rw [if_neg (by omega)]
    rw [nv2] at k
    have k : ∀ v1, Iz cz vz (d0 - lv1 code) d1 d2 L M κ om v1 → Q v1 := fun v1 hv => k v1 (by rw [show d1 - 0 = d1 by omega]; exact hv)
    have hl1 : ∀ v1, 1 ≤ lv1 code → (∀ {dd : Int}, dd = d0 - 1 → Iz cz vz dd d1 d2 L M κ om v1) → Q v1 := fun v1 q hv => k v1 (hv (by omega))
    refine s_two (i := 2) (by decide) (by decide) b2 b3 (fun x33 r33 => ?_)
    have r33 : x33.toInt = 256 * (v 872 2).toInt + (v 872 3).toInt := r33
    have own0 : b_X10_arrive_69 p1 Q p1 x14 v := by
      unfold b_X10_arrive_69 b_X10_arrive_70
      refine ⟨fun c => absurd rfl c, fun _ => ⟨fun _ => hless, fun q3 => ?_⟩⟩
      have q3 := i_eq q3
      have l1 : lv1 code = 1 := by unfold lv1; rw [if_pos (by omega)]
      refine s_two (i := 4) (by decide) (by decide) b4 b5 (fun x89 r89 => ?_)
      have r89 : x89.toInt = 256 * (v 872 4).toInt + (v 872 5).toInt := r89
      refine s_two (i := 2) (by decide) (by decide) b2 b3 (fun x94 r94 => ?_)
      have r94 : x94.toInt = 256 * (v 872 2).toInt + (v 872 3).toInt := r94
      exact s_sendEndRec h hz ho he hef (by omega) (by omega) (by omega) (fun w c' i1 i2 _ => k w (by rw [l1]; exact ⟨g, c', i1, i2⟩))
    refine ⟨in_of (by omega) (by omega), ?_⟩
    intro x41 e41
    rw [u1] at e41
    have i41 := i_eq e41
    refine ⟨fun _ => own0, fun q3 => ⟨in_of (by omega) (by omega), ?_⟩⟩
    have q3 := i_eq q3
    intro x50 e50
    rw [u1] at e50
    have i50 := i_eq e50
    refine ⟨fun _ => own0, fun q4 => ⟨in_of (by omega) (by omega), ?_⟩⟩
    have q4 := i_nlt q4
    intro x60 e60
    rw [u1] at e60
    have i60 := i_eq e60
    refine ⟨fun _ => own0, fun q5 => ?_⟩
    have q5 := i_nlt q5
    have own : 256 * (v 872 2).toInt + (v 872 3).toInt = (v 818 e).toInt := by omega
    unfold b_X10_arrive_70
    refine ⟨fun _ => ?_, fun c => absurd c (by decide)⟩
    intro x108 e108
    refine ⟨in_of (by omega) (by omega), ?_⟩
    intro w1 hw1
    have I1 : Im g c d0 d1 d2 L M κ om w1 := by rw [hw1]; exact h.put rfl (fun q => by cases q) (fun q => by omega)
    have F1 : Fx cz c vz w1 := by rw [hw1]; exact hz.put (by decide)
    have R1 : ∀ a, a ≠ 824 → w1 a = v a := fun a ha => by rw [hw1, up2_of _ _ _ _ ha]
    have A1 : Arr g e f s w1 := hA2.cg (R1 _ (by decide)) (R1 _ (by decide)) (R1 _ (by decide))
    -- all kinds, at a world that differs in nothing that matters
    have fin : ∀ w : VV, Im g c d0 d1 d2 L M κ om w → Fx cz c vz w → Arr g e f s w → w 817 = v 817 → w 818 = v 818 → w 872 = v 872 → ((w 817 e).toInt = 2 → (w 825 e).toInt = 0) → b_X10_arrive_138 p1 Q p1 x14 1 w := by
      intro w hI hF hAw e817 e818 e872 hw
      have hless2 : Q w := k w ⟨g, c, hI.less (by omega) (by omega) (by omega), hF⟩
      unfold b_X10_arrive_138
      refine ⟨fun n1 => ⟨fun n2 => ⟨fun n3 => ⟨fun n4 => ⟨fun n5 => ⟨fun n6 => ⟨in_of (by omega) (by omega), ?_⟩, fun n6 => ?_⟩, fun n5 => ?_⟩, fun n4 => ?_⟩, fun n3 => ?_⟩, fun n2 => ?_⟩, fun n1 => ?_⟩
      · intro x230 e230
        rw [u1] at e230
        have i230 := i_eq e230
        refine ⟨fun _ => hless2, fun n7 => ?_⟩
        have n7 := i_eq n7
        exact s_freeze ⟨g, c, hI.less (by omega) (by omega) (by omega), hF⟩ ho (by omega) he hef (by omega) (fun v1 hv _ => k v1 hv)
      · have n6 := i_eq n6
        have l1 : lv1 code = 1 := by unfold lv1; rw [if_pos (by omega)]
        exact s_arriveEnd hI hF ho hκ he hAw (by rw [e817]; omega) (by omega) (fun v1 hv => k v1 (by rw [l1]; exact hv))
      · have n5 := i_eq n5
        have l1 : lv1 code = 0 := by unfold lv1; rw [if_neg (by omega)]
        exact s_arriveUrgentReceipt hI hF ho he hAw (by rw [e872]; omega) (fun v1 hv => k v1 (by rw [l1, show d0 - 0 = d0 by omega]; exact hv))
      · have n4 := i_eq n4
        have l1 : lv1 code = 1 := by unfold lv1; rw [if_pos (by omega)]
        exact s_arriveUrgent hI hF ho (by omega) hL he hAw (by rw [e872]; omega) (by rw [e872, e818]; exact own) hw (by omega) (fun v1 hv => k v1 (by rw [l1]; exact hv))
      · have n3 := i_eq n3
        have l1 : lv1 code = 1 := by unfold lv1; rw [if_pos (by omega)]
        exact s_arriveData hI hF ho (by omega) hL he hAw (by rw [e872]; omega) (by rw [e872, e818]; exact own) hw (by omega) (fun v1 hv => k v1 (by rw [l1]; exact hv))
      · have n2 := i_eq n2
        have l1 : lv1 code = 0 := by unfold lv1; rw [if_neg (by omega)]
        exact s_arriveReceipt hI hF ho he hAw (by rw [e872]; omega) (fun v1 hv => k v1 (by rw [l1, show d0 - 0 = d0 by omega]; exact hv))
      · have n1 := i_eq n1
        have l1 : lv1 code = 1 := by unfold lv1; rw [if_pos (by omega)]
        exact s_arriveAnswer hI hF ho (by omega) he hAw (by rw [e872]; omega) (by omega) (fun v1 hv => k v1 (by rw [l1]; exact hv))
    have cW := (I1.2.1 e f hef).2.2.1.2.2.2.2.2.2.1
    refine ⟨in_of (by omega) (by omega), ?_⟩
    intro x117 e117
    rw [u1] at e117
    have i117 := i_eq e117
    refine ⟨fun q6 => ?_, fun q6 => ⟨in_of (by omega) (by omega), ?_⟩⟩
    · have q6 := i_ne q6
      exact fin w1 I1 F1 A1 (R1 _ (by decide)) (R1 _ (by decide)) (R1 _ (by decide)) (fun q7 => by omega)
    · have q6 := i_eq q6
      intro x127 e127
      rw [u1] at e127
      have i127 := i_eq e127
      refine ⟨fun q7 => ?_, fun q7 => ⟨in_of (by omega) (by omega), ?_⟩⟩
      · have q7 := i_eq q7
        refine fin w1 I1 F1 A1 (R1 _ (by decide)) (R1 _ (by decide)) (R1 _ (by decide)) (fun q8 => ?_)
        by_cases q9 : (w1 825 e).toInt = 0
        · exact q9
        · have := (cW q9).2.2.2
          exfalso
          omega
      · intro w5 hw5
        rw [u1] at hw5
        have R5 : ∀ a, a ≠ 825 → w5 a = w1 a := fun a ha => by rw [hw5, up2_of _ _ _ _ ha]
        refine fin w5 (by rw [hw5]; exact I1.heard ho hef) (by rw [hw5]; exact F1.put (by decide)) (A1.cg (R5 _ (by decide)) (R5 _ (by decide)) (R5 _ (by decide))) ((R5 _ (by decide)).trans (R1 _ (by decide))) ((R5 _ (by decide)).trans (R1 _ (by decide))) ((R5 _ (by decide)).trans (R1 _ (by decide))) (fun _ => by rw [hw5, up2_s]; decide)
  · have q2 := i_eq q2
    have l2 : lv2 code = 1 := by unfold lv2; rw [if_pos (by omega)]
    have l1 : lv1 code = 0 := by unfold lv1; rw [if_neg (by omega)]
    exact s_arriveCall h hz ho (by omega) he hA2 (by omega) (by omega) (fun v1 hv => k v1 (by rw [l1, l2, show d0 - 0 = d0 by omega]; exact hv))
end IM
