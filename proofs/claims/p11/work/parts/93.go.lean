/-! sending what is numbered -/
theorem Snt.put {v v1 : VV} {r : Nat → Int32} {n ee x : Int32} {o k : Nat} (h : Snt v v1 r n ee) (ho : 817 ≤ o ∧ o ≤ 867 ∧ o ≠ 823) : Snt (up2 v o k x) (up2 v1 o k x) r n ee := by
  obtain ⟨s1, s2, s3, s4, s5, s6, s7, s8, s9, s10⟩ := h
  unfold Snt
  rw [up2_o v o k x 54 (by omega), up2_o v o k x 0 (by omega), up2_of v o k x (a := 869) (by omega), up2_of v o k x (a := 870) (by omega), up2_of v o k x (a := 871) (by omega)]
  refine ⟨fun a n1 n2 n3 n4 n5 n6 n7 => ?_, fun q q1 q2 => ?_, ?_, ?_, ?_, ?_, ?_, ?_, ?_, ?_⟩
  · by_cases e : a = o
    · subst e
      rw [up2_f, up2_f, s1 a n1 n2 n3 n4 n5 n6 n7]
    · rw [up2_of _ _ _ _ e, up2_of _ _ _ _ e, s1 a n1 n2 n3 n4 n5 n6 n7]
  · rw [up2_o _ _ _ _ _ (by omega), up2_o _ _ _ _ _ (by omega), s2 q q1 q2]
  · rw [up2_o _ _ _ _ _ (by omega), s3]
  · rw [up2_o _ _ _ _ _ (by omega), s4]
  · rw [up2_of _ _ _ _ (by omega), s5]
  · rw [up2_of _ _ _ _ (by omega), s6]
  · rw [up2_of _ _ _ _ (by omega), s7]
  · rw [up2_of _ _ _ _ (by omega), s8]
  · intro i hi
    rw [up2_o _ _ _ _ _ (by omega)]; exact s9 i hi
  · intro i hi
    rw [up2_o _ _ _ _ _ (by omega), up2_o _ _ _ _ _ (by omega)]; exact s10 i hi
section IM
variable {g c : Nat → Int → Int} {d0 d1 d2 L M κ om : Int} {v : VV}
theorem s_piece {p1 p2 : Int32} {e f kk : Nat} {Q : VV → Prop} (h : Im g c d0 d1 d2 L M κ om v) (ho : 1 ≤ om ∧ om ≤ 9) (he : p1.toInt = (e : Int)) (hef : EF e f) (hk : p2.toInt = (kk : Int)) (hst : (v 817 e).toInt = 2) (hfl : (kk : Int) < (v 831 e).toInt) (hd : 1 ≤ d1) (k : ∀ (v1 : VV) (c' : Nat → Int → Int), Im g c' d0 (d1 - 1) d2 L M κ om v1 → (∀ cz vz, Fx cz c vz v → Fx cz c' vz v1) → v1 830 = v 830 → v1 831 = v 831 → v1 817 = v 817 → Q v1) : w_X10_sendPiece p1 p2 v Q := by
  obtain ⟨sE, rE, cE, tE, uE⟩ := h.2.1 e f hef
  have hfe : EF f e := by omega
  obtain ⟨sF, rF, cF, tF, uF⟩ := h.2.1 f e hfe
  have s1 := sE.1
  have s2 := sE.2.1
  have b1 := sE.2.2.2.1 kk (by omega)
  have b2 := sE.2.2.2.2.1 kk hfl
  have hc4 := cE.2.2.2.1 hst
  have tk := h.tok
  refine s_sendPiece (e := e) (kk := kk) (sz := (v 832 (40 * e + kk)).toInt.toNat) he (by omega) hk (by omega) h.1.2.1 (h.sc ho.2).1 (by omega) (by omega) cE.2.1 (by omega) (fun w r n a b l hs hc hl h4 => ?_)
  have R := hs.1
  obtain ⟨c', i1, i2, i3⟩ := h.send (x1 := 1) (x2 := 0) ho hef he hs hc (by
    refine Or.inr (Or.inr (Or.inr (Or.inr (Or.inl ⟨hc.2.2.1, hc.2.1, by omega, by omega, ?_⟩))))
    refine ⟨g (12 + f) 0 + kk, l, g (16 + e) 0, hl, ?_, hc4.1, hc4.2.1, ?_, ?_⟩
    · show nb (r 4).toInt _
      rw [h4, b2]; exact nb.rf
    · show nr (r 2).toInt (r 3).toInt _
      rw [hc.2.2.2.1, hc.2.2.2.2.1]; exact hc4.2.2
    · exact tF.1.fd (by omega) (by omega) (fun q => ⟨hst, q⟩)) (fun _ => by omega) (by unfold lv1; rw [if_pos (by omega)]) (by unfold lv2; rw [if_neg (by omega)]) (by omega) (by omega) (by omega)
  have i1 := (i1.put (o := 835) (k := 40 * e + kk) (x := a) rfl (fun q => by cases q) (fun q => by omega)).put (o := 836) (k := 40 * e + kk) (x := b) rfl (fun q => by cases q) (fun q => by omega)
  refine k _ c' (i1.less (by omega) (by omega) (by omega)) (fun cz vz hz => ((i2 cz vz hz).put (by decide)).put (by decide)) ?_ ?_ ?_
  · rw [up2_of _ _ _ _ (by decide), up2_of _ _ _ _ (by decide)]; exact R _ (by decide) (by decide) (by decide) (by decide) (by decide) (by decide) (by decide)
  · rw [up2_of _ _ _ _ (by decide), up2_of _ _ _ _ (by decide)]; exact R _ (by decide) (by decide) (by decide) (by decide) (by decide) (by decide) (by decide)
  · rw [up2_of _ _ _ _ (by decide), up2_of _ _ _ _ (by decide)]; exact R _ (by decide) (by decide) (by decide) (by decide) (by decide) (by decide) (by decide)
/-- an urgent unit flies -/
theorem Im.urgeS {ee n : Int32} {r : Nat → Int32} {e f : Nat} {v1 : VV} (h : Im g c d0 d1 d2 L M κ om v) (ho : 1 ≤ om ∧ om ≤ 9) (hee : ee.toInt = (e : Int)) (hef : EF e f) (hst : (v 817 e).toInt = 2) (hu : (v 844 e).toInt ≠ 0) (hs : Snt v v1 r n ee) (hc : Ct r n 10 8 16 (v 819 e).toInt) (h4 : (r 4).toInt = (v 843 e).toInt) (hd : 1 ≤ d1) : ∃ c', Im g c' d0 (d1 - 1) d2 L M κ om v1 ∧ (∀ cz vz, Fx cz c vz v → Fx cz c' vz v1) := by
  obtain ⟨sE, rE, cE, tE, uE⟩ := h.2.1 e f hef
  have hfe : EF f e := by omega
  obtain ⟨sF, rF, cF, tF, uF⟩ := h.2.1 f e hfe
  obtain ⟨s1, s2, s3, s4, s5, s6, s7, s8, s9, s10⟩ := sE
  rw [if_neg hu] at s9
  have hc4 := cE.2.2.2.1 hst
  have tk := h.tok
  obtain ⟨c', i1, i2, i3⟩ := h.send (x1 := 1) (x2 := 0) ho hef hee hs hc (by
    refine Or.inr (Or.inr (Or.inr (Or.inr (Or.inr (Or.inl ⟨hc.2.2.1, hc.2.1, rfl, ?_⟩)))))
    refine ⟨g (12 + (f + 2)) 0, 0, g (16 + e) 0, Or.inl rfl, ?_, hc4.1, hc4.2.1, ?_, ?_⟩
    · show nb (r 4).toInt _
      rw [h4, s7]; exact Or.inl (by omega)
    · show nr (r 2).toInt (r 3).toInt _
      rw [hc.2.2.2.1, hc.2.2.2.2.1]; exact hc4.2.2
    · exact uF.1.fd (by omega) (by omega) (fun q => ⟨hst, q⟩)) (fun _ => by omega) (by unfold lv1; rw [if_pos (by omega)]) (by unfold lv2; rw [if_neg (by omega)]) (by omega) (by omega) (by omega)
  exact ⟨c', i1.less (by omega) (by omega) (by omega), i2⟩
theorem s_urgeFirst {p1 : Int32} {e f : Nat} {cz : Nat → Int → Int} {vz : VV} {Q : VV → Prop} (h : Iz cz vz d0 d1 d2 L M κ om v) (ho : 1 ≤ om ∧ om ≤ 9) (he : p1.toInt = (e : Int)) (hef : EF e f) (hst : (v 817 e).toInt = 2) (hq : 0 < (v 841 e).toInt) (hu : (v 844 e).toInt = 0) (k : ∀ v1, Iz cz vz d0 d1 d2 L M κ om v1 → Q v1) : w_X10_sendUrge p1 v Q := by
  obtain ⟨g, c, h, hz⟩ := h
  obtain ⟨sE, rE, cE, tE, uE⟩ := h.2.1 e f hef
  have hn := sE.2.2.2.2.2.2.1
  have tk := h.tok
  refine s_sendUrge (e := e) he (by omega) h.1.2.1 (h.sc ho.2).1 cE.2.1 (by omega) sE.2.2.2.2.2.2.2.1 (fun w r n a b hs hc h4 ha => ?_)
  have i1 := h.urge1 ho.1 hef hst hu hq (x := a) (by omega)
  have hs2 := hs.put (o := 844) (k := e) (x := a) (by decide)
  obtain ⟨c', j1, j2⟩ := i1.urgeS ho he hef (by rw [up2_of _ _ _ _ (by decide)]; exact hst) (by rw [up2_s]; omega) hs2 (by rw [up2_of _ _ _ _ (by decide)]; exact hc) (by rw [up2_of _ _ _ _ (by decide)]; exact h4) (by omega)
  have j1 := j1.put (o := 845) (k := e) (x := b) rfl (fun q => by cases q) (fun q => by omega)
  exact k _ ⟨_, c', j1.less (by omega) (by omega) (by omega), (j2 cz vz ((hz.put (by decide)).b (by decide))).put (by decide)⟩
theorem s_urgeAgain {p1 : Int32} {e f : Nat} {cz : Nat → Int → Int} {vz : VV} {Q : VV → Prop} (h : Iz cz vz d0 d1 d2 L M κ om v) (ho : 1 ≤ om ∧ om ≤ 9) (he : p1.toInt = (e : Int)) (hef : EF e f) (hst : (v 817 e).toInt = 2) (hu : (v 844 e).toInt ≠ 0) (hu4 : (v 844 e).toInt < 4) (hd : 1 ≤ d1) (k : ∀ v1, Iz cz vz d0 (d1 - 1) d2 L M κ om v1 → Q v1) : w_X10_sendUrge p1 v Q := by
  obtain ⟨g, c, h, hz⟩ := h
  obtain ⟨sE, rE, cE, tE, uE⟩ := h.2.1 e f hef
  have hn := sE.2.2.2.2.2.2.1
  have hT := sE.2.2.2.2.2.2.2.1
  refine s_sendUrge (e := e) he (by omega) h.1.2.1 (h.sc ho.2).1 cE.2.1 (by omega) hT (fun w r n a b hs hc h4 ha => ?_)
  have i1 := h.urge2 hef hu (x := a) (by omega)
  have hs2 := hs.put (o := 844) (k := e) (x := a) (by decide)
  obtain ⟨c', j1, j2⟩ := i1.urgeS ho he hef (by rw [up2_of _ _ _ _ (by decide)]; exact hst) (by rw [up2_s]; omega) hs2 (by rw [up2_of _ _ _ _ (by decide)]; exact hc) (by rw [up2_of _ _ _ _ (by decide)]; exact h4) hd
  have j1 := j1.put (o := 845) (k := e) (x := b) rfl (fun q => by cases q) (fun q => by omega)
  exact k _ ⟨g, c', j1, (j2 cz vz (hz.put (by decide))).put (by decide)⟩
/-- a receipt -/
theorem s_sendReceipt {p1 : Int32} {e f : Nat} {cz : Nat → Int → Int} {vz : VV} {Q : VV → Prop} (h : Iz cz vz d0 d1 d2 L M κ om v) (ho : 1 ≤ om ∧ om ≤ 9) (he : p1.toInt = (e : Int)) (hef : EF e f) (hst : (v 817 e).toInt = 2) (hd : 1 ≤ d0) (k : ∀ v1, Iz cz vz (d0 - 1) d1 d2 L M κ om v1 → Q v1) : w_X10_sendReceipt p1 v Q := by
  obtain ⟨g, c, h, hz⟩ := h
  obtain ⟨sE, rE, cE, tE, uE⟩ := h.2.1 e f hef
  have l96 : Int32.toInt 96 = 96 := by decide
  have t1 := tn_of (x := p1) (by omega)
  have u1 : p1.toNatClampNeg = e := by omega
  have hx := rE.1.1
  have tk := h.tok
  unfold w_X10_sendReceipt
  refine s_X10_credit p1 he hef rE (fun x6 r6 => ?_)
  intro x9 e9
  have i9 := i_add e9 (by omega) (by omega)
  refine ⟨in_of (by omega) (by omega), ?_⟩
  intro x15 e15
  rw [u1] at e15
  have i15 := i_eq e15
  refine s_sendNumber (by omega) (fun j => (h.1.2.1 j).2.2.2.2.2) (h.sc ho.2).1 (by omega) (by rw [u1]; exact cE.2.1) (by omega) (fun w r n hs hc h4 => ?_)
  rw [u1] at hc
  obtain ⟨c', i1, i2, i3⟩ := h.send (x1 := 0) (x2 := 0) ho hef he hs hc (by
    refine Or.inr (Or.inr (Or.inl ⟨by show _ ≤ (r 1).toInt; rw [hc.2.2.1]; omega, by show (r 1).toInt ≤ _; rw [hc.2.2.1]; omega, hc.2.1, rfl, g e (v 816 0).toInt, ?_, tE.1.fr⟩))
    show nb (r 4).toInt _
    rw [h4, i15, hx]; exact nb.rf) (fun _ => by omega) (by unfold lv1; rw [if_neg (by omega)]) (by unfold lv2; rw [if_neg (by omega)]) (by omega) (by omega) (by omega)
  exact k w ⟨g, c', i1.less (by omega) (by omega) (by omega), i2 cz vz hz⟩
/-- what may go, goes -/
theorem b_goOn {p1 : Int32} {e f : Nat} {cz : Nat → Int → Int} {vz : VV} {Q : VV → Prop} (h : Iz cz vz d0 d1 d2 L M κ om v) (ho : 1 ≤ om ∧ om ≤ 9) (he : p1.toInt = (e : Int)) (hef : EF e f) (k : ∀ v1, Iz cz vz d0 d1 d2 L M κ om v1 → Q v1) : b_X10_goOn_124 p1 Q p1 v := by
  have l0 : Int32.toInt 0 = 0 := by decide
  have l2 : Int32.toInt 2 = 2 := by decide
  have t1 := tn_of (x := p1) (by omega)
  have u1 : p1.toNatClampNeg = e := by omega
  unfold b_X10_goOn_124
  rw [u1]
  refine ⟨in_of (by omega) (by omega), ?_⟩
  intro x129 e129
  refine ⟨fun _ => k v h, fun c => ?_⟩
  refine ⟨in_of (by omega) (by omega), ?_⟩
  intro x139 e139
  refine ⟨fun _ => k v h, fun c2 => ?_⟩
  refine ⟨in_of (by omega) (by omega), ?_⟩
  intro x148 e148
  refine ⟨fun _ => k v h, fun c3 => ?_⟩
  have i1 := i_eq e129
  have i2 := i_eq e139
  have i3 := i_eq e148
  have c := i_eq c
  have c2 := i_nle c2
  have c3 := i_eq c3
  exact s_urgeFirst h ho he hef (by omega) (by omega) (by omega) k
theorem sl_goOn {p1 : Int32} {e f : Nat} {cz : Nat → Int → Int} {vz : VV} {Q : VV → Prop} (ho : 1 ≤ om ∧ om ≤ 9) (he : p1.toInt = (e : Int)) (hef : EF e f) (k : ∀ v1, Iz cz vz d0 d1 d2 L M κ om v1 → Q v1) : ∀ (m : Nat) (v : VV), Iz cz vz d0 d1 d2 L M κ om v → max 0 ((v 830 e).toInt - (v 831 e).toInt) < (m : Int) → b_X10_goOn_0 p1 Q m p1 v := by
  have l0 : Int32.toInt 0 = 0 := by decide
  have l1 : Int32.toInt 1 = 1 := by decide
  have l2 : Int32.toInt 2 = 2 := by decide
  have l40 : Int32.toInt 40 = 40 := by decide
  have t1 := tn_of (x := p1) (by omega)
  have u1 : p1.toNatClampNeg = e := by omega
  intro m
  induction m with
  | zero => intro v h hm; exfalso; omega
  | succ m ih =>
    intro v h hm
    have hk := b_goOn h ho he hef k
    obtain ⟨g, c, h, hz⟩ := h
    obtain ⟨sE, rE, cE, tE, uE⟩ := h.2.1 e f hef
    have hfe : EF f e := by omega
    have tF := (h.2.1 f e hfe).2.2.2.1
    have s1 := sE.1
    have s2 := sE.2.1
    have s3 := sE.2.2.1
    have sA := tF.1.2.2.2.2.1
    refine ⟨in_of (by omega) (by omega), ?_⟩
    intro x5 e5
    rw [u1] at e5
    refine ⟨fun _ => hk, fun q1 => ?_⟩
    refine ⟨in_of (by omega) (by omega), ?_⟩
    intro x15 e15
    rw [u1] at e15
    refine ⟨in_of (by omega) (by omega), ?_⟩
    intro x21 e21
    rw [u1] at e21
    refine ⟨fun _ => hk, fun q2 => ?_⟩
    refine ⟨in_of (by omega) (by omega), ?_⟩
    intro x30 e30
    rw [u1] at e30
    refine ⟨in_of (by omega) (by omega), ?_⟩
    intro x36 e36 x37 e37
    rw [u1] at e36
    have i5 := i_eq e5
    have q1 := i_eq q1
    have i15 := i_eq e15
    have i21 := i_eq e21
    have q2 := i_nle q2
    have i30 := i_eq e30
    have i36 := i_eq e36
    have i37 := i_sub e37 (by omega) (by omega)
    refine s_mod (fun x38 r38 => ?_)
    refine ⟨in_of (by omega) (by omega), ?_⟩
    intro x46 e46
    rw [u1] at e46
    refine ⟨fun _ => hk, fun q3 => ?_⟩
    have i46 := i_eq e46
    have q3 := i_nle q3
    intro x53 e53
    have i53 := i_mul e53 (by rw [l40]; omega) (by rw [l40]; omega)
    rw [l40] at i53
    refine ⟨in_of (by omega) (by omega), ?_⟩
    intro x59 e59 x60 e60
    rw [u1] at e59
    have i59 := i_eq e59
    have i60 := i_add e60 (by omega) (by omega)
    obtain ⟨kk, hkk⟩ : ∃ kk : Nat, (v 831 e).toInt = (kk : Int) := ⟨(v 831 e).toInt.toNat, by omega⟩
    have t60 := tn_of (x := x60) (by omega)
    have u60 : x60.toNatClampNeg = 40 * e + kk := by omega
    refine ⟨in_of (by omega) (by omega), ?_⟩
    intro x72 e72
    rw [u1] at e72
    refine ⟨in_of (by omega) (by omega), ?_⟩
    intro v10 h10
    refine ⟨in_of (by omega) (by omega), ?_⟩
    intro v12 h12
    refine ⟨in_of (by omega) (by omega), ?_⟩
    intro x91 e91 x93 e93
    rw [u1, h12, up2_o _ _ _ _ _ (by decide), h10, up2_o _ _ _ _ _ (by decide)] at e91
    have i91 := i_eq e91
    have i93 := i_add e93 (by omega) (by omega)
    refine s_mod (fun x94 r94 => ?_)
    refine ⟨in_of (by omega) (by omega), ?_⟩
    intro v16 h16
    refine ⟨in_of (by omega) (by omega), ?_⟩
    intro x104 e104 x106 e106
    rw [u1, h16, up2_o _ _ _ _ _ (by decide), h12, up2_o _ _ _ _ _ (by decide), h10, up2_o _ _ _ _ _ (by decide)] at e104
    have i104 := i_eq e104
    have i106 := i_add e106 (by omega) (by omega)
    refine ⟨in_of (by omega) (by omega), ?_⟩
    intro v19 h19
    refine ⟨in_of (by omega) (by omega), ?_⟩
    intro x115 e115 x117 e117
    rw [u1, h19, u1, up2_s] at e115
    have i115 := i_eq e115
    have i117 := i_sub e117 (by omega) (by omega)
    have hw : v19 = up2 (up2 (up2 (up2 v 834 (40 * e + kk) (v 838 e)) 835 (40 * e + kk) 0) 838 e x94) 831 e x106 := by
      rw [h19, h16, h12, h10, u1, u60, e72]
    have hI := h.first (q := 0) (y := x94) (z := x106) ho.1 hef (by omega) hkk (by omega) (by omega) (by omega) (by omega)
    rw [← hw] at hI
    have tk := h.tok
    have z831 : v19 831 e = x106 := by rw [hw, up2_s]
    have z817 : v19 817 = v 817 := by rw [hw, up2_of _ _ _ _ (by decide), up2_of _ _ _ _ (by decide), up2_of _ _ _ _ (by decide), up2_of _ _ _ _ (by decide)]
    have z830 : v19 830 = v 830 := by rw [hw, up2_of _ _ _ _ (by decide), up2_of _ _ _ _ (by decide), up2_of _ _ _ _ (by decide), up2_of _ _ _ _ (by decide)]
    have hz2 : Fx cz (upG c 4 (upH (c 4) (v 816 0).toInt (c 4 (v 816 0).toInt + 1))) vz v19 := by
      rw [hw]
      exact ((((hz.b (by decide)).put (by decide)).put (by decide)).put (by decide)).put (by decide)
    refine s_piece hI ho he hef (kk := kk) (by omega) (by rw [z817]; omega) (by rw [z831]; omega) (by omega) (fun v1 c' j1 j2 j3 j4 j5 => ?_)
    refine ih v1 ⟨_, c', j1.less (by omega) (by omega) (by omega), j2 cz vz hz2⟩ ?_
    rw [j3, j4, z830, z831]
    omega
theorem s_goOn {p1 : Int32} {e f : Nat} {cz : Nat → Int → Int} {vz : VV} {Q : VV → Prop} (h : Iz cz vz d0 d1 d2 L M κ om v) (ho : 1 ≤ om ∧ om ≤ 9) (he : p1.toInt = (e : Int)) (hef : EF e f) (k : ∀ v1, Iz cz vz d0 d1 d2 L M κ om v1 → Q v1) : w_X10_goOn p1 v Q := by
  have hq : (v 830 e).toInt ≤ 40 ∧ 0 ≤ (v 831 e).toInt := by
    obtain ⟨g, c, h, hz⟩ := h
    have := (h.2.1 e f hef).1.1
    omega
  exact ⟨100, sl_goOn ho he hef k 100 v h (by omega)⟩
end IM
