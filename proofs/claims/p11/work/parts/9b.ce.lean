/-! calls, answers, ends arrive -/
theorem s_two {v : VV} {p : Int32} {i : Nat} {Q : Int32 → VV → Prop} (hp : p.toInt = (i : Int)) (hi : i < 19) (b1 : byt (v 872 i)) (b2 : byt (v 872 (i + 1))) (k : ∀ x : Int32, x.toInt = 256 * (v 872 i).toInt + (v 872 (i + 1)).toInt → Q x v) : w_X10_two p v Q := by
  have l256 : Int32.toInt 256 = 256 := by decide
  have l1 : Int32.toInt 1 = 1 := by decide
  have t1 := tn_of (x := p) (by omega)
  have u1 : p.toNatClampNeg = i := by omega
  unfold w_X10_two
  refine ⟨in_of (by omega) (by omega), ?_⟩
  intro x8 e8 x9 e9 x16 e16
  rw [u1] at e8
  have i8 := i_eq e8
  have i9 := i_mul e9 (by rw [l256]; omega) (by rw [l256]; omega)
  rw [l256] at i9
  have i16 := i_add e16 (by omega) (by omega)
  refine ⟨in_of (by omega) (by omega), ?_⟩
  intro x17 e17 x18 e18
  have t16 := tn_of (x := x16) (by omega)
  have u16 : x16.toNatClampNeg = i + 1 := by omega
  rw [u16] at e17
  have i17 := i_eq e17
  have i18 := i_add e18 (by omega) (by omega)
  exact k x18 (by omega)
theorem s_setReason {v : VV} {p1 p2 : Int32} {e : Nat} {Q : VV → Prop} (he : p1.toInt = (e : Int)) (he2 : e < 2) (k : ∀ x : Int32, Q (up2 v 821 e x)) : w_X10_setReason p1 p2 v Q := by
  have t1 := tn_of (x := p1) (by omega)
  have u1 : p1.toNatClampNeg = e := by omega
  unfold w_X10_setReason
  refine ⟨in_of (by omega) (by omega), ?_⟩
  intro x10 e10
  refine ⟨fun _ => ⟨in_of (by omega) (by omega), ?_⟩, fun _ => ?_⟩
  · intro x23 e23
    unfold b_X10_setReason_24
    refine ⟨in_of (by omega) (by omega), ?_⟩
    intro v1 h1
    rw [h1, u1]
    exact k _
  · unfold b_X10_setReason_24
    refine ⟨in_of (by omega) (by omega), ?_⟩
    intro v1 h1
    rw [h1, u1]
    exact k _
section IM
variable {g g' c c' : Nat → Int → Int} {d0 d1 d2 L M κ om : Int} {v v1 z : VV}
theorem s_freeze {p1 : Int32} {e f : Nat} {cz : Nat → Int → Int} {vz : VV} {Q : VV → Prop} (h : Iz cz vz d0 d1 d2 L M κ om v) (ho : 1 ≤ om ∧ om ≤ 9) (hκ : κ ≤ 12) (he : p1.toInt = (e : Int)) (hef : EF e f) (hst : (v 817 e).toInt = 1 ∨ (v 817 e).toInt = 2 ∨ (v 817 e).toInt = 3) (k : ∀ v1, Iz cz vz d0 d1 d2 L M κ om v1 → (v1 817 e).toInt = 4 → Q v1) : w_X10_freeze p1 v Q := by
  obtain ⟨g, c, h, hz⟩ := h
  have t1 := tn_of (x := p1) (by omega)
  have u1 : p1.toNatClampNeg = e := by omega
  unfold w_X10_freeze
  refine ⟨in_of (by omega) (by omega), ?_⟩
  intro v1 h1 x13 e13
  refine ⟨in_of (by omega) (by omega), ?_⟩
  intro v3 h3
  refine ⟨in_of (by omega) (by omega), ?_⟩
  intro v5 h5
  rw [h1, up2_o _ _ _ _ _ (by decide)] at e13
  have hv : v5 = up2 (up2 (up2 v 817 e 4) 822 e x13) 825 e 0 := by rw [h5, h3, h1, u1]
  refine k v5 ⟨g, c, h.st (σ := 4) (fr := x13) ho hκ hef (Or.inl ⟨by decide, i_eq e13, hst⟩) (fun a n1 n2 n3 => by rw [hv, up2_of _ _ _ _ n3, up2_of _ _ _ _ n2, up2_of _ _ _ _ n1]) ?_ ?_ ?_, ?_⟩ ?_
  · rw [hv, up2_of _ _ _ _ (by decide), up2_of _ _ _ _ (by decide), up2_f]
  · rw [hv, up2_of _ _ _ _ (by decide), up2_f, up2_of _ _ _ _ (by decide)]
  · rw [hv, up2_f, up2_of _ _ _ _ (by decide), up2_of _ _ _ _ (by decide)]
  · rw [hv]; exact ((hz.put (by decide)).put (by decide)).put (by decide)
  · rw [hv, up2_o _ _ _ _ _ (by decide), up2_o _ _ _ _ _ (by decide), up2_s]; decide
/-- an end flies -/
theorem s_sendEnd {p1 to from_ last : Int32} {e f : Nat} {cz : Nat → Int → Int} {vz : VV} {Q : VV → Prop} (h : Im g c d0 d1 d2 L M κ om v) (hz : Fx cz c vz v) (ho : 1 ≤ om ∧ om ≤ 9) (he : p1.toInt = (e : Int)) (hef : EF e f) (ht : 0 ≤ to.toInt ∧ to.toInt ≤ 65535) (hf : 0 ≤ from_.toInt ∧ from_.toInt ≤ 65535) (hl : 0 ≤ last.toInt ∧ last.toInt ≤ 255) (hd : 1 ≤ d1) (k : ∀ (v1 : VV) (r : Nat → Int32) (n : Int32) (c' : Nat → Int → Int), Snt v v1 r n p1 → Ct r n 11 10 128 to.toInt → Im g c' d0 (d1 - 1) d2 L M κ om v1 → Fx cz c' vz v1 → Q v1) : w_X10_sendCode p1 128 to from_ last v Q := by
  have tk := h.tok
  refine s_sendCode (by omega) (fun j => (h.1.2.1 j).2.2.2.2.2) (h.sc ho.2).1 (by decide) ht hf hl.2 (fun w r n hs hc h4 h5 => ?_)
  rw [if_pos hl.1, if_pos hl.1, show Int32.toInt 128 = 128 from by decide] at hc
  obtain ⟨c', i1, i2, i3⟩ := h.send (x1 := 1) (x2 := 0) ho hef he hs hc (by
    exact Or.inr (Or.inr (Or.inr (Or.inr (Or.inr (Or.inr (Or.inl ⟨hc.2.2.1, hc.2.1, rfl⟩))))))) (fun q => by unfold ck at q; omega) (by unfold lv1; rw [if_pos (by omega)]) (by unfold lv2; rw [if_neg (by omega)]) (by omega) (by omega) (by omega)
  exact k w r n c' hs hc (i1.less (by omega) (by omega) (by omega)) (i2 cz vz hz)
/-- the receipt of an end flies -/
theorem s_sendEndRec {p1 to from_ : Int32} {e f : Nat} {cz : Nat → Int → Int} {vz : VV} {Q : VV → Prop} (h : Im g c d0 d1 d2 L M κ om v) (hz : Fx cz c vz v) (ho : 1 ≤ om ∧ om ≤ 9) (he : p1.toInt = (e : Int)) (hef : EF e f) (ht : 0 ≤ to.toInt ∧ to.toInt ≤ 65535) (hf : 0 ≤ from_.toInt ∧ from_.toInt ≤ 65535) (hd : 1 ≤ d0) (k : ∀ (v1 : VV) (c' : Nat → Int → Int), Im g c' (d0 - 1) d1 d2 L M κ om v1 → Fx cz c' vz v1 → v1 817 = v 817 → Q v1) : w_X10_sendCode p1 192 to from_ (-1) v Q := by
  have tk := h.tok
  have lm : Int32.toInt (-1) = -1 := by decide
  refine s_sendCode (by omega) (fun j => (h.1.2.1 j).2.2.2.2.2) (h.sc ho.2).1 (by decide) ht hf (by omega) (fun w r n hs hc h4 h5 => ?_)
  rw [if_neg (by omega), if_neg (by omega), show Int32.toInt 192 = 192 from by decide] at hc
  obtain ⟨c', i1, i2, i3⟩ := h.send (x1 := 0) (x2 := 0) ho hef he hs hc (by
    exact Or.inr (Or.inr (Or.inr (Or.inr (Or.inr (Or.inr (Or.inr ⟨hc.2.2.1, hc.2.1, rfl⟩))))))) (fun q => by unfold ck at q; omega) (by unfold lv1; rw [if_neg (by omega)]) (by unfold lv2; rw [if_neg (by omega)]) (by omega) (by omega) (by omega)
  exact k w c' (i1.less (by omega) (by omega) (by omega)) (i2 cz vz hz) (hs.1 _ (by decide) (by decide) (by decide) (by decide) (by decide) (by decide) (by decide))
theorem s_giveUp {p1 : Int32} {e f : Nat} {cz : Nat → Int → Int} {vz : VV} {Q : VV → Prop} (h : Iz cz vz d0 d1 d2 L M κ om v) (ho : 1 ≤ om ∧ om ≤ 9) (hκ : κ ≤ 12) (he : p1.toInt = (e : Int)) (hef : EF e f) (hst : (v 817 e).toInt = 1 ∨ (v 817 e).toInt = 2 ∨ (v 817 e).toInt = 3) (hd : 1 ≤ d1) (k : ∀ v1, Iz cz vz d0 (d1 - 1) d2 L M κ om v1 → (v1 817 e).toInt = 4 → Q v1) : w_X10_giveUp p1 v Q := by
  obtain ⟨g, c, h, hz⟩ := h
  have t1 := tn_of (x := p1) (by omega)
  have u1 : p1.toNatClampNeg = e := by omega
  have hr := h.ref hκ hef
  have hp := (h.2.1 e f hef).2.2.1.2.1
  unfold w_X10_giveUp
  refine ⟨in_of (by omega) (by omega), ?_⟩
  intro x10 e10
  rw [u1] at e10
  have i10 := i_eq e10
  refine ⟨in_of (by omega) (by omega), ?_⟩
  intro x16 e16
  rw [u1] at e16
  have i16 := i_eq e16
  refine s_sendEnd h hz ho he hef (by omega) (by omega) (by decide) hd (fun w r n c' hs hc i1 i2 => ?_)
  refine s_setReason he (by omega) (fun x => ?_)
  refine s_freeze ⟨g, c', i1.put rfl (fun q => by cases q) (fun q => by omega), i2.put (by decide)⟩ ho hκ he hef (by rw [up2_of _ _ _ _ (by decide), hs.1 _ (by decide) (by decide) (by decide) (by decide) (by decide) (by decide) (by decide)]; exact hst) k
theorem s_arriveEnd {p1 : Int32} {e f : Nat} {s : Int} {cz : Nat → Int → Int} {vz : VV} {Q : VV → Prop} (h : Im g c d0 d1 d2 L M κ om v) (hz : Fx cz c vz v) (ho : 1 ≤ om ∧ om ≤ 9) (hκ : κ ≤ 0) (he : p1.toInt = (e : Int)) (hA : Arr g e f s v) (hst : 1 ≤ (v 817 e).toInt ∧ (v 817 e).toInt ≤ 3) (hd : 1 ≤ d0) (k : ∀ v1, Iz cz vz (d0 - 1) d1 d2 L M κ om v1 → Q v1) : w_X10_arriveEnd p1 v Q := by
  obtain ⟨hef, hs, hU, hB⟩ := hA
  have t1 := tn_of (x := p1) (by omega)
  have u1 : p1.toNatClampNeg = e := by omega
  have l0 : Int32.toInt 0 = 0 := by decide
  have l1 : Int32.toInt 1 = 1 := by decide
  have hr := h.ref (by omega) hef
  have hsz := hU.size
  have b4 := hB 4 (by omega)
  have b5 := hB 5 (by omega)
  unfold w_X10_arriveEnd
  refine s_two (i := 4) (by decide) (by decide) b4 b5 (fun x7 r7 => ?_)
  have r7 : x7.toInt = 256 * (v 872 4).toInt + (v 872 5).toInt := r7
  refine ⟨in_of (by omega) (by omega), ?_⟩
  intro x15 e15
  rw [u1] at e15
  have i15 := i_eq e15
  refine s_sendEndRec h hz ho he hef (by omega) (by omega) hd (fun w c' i1 i2 i3 => ?_)
  intro x28 e28
  refine s_setReason he (by omega) (fun x => ?_)
  have j1 := i1.put (o := 821) (k := e) (x := x) rfl (fun q => by cases q) (fun q => by omega)
  have j2 := i2.put (o := 821) (k := e) (x := x) (by decide)
  have j3 : up2 w 821 e x 817 = v 817 := by rw [up2_of _ _ _ _ (by decide), i3]
  refine ⟨in_of (by omega) (by omega), ?_⟩
  intro x37 e37
  rw [u1, j3] at e37
  have i37 := i_eq e37
  refine ⟨fun q => ?_, fun q => ?_⟩
  · have q := i_ne q
    exact s_freeze ⟨g, c', j1, j2⟩ ho (by omega) he hef (by rw [j3]; omega) (fun v1 hv _ => k v1 hv)
  · have q := i_eq q
    refine ⟨in_of (by omega) (by omega), ?_⟩
    intro v7 h7
    refine ⟨in_of (by omega) (by omega), ?_⟩
    intro v9 h9
    have hv : v9 = up2 (up2 (up2 w 821 e x) 817 e 0) 825 e 0 := by rw [h9, h7, u1]
    refine k v9 ⟨g, c', j1.st (σ := 0) (fr := up2 w 821 e x 822 e) ho (by omega) hef (Or.inr ⟨by decide, rfl, Or.inl ⟨by rw [j3]; omega, hκ⟩⟩) (fun a n1 n2 n3 => by rw [hv, up2_of _ _ _ _ n3, up2_of _ _ _ _ n1]) ?_ ?_ ?_, ?_⟩
    · rw [hv, up2_of _ _ _ _ (by decide), up2_f]
    · rw [hv, up2_of _ _ _ _ (by decide), up2_of _ _ _ _ (by decide), upd_id]
    · rw [hv, up2_f, up2_of _ _ _ _ (by decide)]
    · rw [hv]; exact (j2.put (by decide)).put (by decide)
/-- the answer is there -/
theorem Im.link {e f : Nat} {pr al : Int32} {m : Int} (h : Im g c d0 d1 d2 L M κ om v) (hκ : κ ≤ 12) (hef : EF e f) (hst : (v 817 e).toInt = 1) (hpr : 0 ≤ pr.toInt ∧ pr.toInt ≤ 65535) (hal : 0 ≤ al.toInt ∧ al.toInt ≤ 6) (hm : 1 ≤ m ∧ m ≤ (v 818 f).toInt ∧ nr (pr.toInt / 256) (pr.toInt % 256) m ∧ (m = (v 818 f).toInt → g (4 + f) 0 ≤ 20 ∧ g (4 + (f + 2)) 0 ≤ 20)) (R : ∀ a, a ≠ 817 → a ≠ 819 → a ≠ 825 → a ≠ 839 → a ≠ 840 → z a = v a) (R817 : z 817 = upd (v 817) e 2) (R819 : z 819 = upd (v 819) e pr) (R825 : z 825 = upd (v 825) e 0) (R839 : z 839 = upd (v 839) e 0) (R840 : z 840 = upd (v 840) e al) : Im (upG g (16 + e) (fun _ => m)) c d0 d1 d2 L M κ om z := by
  obtain ⟨⟨a1, a2, a3, a4⟩, hE, hF, hN0⟩ := h
  have hfe : EF f e := by omega
  obtain ⟨sE, rE, cE, tE, uE⟩ := hE e f hef
  obtain ⟨sF, rF, cF, tF, uF⟩ := hE f e hfe
  have R' : ∀ a, (a < 817 ∨ 825 < a ∨ a = 818 ∨ a = 820 ∨ a = 822) → a ≠ 839 → a ≠ 840 → z a = v a := fun a n1 n2 n3 => R a (by omega) (by omega) (by omega) n2 n3
  have e816 : z 816 = v 816 := R' 816 (by decide) (by decide) (by decide)
  have e0 : z 816 0 = v 816 0 := by rw [e816]
  have l0 : Int32.toInt 0 = 0 := by decide
  have l2 : Int32.toInt 2 = 2 := by decide
  have ef : z 817 f = v 817 f := by rw [R817, upd_n (by omega)]
  have ee : z 817 e = 2 := by rw [R817, upd_s]
  have e818 := R' 818 (by decide) (by decide) (by decide)
  have gP : upG g (16 + e) (fun _ => m) (16 + e) 0 = m := by rw [upG_s]
  have gO : ∀ j, j ≠ 16 + e → upG g (16 + e) (fun _ => m) j = g j := fun j hj => upG_n hj
  generalize upG g (16 + e) (fun _ => m) = g' at gP gO
  have h5 := cE.2.2.2.2.1 hst
  have sN1 := tF.1.2.2.2.2.1
  have sN2 := uF.1.2.2.2.2.1
  have tA : g (12 + f) 0 = 0 := by omega
  have uA : g (12 + (f + 2)) 0 = 0 := by omega
  refine ⟨⟨?_, a2.cg (R' _ (by decide) (by decide) (by decide)) (R' _ (by decide) (by decide) (by decide)) (R' _ (by decide) (by decide) (by decide)) (R' _ (by decide) (by decide) (by decide)) (R' _ (by decide) (by decide) (by decide)) (R' _ (by decide) (by decide) (by decide)), ?_, a4⟩, ?_, ?_, ?_⟩
  · unfold iSc; rw [e816, R' 869 (by decide) (by decide) (by decide)]; exact a1
  · unfold iFa; rw [e816, R' 864 (by decide) (by decide) (by decide), R' 866 (by decide) (by decide) (by decide), R' 867 (by decide) (by decide) (by decide)]; exact a3
  · have rr : ∀ p, p < 2 → iR g p v → iR g' p z := fun p hp q => (q.cg e0 (R' _ (by decide) (by decide) (by decide)) (R' _ (by decide) (by decide) (by decide)) (R' _ (by decide) (by decide) (by decide)) (R' _ (by decide) (by decide) (by decide)) (R' _ (by decide) (by decide) (by decide)) (R' _ (by decide) (by decide) (by decide)) (R' _ (by decide) (by decide) (by decide)) (R' _ (by decide) (by decide) (by decide)) (R' _ (by decide) (by decide) (by decide)) (R' _ (by decide) (by decide) (by decide)) (R' _ (by decide) (by decide) (by decide))).gg (gO _ (by omega)) (gO _ (by omega)) (gO _ (by omega))
    intro p q hpq
    have hp : (p = e ∧ q = f) ∨ (p = f ∧ q = e) := by omega
    rcases hp with ⟨rfl, rfl⟩ | ⟨rfl, rfl⟩
    · refine ⟨?_, rr p (by omega) rE, ?_, ?_, ?_⟩
      · obtain ⟨s1, s2, s3, s4, s5, s6, s7, s8, s9, s10⟩ := sE
        unfold iS
        rw [gO (8 + q) (by omega), gO (12 + q) (by omega), gO (8 + (q + 2)) (by omega), gO (12 + (q + 2)) (by omega), R839, R840, upd_s, upd_s, l0, R' 830 (by decide) (by decide) (by decide), R' 831 (by decide) (by decide) (by decide), R' 832 (by decide) (by decide) (by decide), R' 834 (by decide) (by decide) (by decide), R' 838 (by decide) (by decide) (by decide), R' 841 (by decide) (by decide) (by decide), R' 843 (by decide) (by decide) (by decide), R' 844 (by decide) (by decide) (by decide)]
        exact ⟨s1, by omega, hal, s4, s5, s6, s7, s8, s9, s10⟩
      · obtain ⟨c1, c2, c3, c4, c5, c6, c7, c8⟩ := cE
        unfold iC
        rw [e0, ee, l2, e818, R819, upd_s, R' 822 (by decide) (by decide) (by decide), gP]
        refine ⟨by decide, hpr, ⟨c3.1, fun _ => c3.2 (by omega)⟩, fun _ => ⟨hm.1, hm.2.1, hm.2.2.1⟩, fun k => absurd k (by decide), c6, ?_, fun k => absurd k (by decide), fun k => absurd k (by decide), fun _ => ?_, fun k => absurd k (by decide)⟩
        · intro k
          rw [R825, upd_s, l0] at k
          exact absurd rfl k
        · have := c8.2.1 hst; omega
      · unfold iT at tE ⊢; rw [e0, ef, e818, gO p (by omega), gO (4 + p) (by omega), gO (8 + p) (by omega), gO (12 + p) (by omega), gO (16 + q) (by omega)]; exact tE
      · unfold iT at uE ⊢; rw [e0, ef, e818, gO (p + 2) (by omega), gO (4 + (p + 2)) (by omega), gO (8 + (p + 2)) (by omega), gO (12 + (p + 2)) (by omega), gO (16 + q) (by omega)]; exact uE
    · refine ⟨?_, rr p (by omega) rF, ?_, ?_, ?_⟩
      · exact iS.one (fun k => ⟨by rw [R' _ (by decide) (by decide) (by decide)], by rw [R' _ (by decide) (by decide) (by decide)], by rw [R' _ (by decide) (by decide) (by decide)], by rw [R839, upd_n (by omega)], by rw [R840, upd_n (by omega)], by rw [R' _ (by decide) (by decide) (by decide)], by rw [R' _ (by decide) (by decide) (by decide)], by rw [R' _ (by decide) (by decide) (by decide)], fun _ => ⟨by rw [R' _ (by decide) (by decide) (by decide)], by rw [R' _ (by decide) (by decide) (by decide)]⟩⟩) ⟨by rw [gO _ (by omega)], by rw [gO _ (by omega)], by rw [gO _ (by omega)], by rw [gO _ (by omega)]⟩ sF
      · exact cF.one e0 (fun i => ⟨ef, by rw [e818], by rw [R819, upd_n (by omega)], by rw [R' 820 (by decide) (by decide) (by decide)], by rw [R' 822 (by decide) (by decide) (by decide)], by rw [R825, upd_n (by omega)], by rw [R' 829 (by decide) (by decide) (by decide)], fun _ => by rw [R' 828 (by decide) (by decide) (by decide)]⟩) (by rw [e818]; exact Int.le_refl _) ⟨gO _ (by omega), gO _ (by omega), gO _ (by omega), gO _ (by omega), gO _ (by omega)⟩ (Int.le_refl _) (Int.le_refl _)
      · unfold iT at tF ⊢
        rw [e0, e818, gO p (by omega), gO (4 + p) (by omega), gO (8 + p) (by omega), gO (12 + p) (by omega), gP]
        refine ⟨?_, tF.2⟩
        have := tF.1
        rw [h5.2.2.1, tA] at this ⊢
        exact this.link (fun k => (hm.2.2.2 k.2).1)
      · unfold iT at uF ⊢
        rw [e0, e818, gO (p + 2) (by omega), gO (4 + (p + 2)) (by omega), gO (8 + (p + 2)) (by omega), gO (12 + (p + 2)) (by omega), gP]
        refine ⟨?_, uF.2⟩
        have := uF.1
        rw [h5.2.2.2, uA] at this ⊢
        exact this.link (fun k => (hm.2.2.2 k.2).2)
  · intro u hu1 hu2
    rw [e816] at hu1 hu2
    refine (hF u hu1 hu2).mp (by rw [R' 869 (by decide) (by decide) (by decide)]) (by rw [R' 870 (by decide) (by decide) (by decide)]) (by rw [R' 871 (by decide) (by decide) (by decide)]) (fun i hi => by rw [R' 868 (by decide) (by decide) (by decide)]) (fun s hs => hs) rfl rfl (fun R0 S0 hRS f0 z0 s es hcs hk hU => ?_)
    rw [e818, R' 822 (by decide) (by decide) (by decide)]
    refine ⟨hU.moreN hRS (fun i hi => gO i (by omega)) (fun i hi => by rw [gO _ (by omega)]; exact Int.le_refl _), fun q => ?_⟩
    have q2 := hk q
    by_cases eS : S0 = e
    · subst eS
      exact absurd hst q2.2.1
    · have : S0 = f := by omega
      subst this
      rw [ef]
      exact q2
  · unfold iN
    rw [e816, bnk.cg (R' _ (by decide) (by decide) (by decide)) (R' _ (by decide) (by decide) (by decide)) (R' _ (by decide) (by decide) (by decide)) (R' _ (by decide) (by decide) (by decide)), bnk.cg (R' _ (by decide) (by decide) (by decide)) (R' _ (by decide) (by decide) (by decide)) (R' _ (by decide) (by decide) (by decide)) (R' _ (by decide) (by decide) (by decide))]
    exact hN0
end IM
