/-! answers and calls -/
section IM
variable {g g' c c' : Nat → Int → Int} {d0 d1 d2 L M κ om : Int} {v v1 z : VV}
theorem from_ok {e f : Nat} {s f4 f5 x : Int} (h : Im g c d0 d1 d2 L M κ om v) (hef : EF e f) (hs : (v 816 0).toInt - 8 ≤ s) (hf : uFrom g f (v 818 f).toInt f4 f5 s) (h4 : 0 ≤ f4 ∧ f4 ≤ 255) (h5 : 0 ≤ f5 ∧ f5 ≤ 255) (hx : x = 256 * f4 + f5) : ∃ m, 1 ≤ m ∧ m ≤ (v 818 f).toInt ∧ nr (x / 256) (x % 256) m ∧ (m = (v 818 f).toInt → g (4 + f) 0 ≤ 20 ∧ g (4 + (f + 2)) 0 ≤ 20) := by
  have hfe : EF f e := by omega
  obtain ⟨sF, rF, cF, tF, uF⟩ := h.2.1 f e hfe
  obtain ⟨m, q1, q2, q3, q4⟩ := hf
  refine ⟨m, q1, q2, ?_, fun k => ?_⟩
  · rw [show x / 256 = f4 by omega, show x % 256 = f5 by omega]; exact q3
  · have := q4 k
    exact ⟨tF.1.from0 hs this.1, uF.1.from0 hs this.2⟩
theorem s_arriveAnswer {p1 : Int32} {e f : Nat} {s : Int} {cz : Nat → Int → Int} {vz : VV} {Q : VV → Prop} (h : Im g c d0 d1 d2 L M κ om v) (hz : Fx cz c vz v) (ho : 1 ≤ om ∧ om ≤ 9) (hκ : κ ≤ 12) (he : p1.toInt = (e : Int)) (hA : Arr g e f s v) (h208 : 208 ≤ (v 872 1).toInt ∧ (v 872 1).toInt ≤ 223) (hd : 1 ≤ d0) (k : ∀ v1, Iz cz vz (d0 - 1) d1 d2 L M κ om v1 → Q v1) : w_X10_arriveAnswer p1 v Q := by
  obtain ⟨hef, hs, hU, hB⟩ := hA
  have t1 := tn_of (x := p1) (by omega)
  have u1 : p1.toNatClampNeg = e := by omega
  have l1 : Int32.toInt 1 = 1 := by decide
  have l2 : Int32.toInt 2 = 2 := by decide
  have hsz := hU.size
  have b4 := hB 4 (by omega)
  have b5 := hB 5 (by omega)
  have tk := h.tok
  obtain ⟨y1, y2, y3⟩ := hU.dF (Or.inl h208)
  have y1 : (v 872 1).toInt ≤ 214 ∨ (224 ≤ (v 872 1).toInt ∧ (v 872 1).toInt ≤ 230) := y1
  unfold w_X10_arriveAnswer
  refine s_two (i := 4) (by decide) (by decide) b4 b5 (fun x2 r2 => ?_)
  have r2 : x2.toInt = 256 * (v 872 4).toInt + (v 872 5).toInt := r2
  have hless : Q v := k v ⟨g, c, h.less (by omega) (by omega) (by omega), hz⟩
  refine ⟨in_of (by omega) (by omega), ?_⟩
  intro x11 e11
  rw [u1] at e11
  have i11 := i_eq e11
  refine ⟨fun _ => ⟨in_of (by omega) (by omega), ?_⟩, fun q => ?_⟩
  · intro x77 e77
    rw [u1] at e77
    have i77 := i_eq e77
    refine ⟨fun _ => hless, fun q2 => ⟨in_of (by omega) (by omega), ?_⟩⟩
    have q2 := i_eq q2
    intro x87 e87
    exact ⟨fun _ => hless, fun _ => s_sendReceipt ⟨g, c, h, hz⟩ ho he hef (by omega) hd k⟩
  · have q := i_eq q
    refine ⟨in_of (by omega) (by omega), ?_⟩
    intro v6 h6
    refine ⟨in_of (by omega) (by omega), ?_⟩
    intro v8 h8
    refine ⟨in_of (by omega) (by omega), ?_⟩
    intro v10 h10 x47 e47 x50 e50
    rw [h10, up2_o _ _ _ _ _ (by decide), h8, up2_o _ _ _ _ _ (by decide), h6, up2_o _ _ _ _ _ (by decide)] at e47
    have i47 : x47.toInt = (v 872 1).toInt := i_eq e47
    have i50 := i_and15 e50
    refine ⟨in_of (by omega) (by omega), ?_⟩
    intro v12 h12
    refine ⟨in_of (by omega) (by omega), ?_⟩
    intro v14 h14
    have hv : v14 = up2 (up2 (up2 (up2 (up2 v 817 e 2) 819 e x2) 839 e 0) 840 e x50) 825 e 0 := by rw [h14, h12, h10, h8, h6, u1]
    obtain ⟨m, m1⟩ := from_ok (x := x2.toInt) h hef hs.1 y3 b4 b5 r2
    have hI := h.link (z := v14) (pr := x2) (al := x50) hκ hef (by omega) (by omega) (by omega) m1 (fun a n1 n2 n3 n4 n5 => by rw [hv, up2_of _ _ _ _ n3, up2_of _ _ _ _ n5, up2_of _ _ _ _ n4, up2_of _ _ _ _ n2, up2_of _ _ _ _ n1]) (by rw [hv, up2_of _ _ _ _ (by decide), up2_of _ _ _ _ (by decide), up2_of _ _ _ _ (by decide), up2_of _ _ _ _ (by decide), up2_f]) (by rw [hv, up2_of _ _ _ _ (by decide), up2_of _ _ _ _ (by decide), up2_of _ _ _ _ (by decide), up2_f, up2_of _ _ _ _ (by decide)]) (by rw [hv, up2_f, up2_of _ _ _ _ (by decide), up2_of _ _ _ _ (by decide), up2_of _ _ _ _ (by decide), up2_of _ _ _ _ (by decide)]) (by rw [hv, up2_of _ _ _ _ (by decide), up2_of _ _ _ _ (by decide), up2_f, up2_of _ _ _ _ (by decide), up2_of _ _ _ _ (by decide)]) (by rw [hv, up2_of _ _ _ _ (by decide), up2_f, up2_of _ _ _ _ (by decide), up2_of _ _ _ _ (by decide), up2_of _ _ _ _ (by decide)])
    refine s_sendReceipt ⟨_, c, hI, ?_⟩ ho he hef ?_ hd (fun v1 hv1 => s_goOn hv1 ho he hef k)
    · rw [hv]; exact ((((hz.put (by decide)).put (by decide)).put (by decide)).put (by decide)).put (by decide)
    · rw [hv, up2_o _ _ _ _ _ (by decide), up2_o _ _ _ _ _ (by decide), up2_o _ _ _ _ _ (by decide), up2_o _ _ _ _ _ (by decide), up2_s]; decide
/-- a made call or answer of e, laid by -/
theorem Fx.wai {cz : Nat → Int → Int} {vz : VV} {e : Nat} (h : Fx cz c vz v) : Fx cz c vz (Wai v e) := by
  have h2 := ((h.put (o := 825) (k := e) (x := 1) (by decide)).put (o := 826) (k := e) (x := v 816 0) (by decide)).put (o := 829) (k := e) (x := v 816 63) (by decide)
  obtain ⟨⟨a1, a2, a3, a4, a5⟩, a6, a7, a8, a9⟩ := h2
  unfold Wai
  refine ⟨⟨?_, ?_, ?_, ?_, ?_⟩, ?_, a7, a8, fun a ha => ?_⟩
  · rw [up1_of _ _ (by decide)]; exact a1
  · rw [up1_of _ _ (by decide)]; exact a2
  · rw [up1_of _ _ (by decide)]; exact a3
  · rw [up1_of _ _ (by decide)]; exact a4
  · rw [up1_of _ _ (by decide)]; exact a5
  · rw [up1_of _ _ (by decide)]; exact a6
  · rw [up1_of _ _ (by omega)]; exact a9 a ha
theorem Wai_o {e a : Nat} (h1 : a ≠ 825) (h2 : a ≠ 826) (h3 : a ≠ 828) (h4 : a ≠ 829) : Wai v e a = v a := by
  unfold Wai
  rw [up1_of _ _ h3, up2_of _ _ _ _ h4, up2_of _ _ _ _ h2, up2_of _ _ _ _ h1]
theorem Wai_825 {e : Nat} : Wai v e 825 = upd (v 825) e 1 := by
  unfold Wai
  rw [up1_of _ _ (by decide), up2_of _ _ _ _ (by decide), up2_of _ _ _ _ (by decide), up2_f]
theorem Wai_829 {e : Nat} : Wai v e 829 = upd (v 829) e (v 816 63) := by
  unfold Wai
  rw [up1_of _ _ (by decide), up2_f, up2_of _ _ _ _ (by decide), up2_of _ _ _ _ (by decide)]
theorem Wai_828 {e : Nat} : Wai v e 828 = cpR (v 828) (v 873) (20 * e) (v 816 63).toInt.toNat := by
  unfold Wai
  funext b
  simp [up1]
/-- Wai, with the state as it is -/
theorem Im.wai1 {e f : Nat} (h : Im g c d0 d1 d2 L M κ om v) (hκ : κ ≤ 12) (hef : EF e f) (hm : (v 816 63).toInt = 11) (h0 : (v 873 0).toInt = 10) (hsum : sumL (v 873) 11 % 255 = 0) (hcase : ((v 817 e).toInt = 1 ∧ 224 ≤ (v 873 1).toInt ∧ (v 873 1).toInt ≤ 230 ∧ (v 873 4).toInt = (v 818 e).toInt / 256 ∧ (v 873 5).toInt = (v 818 e).toInt % 256) ∨ ((v 817 e).toInt = 2 ∧ (v 820 e).toInt = 1 ∧ 208 ≤ (v 873 1).toInt ∧ (v 873 1).toInt ≤ 214 ∧ (v 873 4).toInt = (v 818 e).toInt / 256 ∧ (v 873 5).toInt = (v 818 e).toInt % 256 ∧ g e (v 816 0).toInt = 0 ∧ g (e + 2) (v 816 0).toInt = 0) ∨ ((v 817 e).toInt = 3 ∧ (v 873 1).toInt = 128)) : Im g c d0 d1 d2 L M κ om (Wai v e) :=
  h.wai (σ := v 817 e) (x := v 830 e) hκ hef (Or.inl rfl) (Or.inl rfl) hm h0 hsum hcase (fun a n1 n2 n3 n4 n5 _ _ => Wai_o n2 n3 n4 n5) (by rw [Wai_o (by decide) (by decide) (by decide) (by decide), upd_id]) Wai_825 Wai_829 Wai_828 (by rw [Wai_o (by decide) (by decide) (by decide) (by decide), upd_id])
theorem FRS.fx {cz : Nat → Int → Int} {vz w : VV} {e : Nat} {y : Int32} (h : FRS v w e y) (hz : Fx cz c vz v) : Fx cz c vz w := by
  obtain ⟨⟨a1, a2, a3, a4, a5⟩, a6, a7, a8, a9⟩ := hz
  have e816 := h.1 816 rfl
  refine ⟨⟨by rw [e816]; exact a1, by rw [e816]; exact a2, by rw [e816]; exact a3, (h.1 864 rfl).trans a4, (h.1 865 rfl).trans a5⟩, by rw [e816]; exact a6, a7, a8, fun a ha => ?_⟩
  have : frs a = false := by
    simp [frs, frz]
    omega
  rw [h.1 a this]; exact a9 a ha
theorem s_arriveCall {p1 : Int32} {e f : Nat} {s : Int} {cz : Nat → Int → Int} {vz : VV} {Q : VV → Prop} (h : Im g c d0 d1 d2 L M κ om v) (hz : Fx cz c vz v) (ho : 1 ≤ om ∧ om ≤ 9) (hκ : κ ≤ 12) (he : p1.toInt = (e : Int)) (hA : Arr g e f s v) (h224 : 224 ≤ (v 872 1).toInt ∧ (v 872 1).toInt ≤ 239) (hd : 1 ≤ d1) (k : ∀ v1, Iz cz vz d0 (d1 - 1) d2 L M κ om v1 → Q v1) : w_X10_arriveCall p1 v Q := by
  obtain ⟨hef, hs, hU, hB⟩ := hA
  have t1 := tn_of (x := p1) (by omega)
  have u1 : p1.toNatClampNeg = e := by omega
  have l0 : Int32.toInt 0 = 0 := by decide
  have l208 : Int32.toInt 208 = 208 := by decide
  have hsz := hU.size
  have b4 := hB 4 (by omega)
  have b5 := hB 5 (by omega)
  have tk := h.tok
  have hrf := h.ref hκ hef
  obtain ⟨y1, y2, y3⟩ := hU.dF (Or.inr h224)
  have y1 : (v 872 1).toInt ≤ 214 ∨ (224 ≤ (v 872 1).toInt ∧ (v 872 1).toInt ≤ 230) := y1
  unfold w_X10_arriveCall
  refine s_two (i := 4) (by decide) (by decide) b4 b5 (fun x2 r2 => ?_)
  have r2 : x2.toInt = 256 * (v 872 4).toInt + (v 872 5).toInt := r2
  have hless : Q v := k v ⟨g, c, h.less (by omega) (by omega) (by omega), hz⟩
  have hend : b_X10_arriveCall_116 p1 Q p1 x2 v := by
    unfold b_X10_arriveCall_116
    exact s_sendEnd h hz ho he hef (by omega) (by decide) (by decide) hd (fun w r n c' _ _ i1 i2 => k w ⟨g, c', i1, i2⟩)
  refine ⟨in_of (by omega) (by omega), ?_⟩
  intro x11 e11
  rw [u1] at e11
  have i11 := i_eq e11
  refine ⟨fun _ => ⟨in_of (by omega) (by omega), ?_⟩, fun q => ?_⟩
  · intro x92 e92
    refine ⟨fun _ => hend, fun _ => ⟨in_of (by omega) (by omega), ?_⟩⟩
    intro x102 e102
    refine ⟨fun _ => hend, fun _ => ⟨in_of (by omega) (by omega), ?_⟩⟩
    intro x111 e111
    exact ⟨fun _ => hless, fun _ => hend⟩
  · have q := i_eq q
    refine s_fresh he (by omega) (by omega) (fun w y hy hw => ?_)
    refine ⟨in_of (by omega) (by omega), ?_⟩
    intro v7 h7
    refine ⟨in_of (by omega) (by omega), ?_⟩
    intro v9 h9
    refine ⟨in_of (by omega) (by omega), ?_⟩
    intro v11 h11 x51 e51 x54 e54
    rw [h11, up2_o _ _ _ _ _ (by decide), h9, up2_o _ _ _ _ _ (by decide), h7, up2_o _ _ _ _ _ (by decide), hw.1 872 rfl] at e51
    have i51 : x51.toInt = (v 872 1).toInt := i_eq e51
    have i54 := i_and15 e54
    refine ⟨in_of (by omega) (by omega), ?_⟩
    intro v13 h13
    have hv : v13 = up2 (up2 (up2 (up2 w 817 e 2) 820 e (vp_nar .boolean 1)) 819 e x2) 840 e x54 := by rw [h13, h11, h9, h7, u1]
    obtain ⟨m, m1⟩ := from_ok (x := x2.toInt) h hef hs.1 y3 b4 b5 r2
    have RR : ∀ a, a ≠ 817 → a ≠ 820 → a ≠ 819 → a ≠ 840 → v13 a = w a := fun a n1 n2 n3 n4 => by rw [hv, up2_of _ _ _ _ n4, up2_of _ _ _ _ n3, up2_of _ _ _ _ n2, up2_of _ _ _ _ n1]
    have R817 : v13 817 = upd (v 817) e 2 := by rw [hv, up2_of _ _ _ _ (by decide), up2_of _ _ _ _ (by decide), up2_of _ _ _ _ (by decide), up2_f, hw.1 817 rfl]
    have R820 : v13 820 = upd (v 820) e (vp_nar .boolean 1) := by rw [hv, up2_of _ _ _ _ (by decide), up2_of _ _ _ _ (by decide), up2_f, up2_of _ _ _ _ (by decide), hw.1 820 rfl]
    have R818 : v13 818 = upd (v 818) e y := by rw [RR 818 (by decide) (by decide) (by decide) (by decide), hw.2.1]
    have hst0 := (h.2.1 e f hef).2.2.1.2.2.2.2.2.2.2.1 (by omega)
    have hI := h.fresh (z := v13) (σ := 2) (b := vp_nar .boolean 1) (pr := x2) (al := x54) (y := y) (m := m) (M1 := M) (κ1 := κ) hef hκ (by omega) (fun a n1 n2 n3 => by
      rw [RR a n2 n3 (fun q => by rw [q] at n1; cases n1) (fun q => by rw [q] at n1; cases n1), hw.1 a n1]) R817 R820 R818 (by rw [hv, up2_of _ _ _ _ (by decide), up2_f, up2_of _ _ _ _ (by decide), up2_of _ _ _ _ (by decide), hw.2.2.1 819 rfl, upd_upd]) (by rw [hv, up2_f, up2_of _ _ _ _ (by decide), up2_of _ _ _ _ (by decide), up2_of _ _ _ _ (by decide), hw.2.2.1 840 rfl, upd_upd]) (fun a n1 n2 n3 => by
      rw [RR a (fun q => by rw [q] at n1; cases n1) (fun q => by rw [q] at n1; cases n1) n2 n3, hw.2.2.1 a n1]) (by rw [RR 848 (by decide) (by decide) (by decide) (by decide), hw.2.2.2]) hy (by omega) (by omega) (Or.inr ⟨by decide, m1⟩) ⟨Int.le_refl _, Int.le_refl _, h.1.2.2.2, fun q => absurd q (by decide), fun _ => by omega⟩
    have hz13 : Fx cz c vz v13 := by rw [hv]; exact ((((hw.fx hz).put (by decide)).put (by decide)).put (by decide)).put (by decide)
    refine s_X10_credit p1 he hef (hI.2.1 e f hef).2.1 (fun x63 r63 => ?_)
    intro x66 e66
    have i66 := i_add e66 (by omega) (by omega)
    refine ⟨in_of (by omega) (by omega), ?_⟩
    intro x73 e73
    rw [u1, R818, upd_s] at e73
    have i73 := i_eq e73
    refine s_sendCode (by omega) (fun j => (hI.1.2.1 j).2.2.2.2.2) (hI.sc ho.2).1 (by omega) (by omega) (by omega) (by decide) (fun w2 r n hs2 hc h4 h5 => ?_)
    rw [if_pos (by decide), if_pos (by decide)] at hc
    have r13 : (v13 818 e).toInt = (v 818 e).toInt + 1 := by rw [R818, upd_s]; exact hy
    have s13 : (v13 817 e).toInt = 2 := by rw [R817, upd_s]; decide
    obtain ⟨c', i1, i2, i3⟩ := hI.send (x1 := 1) (x2 := 0) ho hef he hs2 hc (by
      refine Or.inr (Or.inl ⟨by show _ ≤ (r 1).toInt; rw [hc.2.2.1]; omega, by show (r 1).toInt ≤ _; rw [hc.2.2.1]; omega, hc.2.1, rfl, (v13 818 e).toInt, by omega, Int.le_refl _, ?_, fun _ => ?_⟩)
      · show nr (r 4).toInt (r 5).toInt _
        rw [h4, h5, r13, i73, hy]; exact ⟨nb.rf, nb.rf⟩
      · rw [gF_H (Or.inl rfl), gF_H (Or.inr rfl)]; exact ⟨rfl, rfl⟩) (fun _ => by omega) (by unfold lv1; rw [if_pos (by omega)]) (by unfold lv2; rw [if_neg (by omega)]) (by omega) (by omega) (by omega)
    have W817 := hs2.1 817 (by decide) (by decide) (by decide) (by decide) (by decide) (by decide) (by decide)
    have W818 := hs2.1 818 (by decide) (by decide) (by decide) (by decide) (by decide) (by decide) (by decide)
    have W820 := hs2.1 820 (by decide) (by decide) (by decide) (by decide) (by decide) (by decide) (by decide)
    have w63 : (w2 816 63).toInt = 11 := by rw [hs2.2.2.2.1, hc.1]; rfl
    refine s_wait he (by omega) (by omega) ?_
    have j1 := i1.wai1 (e := e) hκ hef w63 (by rw [hs2.2.2.2.2.1]; exact hc.2.1) (by rw [hs2.2.2.2.2.1]; exact hc.2.2.2.2.2.2) (by
      rw [hs2.2.2.2.2.1, W817, W818, W820]
      refine Or.inr (Or.inl ⟨s13, ?_, ?_, ?_, ?_, ?_, ?_, ?_⟩)
      · rw [R820, upd_s]; decide
      · rw [hc.2.2.1]; omega
      · rw [hc.2.2.1]; omega
      · rw [h4, i73, r13, hy]
      · rw [h5, i73, r13, hy]
      · rw [gF_H (Or.inl rfl)]
      · rw [gF_H (Or.inr rfl)])
    exact k _ ⟨_, c', j1.less (by omega) (by omega) (by omega), (i2 cz vz hz13).wai⟩
end IM
