/-! the calls: what each pays for -/
section IM
variable {g g' c c' : Nat → Int → Int} {d0 d1 d2 L M κ om : Int} {v v1 z : VV}
theorem Im.pay3 (h : Im g c d0 d1 d2 L M κ om v) (ho : 1 ≤ om) (hL : L + 1 ≤ 512) : Im g (upG c 3 (upH (c 3) (v 816 0).toInt (c 3 (v 816 0).toInt + 1))) (d0 + 1) d1 d2 (L + 1) M κ om v := by
  obtain ⟨a, hE, hF, hN⟩ := h
  have hc : c 4 (v 816 0).toInt ≤ upG c 3 (upH (c 3) (v 816 0).toInt (c 3 (v 816 0).toInt + 1)) 4 (v 816 0).toInt := by
    rw [upG_n (by decide)]; exact Int.le_refl _
  refine ⟨a, fun p q hpq => ?_, fun u h1 h2 => ?_, hN.bud3 rfl rfl rfl (by have := hN.2.2.2.2.2.2.1; omega) ho⟩
  · obtain ⟨b1, b2, b3, b4, b5⟩ := hE p q hpq
    exact ⟨b1, b2, b3, b4.gg rfl rfl rfl rfl rfl rfl rfl rfl hc, b5.gg rfl rfl rfl rfl rfl rfl rfl rfl hc⟩
  · have := hF u h1 h2
    unfold FU at this ⊢
    rw [upG_n (a := 3) (b := 0) (by decide), upG_n (a := 3) (b := 1) (by decide), upG_n (a := 3) (b := 2) (by decide)]
    exact this
theorem Im.pay4 (h : Im g c d0 d1 d2 L M κ om v) (ho : 1 ≤ om) (hL : L + 1 ≤ 512) : Im g (upG c 4 (upH (c 4) (v 816 0).toInt (c 4 (v 816 0).toInt + 1))) d0 (d1 + 1) d2 (L + 1) M κ om v := by
  obtain ⟨a, hE, hF, hN⟩ := h
  have hc : c 4 (v 816 0).toInt ≤ upG c 4 (upH (c 4) (v 816 0).toInt (c 4 (v 816 0).toInt + 1)) 4 (v 816 0).toInt := by
    rw [upG_s, upH_ge (Int.le_refl _)]; omega
  refine ⟨a, fun p q hpq => ?_, fun u h1 h2 => ?_, hN.bud4 rfl rfl rfl (by have := hN.2.2.2.2.2.2.1; omega) ho⟩
  · obtain ⟨b1, b2, b3, b4, b5⟩ := hE p q hpq
    exact ⟨b1, b2, b3, b4.gg rfl rfl rfl rfl rfl rfl rfl rfl hc, b5.gg rfl rfl rfl rfl rfl rfl rfl rfl hc⟩
  · have := hF u h1 h2
    unfold FU at this ⊢
    rw [upG_n (a := 4) (b := 0) (by decide), upG_n (a := 4) (b := 1) (by decide), upG_n (a := 4) (b := 2) (by decide)]
    exact this
theorem Im.pay5 (h : Im g c d0 d1 d2 L M κ om v) (ho : 1 ≤ om) (hL : L + 1 ≤ 512) : Im g (upG c 5 (upH (c 5) (v 816 0).toInt (c 5 (v 816 0).toInt + 1))) d0 d1 (d2 + 1) (L + 1) M κ om v := by
  obtain ⟨a, hE, hF, hN⟩ := h
  have hc : c 4 (v 816 0).toInt ≤ upG c 5 (upH (c 5) (v 816 0).toInt (c 5 (v 816 0).toInt + 1)) 4 (v 816 0).toInt := by
    rw [upG_n (by decide)]; exact Int.le_refl _
  refine ⟨a, fun p q hpq => ?_, fun u h1 h2 => ?_, hN.bud5 rfl rfl rfl (by have := hN.2.2.2.2.2.2.1; omega) ho⟩
  · obtain ⟨b1, b2, b3, b4, b5⟩ := hE p q hpq
    exact ⟨b1, b2, b3, b4.gg rfl rfl rfl rfl rfl rfl rfl rfl hc, b5.gg rfl rfl rfl rfl rfl rfl rfl rfl hc⟩
  · have := hF u h1 h2
    unfold FU at this ⊢
    rw [upG_n (a := 5) (b := 0) (by decide), upG_n (a := 5) (b := 1) (by decide), upG_n (a := 5) (b := 2) (by decide)]
    exact this
theorem s_isEnd {p1 : Int32} {Q : Int32 → VV → Prop} (k1 : ∀ e f : Nat, EF e f → p1.toInt = (e : Int) → Q 1 v) (k0 : Q 0 v) : w_X10_isEnd p1 v Q := by
  unfold w_X10_isEnd b_X10_isEnd_9
  refine ⟨fun q => k1 0 1 (by decide) (by rw [q]; decide), fun _ => ⟨fun _ => k0, fun q => k1 1 0 (by decide) (by rw [q]; decide)⟩⟩
theorem IA.still {C : Int} {n : Int32} (h : IA C n v) (hC : C + 1 ≤ 512) : IA (C + 1) n v := by
  have hn := h.n
  obtain ⟨g, c, e0, e1, e2, h1, h2, h3⟩ := h
  exact ⟨g, c, e0, e1, e2, h1.mon (by omega) (by omega) (by omega) (by omega), h2, by omega⟩
theorem IA.of {C : Int} {n : Int32} {cz : Nat → Int → Int} (h : Iz cz v d0 d1 d2 (C + 1) M κ 8 z) (hM : M ≤ 12 * (C + 1) + 2 * n.toInt) (hκ : M + κ ≤ 12 * (C + 1) + 2 * n.toInt + 12) (hC : 0 ≤ C ∧ C + 1 ≤ 512) (hn : v 816 0 = n) (hn2 : 0 ≤ n.toInt ∧ n.toInt ≤ 3000) : IA (C + 1) n z ∧ ∀ a, a < 816 → z a = v a := by
  obtain ⟨g, c, h1, h2⟩ := h
  exact ⟨⟨g, c, d0, d1, d2, h1.mon hM hκ (by omega) (by omega), h2.1.1.trans hn, by omega⟩, h2.2.2.2.2⟩
theorem s_X10_call {C : Int} {n p1 : Int32} {Q : Int32 → VV → Prop} (h : IA C n v) (hC : C + 1 ≤ 512) (k : ∀ (x : Int32) (w : VV), IA (C + 1) n w ∧ (∀ a, a < 816 → w a = v a) → Q x w) : w_X10_call p1 v Q := by
  have hn := h.n
  have still := h.still hC
  have kl : ∀ x, Q x v := fun x => k x v ⟨still, fun _ _ => rfl⟩
  obtain ⟨g, c, e0, e1, e2, h1, h2, h3⟩ := h
  unfold w_X10_call
  refine s_isEnd (fun e f hef he => ?_) ⟨fun q => absurd rfl q, fun _ => kl _⟩
  refine ⟨fun _ => ?_, fun q => absurd q (by decide)⟩
  have t1 := tn_of (x := p1) (by omega)
  have u1 : p1.toNatClampNeg = e := by omega
  have hrf := h1.ref (by decide) hef
  refine ⟨in_of (by omega) (by omega), ?_⟩
  intro x14 e14
  rw [u1] at e14
  have i14 := i_eq e14
  refine ⟨fun q => ?_, fun _ => kl _⟩
  have q := i_eq q
  rw [show Int32.toInt 0 = 0 from by decide] at q
  have hP := h1.pay5 (by decide) hC
  have c8 := (h1.2.1 e f hef).2.2.1.2.2.2.2.2.2.2.1 (by omega)
  have tk := h1.tok
  refine s_fresh he (by omega) (by omega) (fun w y hy hw => ?_)
  refine ⟨in_of (by omega) (by omega), ?_⟩
  intro v4 h4
  refine ⟨in_of (by omega) (by omega), ?_⟩
  intro v6 h6
  have hv : v6 = up2 (up2 w 817 e 1) 820 e (vp_nar .boolean 0) := by rw [h6, h4, u1]
  have RR : ∀ a, a ≠ 817 → a ≠ 820 → v6 a = w a := fun a n1 n2 => by rw [hv, up2_of _ _ _ _ n2, up2_of _ _ _ _ n1]
  have R817 : v6 817 = upd (v 817) e 1 := by rw [hv, up2_of _ _ _ _ (by decide), up2_f, hw.1 817 rfl]
  have R820 : v6 820 = upd (v 820) e (vp_nar .boolean 0) := by rw [hv, up2_f, up2_of _ _ _ _ (by decide), hw.1 820 rfl]
  have R818 : v6 818 = upd (v 818) e y := by rw [RR 818 (by decide) (by decide), hw.2.1]
  have hI := hP.fresh (z := v6) (σ := 1) (b := vp_nar .boolean 0) (pr := 0) (al := 0) (y := y) (m := 0) (M1 := 12 * (C + 1) + 2 * n.toInt) (κ1 := 12) hef (by decide) (by omega) (fun a n1 n2 n3 => by rw [RR a n2 n3, hw.1 a n1]) R817 R820 R818 (by rw [RR 819 (by decide) (by decide), hw.2.2.1 819 rfl]) (by rw [RR 840 (by decide) (by decide), hw.2.2.1 840 rfl]) (fun a n1 n2 n3 => by
    rw [RR a (fun q => by rw [q] at n1; cases n1) (fun q => by rw [q] at n1; cases n1), hw.2.2.1 a n1]) (by rw [RR 848 (by decide) (by decide), hw.2.2.2]) hy (by decide) (by decide) (Or.inl (by decide)) ⟨by omega, by omega, by omega, fun _ => by omega, fun q => absurd q (by decide)⟩
  have hz6 : Fx c (upG c 5 (upH (c 5) (v 816 0).toInt (c 5 (v 816 0).toInt + 1))) v v6 := by rw [hv]; exact (((hw.fx (Fx.rf.b (by decide))).put (by decide)).put (by decide))
  refine ⟨in_of (by omega) (by omega), ?_⟩
  intro x51 e51
  rw [u1, R818, upd_s] at e51
  have i51 := i_eq e51
  refine s_sendCode (by omega) (fun j => (hI.1.2.1 j).2.2.2.2.2) (hI.sc (by decide)).1 (by decide) (by decide) (by omega) (by decide) (fun w2 r m hs2 hc h4 h5 => ?_)
  rw [if_pos (by decide), if_pos (by decide), show Int32.toInt 230 = 230 from by decide] at hc
  have r6 : (v6 818 e).toInt = (v 818 e).toInt + 1 := by rw [R818, upd_s]; exact hy
  have s6 : (v6 817 e).toInt = 1 := by rw [R817, upd_s]; decide
  obtain ⟨c', i1, i2, i3⟩ := hI.send (x1 := 0) (x2 := 1) (by decide) hef he hs2 hc (by
    refine Or.inl ⟨by show _ ≤ (r 1).toInt; rw [hc.2.2.1]; decide, by show (r 1).toInt ≤ _; rw [hc.2.2.1]; decide, hc.2.1, rfl, (v6 818 e).toInt, by omega, Int.le_refl _, ?_, fun _ => ?_⟩
    · show nr (r 4).toInt (r 5).toInt _
      rw [h4, h5, r6, i51, hy]; exact ⟨nb.rf, nb.rf⟩
    · rw [gF_H (Or.inl rfl), gF_H (Or.inr rfl)]; exact ⟨rfl, rfl⟩) (fun q => by unfold ck at q; omega) (by unfold lv1; rw [if_neg (by omega)]) (by unfold lv2; rw [if_pos (by omega)]) (by omega) (by omega) (by omega)
  have W817 := hs2.1 817 (by decide) (by decide) (by decide) (by decide) (by decide) (by decide) (by decide)
  have W818 := hs2.1 818 (by decide) (by decide) (by decide) (by decide) (by decide) (by decide) (by decide)
  have W820 := hs2.1 820 (by decide) (by decide) (by decide) (by decide) (by decide) (by decide) (by decide)
  have w63 : (w2 816 63).toInt = 11 := by rw [hs2.2.2.2.1, hc.1]; rfl
  refine s_wait he (by omega) (by omega) ?_
  have j1 := i1.wai1 (e := e) (by decide) hef w63 (by rw [hs2.2.2.2.2.1]; exact hc.2.1) (by rw [hs2.2.2.2.2.1]; exact hc.2.2.2.2.2.2) (by
    rw [hs2.2.2.2.2.1, W817, W818, W820]
    refine Or.inl ⟨s6, ?_, ?_, ?_, ?_⟩
    · rw [hc.2.2.1]; decide
    · rw [hc.2.2.1]; decide
    · rw [h4, i51, r6, hy]
    · rw [h5, i51, r6, hy])
  refine ⟨in_of (by omega) (by omega), ?_⟩
  intro x67 e67
  exact k x67 _ (IA.of ⟨_, c', j1, (i2 c v hz6).wai⟩ (by omega) (by omega) ⟨h3, hC⟩ h2 hn)
theorem s_X10_end {C : Int} {n p1 : Int32} {Q : Int32 → VV → Prop} (h : IA C n v) (hC : C + 1 ≤ 512) (k : ∀ (x : Int32) (w : VV), IA (C + 1) n w ∧ (∀ a, a < 816 → w a = v a) → Q x w) : w_X10_end p1 v Q := by
  have hn := h.n
  have still := h.still hC
  have kl : ∀ x, Q x v := fun x => k x v ⟨still, fun _ _ => rfl⟩
  obtain ⟨g, c, e0, e1, e2, h1, h2, h3⟩ := h
  unfold w_X10_end
  refine s_isEnd (fun e f hef he => ?_) ⟨fun q => absurd rfl q, fun _ => kl _⟩
  refine ⟨fun _ => ?_, fun q => absurd q (by decide)⟩
  have t1 := tn_of (x := p1) (by omega)
  have u1 : p1.toNatClampNeg = e := by omega
  have l1 : Int32.toInt 1 = 1 := by decide
  have l2 : Int32.toInt 2 = 2 := by decide
  have hrf := h1.ref (by decide) hef
  have hpe := (h1.2.1 e f hef).2.2.1.2.1
  have tk := h1.tok
  have hP := h1.pay4 (by decide) hC
  have hz0 : Fx c (upG c 4 (upH (c 4) (v 816 0).toInt (c 4 (v 816 0).toInt + 1))) v v := Fx.rf.b (by decide)
  have go : (v 817 e).toInt = 1 ∨ (v 817 e).toInt = 2 → b_X10_end_32 p1 Q p1 v := by
    intro hst
    unfold b_X10_end_32
    refine ⟨in_of (by omega) (by omega), ?_⟩
    intro x42 e42
    rw [u1] at e42
    have i42 := i_eq e42
    refine ⟨in_of (by omega) (by omega), ?_⟩
    intro x48 e48
    rw [u1] at e48
    have i48 := i_eq e48
    refine s_sendEnd hP hz0 (by decide) he hef (by omega) (by omega) (by decide) (by omega) (fun w r m c' hs hc i1 i2 => ?_)
    have W817 := hs.1 817 (by decide) (by decide) (by decide) (by decide) (by decide) (by decide) (by decide)
    have w63 : (w 816 63).toInt = 11 := by rw [hs.2.2.2.1, hc.1]; rfl
    refine s_wait he (by omega) (by omega) ?_
    refine s_setReason he (by omega) (fun y => ?_)
    refine ⟨in_of (by omega) (by omega), ?_⟩
    intro x74 e74
    rw [u1, up2_o _ _ _ _ _ (by decide), Wai_o (by decide) (by decide) (by decide) (by decide)] at e74
    refine ⟨in_of (by omega) (by omega), ?_⟩
    intro v7 h7
    refine ⟨in_of (by omega) (by omega), ?_⟩
    intro v9 h9
    have hv : v9 = up2 (up2 (up2 (Wai w e) 821 e y) 830 e x74) 817 e 3 := by rw [h9, h7, u1]
    have j1 := i1.wai (z := v9) (σ := 3) (x := x74) (by decide) hef (Or.inr ⟨by decide, by rw [W817]; exact hst⟩) (Or.inr (i_eq e74)) w63 (by rw [hs.2.2.2.2.1]; exact hc.2.1) (by rw [hs.2.2.2.2.1]; exact hc.2.2.2.2.2.2) (Or.inr (Or.inr ⟨by decide, by rw [hs.2.2.2.2.1]; exact hc.2.2.1⟩)) (fun a n1 n2 n3 n4 n5 n6 n7 => by rw [hv, up2_of _ _ _ _ n1, up2_of _ _ _ _ n6, up2_of _ _ _ _ n7, Wai_o n2 n3 n4 n5]) (by rw [hv, up2_f, up2_of _ _ _ _ (by decide), up2_of _ _ _ _ (by decide), Wai_o (by decide) (by decide) (by decide) (by decide)]) (by rw [hv, up2_of _ _ _ _ (by decide), up2_of _ _ _ _ (by decide), up2_of _ _ _ _ (by decide), Wai_825]) (by rw [hv, up2_of _ _ _ _ (by decide), up2_of _ _ _ _ (by decide), up2_of _ _ _ _ (by decide), Wai_829]) (by rw [hv, up2_of _ _ _ _ (by decide), up2_of _ _ _ _ (by decide), up2_of _ _ _ _ (by decide), Wai_828]) (by rw [hv, up2_of _ _ _ _ (by decide), up2_f, up2_of _ _ _ _ (by decide), Wai_o (by decide) (by decide) (by decide) (by decide)])
    refine k 1 v9 (IA.of (cz := c) ⟨_, c', j1, ?_⟩ (by omega) (by omega) ⟨h3, hC⟩ h2 hn)
    rw [hv]
    exact ((i2.wai.put (by decide)).put (by decide)).put (by decide)
  refine ⟨in_of (by omega) (by omega), ?_⟩
  intro x14 e14
  rw [u1] at e14
  have i14 := i_eq e14
  refine ⟨fun q => go (Or.inr (by have := i_eq q; omega)), fun _ => ⟨in_of (by omega) (by omega), ?_⟩⟩
  intro x24 e24
  rw [u1] at e24
  have i24 := i_eq e24
  exact ⟨fun q => go (Or.inl (by have := i_eq q; omega)), fun _ => kl _⟩
end IM
