/-! receipts arrive -/
section IM
variable {g c : Nat → Int → Int} {d0 d1 d2 L M κ om : Int} {v : VV}
/-- j of the pieces of e behind the first n are moved down -/
def SH (u w : VV) (e n j : Nat) : Prop := (∀ a, a < 832 ∨ 837 < a → w a = u a) ∧ (∀ p, p < 40 * e ∨ 40 * e + j ≤ p → w 832 p = u 832 p ∧ w 834 p = u 834 p) ∧ (∀ i, i < j → w 832 (40 * e + i) = u 832 (40 * e + n + i) ∧ w 834 (40 * e + i) = u 834 (40 * e + n + i)) ∧ (∀ p, byt (w 837 p))
theorem SH.free {u w : VV} {e n j o k : Nat} {x : Int32} (h : SH u w e n j) (ho : o = 833 ∨ o = 835 ∨ o = 836 ∨ (o = 837 ∧ byt x)) : SH u (up2 w o k x) e n j := by
  obtain ⟨h1, h2, h3, h4⟩ := h
  refine ⟨fun a ha => by rw [up2_of _ _ _ _ (by omega)]; exact h1 a ha, fun p hp => by rw [up2_of _ _ _ _ (by omega), up2_of _ _ _ _ (by omega)]; exact h2 p hp, fun i hi => by rw [up2_of _ _ _ _ (by omega), up2_of _ _ _ _ (by omega)]; exact h3 i hi, fun p => ?_⟩
  by_cases e1 : 837 = o
  · by_cases e2 : p = k
    · rw [← e1, e2, up2_s]
      rcases ho with q | q | q | q
      · omega
      · omega
      · omega
      · exact q.2
    · rw [← e1, up2_k _ _ _ _ e2]; exact h4 p
  · rw [up2_of _ _ _ _ e1]; exact h4 p
theorem sl_206 {p1 a2 a3 a4 : Int32} {u : VV} {e n j J : Nat} {Q : VV → Prop} {K : Int32 → Int32 → Int32 → Int32 → VV → Prop} (he2 : e < 2) (hn : a3.toInt = (n : Int)) (h4 : a4.toInt = 40 * (e : Int) + n + j) (hj : n + j < 40) (k : ∀ (w : VV) (x : Int32), SH u w e n J → x.toInt = a4.toInt + 1 → K p1 a2 a3 x w) : ∀ (m i : Nat) (a5 : Int32) (w : VV), SH u w e n J → a5.toInt = (i : Int) → 8 < m + i → i ≤ 8 → b_X10_arriveReceipt_206 p1 Q K m p1 a2 a3 a4 a5 w := by
  have l1 : Int32.toInt 1 = 1 := by decide
  have l8 : Int32.toInt 8 = 8 := by decide
  intro m
  induction m with
  | zero => intro i a5 w h1 h3 h5 h6; exfalso; omega
  | succ m ih =>
    intro i a5 w h1 h3 h5 h6
    refine ⟨fun q => ?_, fun q => ?_⟩
    · intro x247 e247
      have i247 := i_add e247 (by omega) (by omega)
      exact k w x247 h1 (by omega)
    · have q := i_nle q
      intro x222 e222 x223 e223 x226 e226 x235 e235 x238 e238
      have i222 := i_sub e222 (by omega) (by omega)
      have i223 := i_mul e223 (by rw [l8]; omega) (by rw [l8]; omega)
      rw [l8] at i223
      have i226 := i_add e226 (by omega) (by omega)
      have i235 := i_mul e235 (by rw [l8]; omega) (by rw [l8]; omega)
      rw [l8] at i235
      have i238 := i_add e238 (by omega) (by omega)
      refine ⟨in_of (by omega) (by omega), ?_⟩
      intro x239 e239
      refine ⟨in_of (by omega) (by omega), ?_⟩
      intro v2 hv2 x241 e241
      have i241 := i_add e241 (by omega) (by omega)
      have b := h1.2.2.2 (Int32.toNatClampNeg x238)
      rw [← e239] at b
      rw [hv2]
      exact ih (i + 1) x241 _ (h1.free (Or.inr (Or.inr (Or.inr ⟨rfl, b⟩)))) (by omega) (by omega) (by omega)
/-- A receipt is taken in: n pieces are done -/
theorem Im.ack {e f n : Nat} {u w : VV} {x y xp xa : Int32} (h : Im g c d0 d1 d2 L M κ om v) (hef : EF e f) (hu : u = up2 (up2 v 839 e xp) 840 e xa) (hq : (n : Int) ≤ g (8 + f) 0 - g (12 + f) 0) (hp : xp.toInt = (g (12 + f) 0 + n) % 128) (ha : 0 ≤ xa.toInt ∧ xa.toInt ≤ 6) (hl : (v 817 e).toInt = 2 ∧ g (16 + e) 0 = (v 818 f).toInt → g (12 + f) 0 + n ≤ g f ((v 816 0).toInt - 2)) (hs : SH u w e n ((v 830 e).toInt.toNat - n)) (hx : x.toInt = (v 830 e).toInt - n) (hy : y.toInt = (v 831 e).toInt - n) : Im (upG g (12 + f) (fun _ => g (12 + f) 0 + n)) c d0 d1 d2 L M κ om (up2 (up2 w 830 e x) 831 e y) := by
  have h' := h
  obtain ⟨⟨a1, a2, a3, a4⟩, hE, hF, hN0⟩ := h
  obtain ⟨sE, rE, cE, tE, uE⟩ := hE e f hef
  have hfe : EF f e := by omega
  obtain ⟨sF, rF, cF, tF, uF⟩ := hE f e hfe
  obtain ⟨s1, s2, s3, s4, s5, s6, s7, s8, s9, s10⟩ := sE
  obtain ⟨k1, k2, k3, k4⟩ := hs
  have Ru : ∀ a, a ≠ 839 → a ≠ 840 → u a = v a := fun a n1 n2 => by rw [hu, up2_of _ _ _ _ n2, up2_of _ _ _ _ n1]
  have R : ∀ a, (a < 830 ∨ 837 < a) → a ≠ 839 → a ≠ 840 → up2 (up2 w 830 e x) 831 e y a = v a := fun a n1 n2 n3 => by rw [up2_of _ _ _ _ (by omega), up2_of _ _ _ _ (by omega), k1 a (by omega), Ru a n2 n3]
  have R832 : up2 (up2 w 830 e x) 831 e y 832 = w 832 := by rw [up2_of _ _ _ _ (by decide), up2_of _ _ _ _ (by decide)]
  have R834 : up2 (up2 w 830 e x) 831 e y 834 = w 834 := by rw [up2_of _ _ _ _ (by decide), up2_of _ _ _ _ (by decide)]
  have R837 : up2 (up2 w 830 e x) 831 e y 837 = w 837 := by rw [up2_of _ _ _ _ (by decide), up2_of _ _ _ _ (by decide)]
  have R830 : up2 (up2 w 830 e x) 831 e y 830 = upd (v 830) e x := by rw [up2_of _ _ _ _ (by decide), up2_f, k1 _ (by decide), Ru _ (by decide) (by decide)]
  have R831 : up2 (up2 w 830 e x) 831 e y 831 = upd (v 831) e y := by rw [up2_f, up2_of _ _ _ _ (by decide), k1 _ (by decide), Ru _ (by decide) (by decide)]
  have R839 : up2 (up2 w 830 e x) 831 e y 839 = upd (v 839) e xp := by rw [up2_of _ _ _ _ (by decide), up2_of _ _ _ _ (by decide), k1 _ (by decide), hu, up2_of _ _ _ _ (by decide), up2_f]
  have R840 : up2 (up2 w 830 e x) 831 e y 840 = upd (v 840) e xa := by rw [up2_of _ _ _ _ (by decide), up2_of _ _ _ _ (by decide), k1 _ (by decide), hu, up2_f, up2_of _ _ _ _ (by decide)]
  generalize up2 (up2 w 830 e x) 831 e y = z at *
  have gA : upG g (12 + f) (fun _ => g (12 + f) 0 + n) (12 + f) 0 = g (12 + f) 0 + n := by rw [upG_s]
  have gO : ∀ j, j ≠ 12 + f → upG g (12 + f) (fun _ => g (12 + f) 0 + n) j = g j := fun j hj => upG_n hj
  generalize upG g (12 + f) (fun _ => g (12 + f) 0 + n) = g' at gA gO
  have R' : ∀ a, fre a = false → sd a = false → z a = v a := fun a n1 n2 => R a (by
    have : ¬ (830 ≤ a ∧ a ≤ 837) := fun q => by
      have : a = 830 ∨ a = 831 ∨ a = 832 ∨ a = 833 ∨ a = 834 ∨ a = 835 ∨ a = 836 ∨ a = 837 := by omega
      rcases this with q | q | q | q | q | q | q | q <;> (rw [q] at n1 n2; first | exact absurd n1 (by decide) | exact absurd n2 (by decide))
    omega) (fun q => by rw [q] at n2; cases n2) (fun q => by rw [q] at n2; cases n2)
  have e816 : z 816 = v 816 := R 816 (by decide) (by decide) (by decide)
  have sN := tF.1.2.2.2.2.1
  have bke : bnk z e = bnk v e := by
    unfold bnk
    rw [R830, R831, upd_s, upd_s, R 841 (by decide) (by decide) (by decide), R 844 (by decide) (by decide) (by decide)]
    omega
  have bkf : bnk z f = bnk v f := by
    unfold bnk
    rw [R830, R831, upd_n (by omega), upd_n (by omega), R 841 (by decide) (by decide) (by decide), R 844 (by decide) (by decide) (by decide)]
  have bk2 : bnk z 0 + bnk z 1 = bnk v 0 + bnk v 1 := by
    rcases hef with ⟨rfl, rfl⟩ | ⟨rfl, rfl⟩ <;> omega
  refine h'.side hef R' (fun k _ => by rw [e816]) (by rw [e816]; exact a1.2.1) (fun p => ?_) (fun k => ⟨by rw [R830, upd_n (by omega)], by rw [R831, upd_n (by omega)], by rw [R 838 (by decide) (by decide) (by decide)], by rw [R839, upd_n (by omega)], by rw [R840, upd_n (by omega)], by rw [R 841 (by decide) (by decide) (by decide)], by rw [R 843 (by decide) (by decide) (by decide)], by rw [R 844 (by decide) (by decide) (by decide)], fun hk => ?_⟩) (fun j _ n2 _ _ => gO j n2) ⟨by rw [gO _ (by omega)]; exact Int.le_refl _, by rw [gO _ (by omega)]; exact Int.le_refl _⟩ (fun q => ⟨by rw [gO _ (by omega)], by rw [gO _ (by omega)]⟩) ?_ ?_ ?_ ⟨fun a ha => rfl, Int.le_refl _⟩ ?_
  · have b := a2 p
    rw [R 828 (by decide) (by decide) (by decide), R837, R 842 (by decide) (by decide) (by decide), R 863 (by decide) (by decide) (by decide), R 868 (by decide) (by decide) (by decide), R 873 (by decide) (by decide) (by decide)]
    exact ⟨b.1, k4 p, b.2.2⟩
  · rw [R832, R834]
    have q := k2 (40 * f + k) (by omega)
    rw [q.1, q.2, Ru _ (by decide) (by decide), Ru _ (by decide) (by decide)]
    exact ⟨rfl, rfl⟩
  · unfold iS
    rw [gA, gO (8 + f) (by omega), gO (8 + (f + 2)) (by omega), gO (12 + (f + 2)) (by omega), R830, R831, R839, R840, upd_s, upd_s, upd_s, upd_s, R832, R834, R 838 (by decide) (by decide) (by decide), R 841 (by decide) (by decide) (by decide), R 843 (by decide) (by decide) (by decide), R 844 (by decide) (by decide) (by decide)]
    refine ⟨by omega, by omega, ha, fun k hk => ?_, fun k hk => ?_, s6, s7, s8, s9, s10⟩
    · have q := (k3 k (by omega)).1
      rw [q, Ru _ (by decide) (by decide), show 40 * e + n + k = 40 * e + (n + k) by omega]
      exact s4 (n + k) (by omega)
    · have q := (k3 k (by omega)).2
      rw [q, Ru _ (by decide) (by decide), show 40 * e + n + k = 40 * e + (n + k) by omega, s5 (n + k) (by omega)]
      omega
  · unfold iT at tF ⊢
    rw [e816, R 817 (by decide) (by decide) (by decide), R 818 (by decide) (by decide) (by decide), gA, gO f (by omega), gO (4 + f) (by omega), gO (8 + f) (by omega), gO (16 + e) (by omega)]
    exact ⟨tF.1.ack (by omega) (by omega) hl, tF.2⟩
  · exact uF.gg (by rw [e816]) (R _ (by decide) (by decide) (by decide)) (R _ (by decide) (by decide) (by decide)) (gO _ (by omega)) (gO _ (by omega)) (gO _ (by omega)) (gO _ (by omega)) (gO _ (by omega)) (Int.le_refl _)
  · obtain ⟨n1, n2, n3, n4, n5, n6, n7, n8⟩ := hN0
    unfold iN
    rw [e816]
    exact ⟨n1, n2, n3, n4, n5, n6, by omega, n8⟩
theorem sl_107 {p1 a2 a3 : Int32} {u : VV} {e n : Nat} {qd : Int} {Q : VV → Prop} (he : p1.toInt = (e : Int)) (he2 : e < 2) (hn : a3.toInt = (n : Int)) (hu : (u 830 e).toInt = qd) (hq : (n : Int) ≤ (u 831 e).toInt ∧ (u 831 e).toInt ≤ qd ∧ qd ≤ 40) (k : ∀ (w : VV) (x y : Int32), SH u w e n (qd.toNat - n) → x.toInt = qd - n → y.toInt = (u 831 e).toInt - n → w_X10_goOn p1 (up2 (up2 w 830 e x) 831 e y) (fun w => Q w)) : ∀ (m j : Nat) (a4 : Int32) (w : VV), SH u w e n j → a4.toInt = 40 * (e : Int) + n + j → qd < (m : Int) + (n : Int) + (j : Int) → (n : Int) + j ≤ qd → b_X10_arriveReceipt_107 p1 Q m p1 a2 a3 a4 w := by
  have l40 : Int32.toInt 40 = 40 := by decide
  have t1 := tn_of (x := p1) (by omega)
  have u1 : p1.toNatClampNeg = e := by omega
  intro m
  induction m with
  | zero => intro j a4 w h1 h2 h3 h4; exfalso; omega
  | succ m ih =>
    intro j a4 w h1 h2 h3 h4
    intro x112 e112
    have i112 := i_mul e112 (by rw [l40]; omega) (by rw [l40]; omega)
    rw [l40] at i112
    refine ⟨in_of (by omega) (by omega), ?_⟩
    intro x118 e118 x119 e119
    rw [u1, h1.1 830 (by decide)] at e118
    have i118 := i_eq e118
    have i119 := i_add e119 (by omega) (by omega)
    refine ⟨fun q => ?_, fun q => ?_⟩
    · have q := i_le q
      refine ⟨in_of (by omega) (by omega), ?_⟩
      intro x259 e259 x261 e261
      rw [u1, h1.1 830 (by decide)] at e259
      have i259 := i_eq e259
      have i261 := i_sub e261 (by omega) (by omega)
      refine ⟨in_of (by omega) (by omega), ?_⟩
      intro v3 hv3
      refine ⟨in_of (by omega) (by omega), ?_⟩
      intro x269 e269 x271 e271
      rw [u1, hv3, up2_o _ _ _ _ _ (by decide), h1.1 831 (by decide)] at e269
      have i269 := i_eq e269
      have i271 := i_sub e271 (by omega) (by omega)
      refine ⟨in_of (by omega) (by omega), ?_⟩
      intro v6 hv6
      rw [hv6, hv3, u1]
      have ej : qd.toNat - n = j := by omega
      rw [ej] at k
      exact k w x261 x271 h1 (by omega) (by omega)
    · have q := i_nle q
      have t4 := tn_of (x := a4) (by omega)
      have u4 : a4.toNatClampNeg = 40 * e + n + j := by omega
      have H : ∀ x : Int32, x = a4 - a3 → x.toNatClampNeg = 40 * e + j ∧ vp_in x 80 := fun x ex => by
        have i := i_sub ex (by omega) (by omega)
        have t := tn_of (x := x) (by omega)
        exact ⟨by omega, in_of (by omega) (by omega)⟩
      intro x130 e130
      have H130 := H x130 e130
      refine ⟨in_of (by omega) (by omega), ?_⟩
      intro x137 e137
      refine ⟨H130.2, ?_⟩
      intro v10 h10 x146 e146
      have H146 := H x146 e146
      refine ⟨in_of (by omega) (by omega), ?_⟩
      intro x153 e153
      refine ⟨H146.2, ?_⟩
      intro v13 h13 x162 e162
      have H162 := H x162 e162
      refine ⟨in_of (by omega) (by omega), ?_⟩
      intro x169 e169
      refine ⟨H162.2, ?_⟩
      intro v16 h16 x178 e178
      have H178 := H x178 e178
      refine ⟨in_of (by omega) (by omega), ?_⟩
      intro x185 e185
      refine ⟨H178.2, ?_⟩
      intro v19 h19 x194 e194
      have H194 := H x194 e194
      refine ⟨in_of (by omega) (by omega), ?_⟩
      intro x201 e201
      refine ⟨H194.2, ?_⟩
      intro v22 h22
      rw [u4] at e137 e169
      rw [H130.1] at h10
      rw [H162.1] at h16
      have z137 : x137 = u 832 (40 * e + n + j) := by rw [e137, (h1.2.1 _ (by omega)).1]
      have z169 : x169 = u 834 (40 * e + n + j) := by rw [e169, h13, up2_o _ _ _ _ _ (by decide), h10, up2_o _ _ _ _ _ (by decide), (h1.2.1 _ (by omega)).2]
      have z832 : v16 832 = upd (w 832) (40 * e + j) x137 := by rw [h16, up2_of _ _ _ _ (by decide), h13, up2_of _ _ _ _ (by decide), h10, up2_f]
      have z834 : v16 834 = upd (w 834) (40 * e + j) x169 := by rw [h16, up2_f, h13, up2_of _ _ _ _ (by decide), h10, up2_of _ _ _ _ (by decide)]
      have hS : SH u v16 e n (j + 1) := by
        refine ⟨fun a ha => ?_, fun p hp => ?_, fun i hi => ?_, fun p => ?_⟩
        · rw [h16, up2_of _ _ _ _ (by omega), h13, up2_of _ _ _ _ (by omega), h10, up2_of _ _ _ _ (by omega)]; exact h1.1 a ha
        · rw [z832, z834, upd_n (by omega), upd_n (by omega)]; exact h1.2.1 p (by omega)
        · rw [z832, z834]
          by_cases ei : i = j
          · rw [ei, upd_s, upd_s]; exact ⟨z137, z169⟩
          · rw [upd_n (by omega), upd_n (by omega)]; exact h1.2.2.1 i (by omega)
        · rw [h16, up2_of _ _ _ _ (by decide), h13, up2_of _ _ _ _ (by decide), h10, up2_of _ _ _ _ (by decide)]; exact h1.2.2.2 p
      have hS2 : SH u v22 e n (j + 1) := by
        rw [h22, h19]
        exact (hS.free (Or.inr (Or.inl rfl))).free (Or.inr (Or.inr (Or.inl rfl)))
      exact ⟨10, sl_206 (u := u) (e := e) (n := n) (j := j) (J := j + 1) he2 hn h2 (by omega) (fun w2 x hw2 hx => ih (j + 1) x w2 hw2 (by omega) (by omega) (by omega)) 10 0 0 v22 hS2 (by decide) (by omega) (by omega)⟩
theorem s_arriveReceipt {p1 : Int32} {e f : Nat} {s : Int} {cz : Nat → Int → Int} {vz : VV} {Q : VV → Prop} (h : Im g c d0 d1 d2 L M κ om v) (hz : Fx cz c vz v) (ho : 1 ≤ om ∧ om ≤ 9) (he : p1.toInt = (e : Int)) (hA : Arr g e f s v) (h96 : 96 ≤ (v 872 1).toInt ∧ (v 872 1).toInt ≤ 111) (k : ∀ v1, Iz cz vz d0 d1 d2 L M κ om v1 → Q v1) : w_X10_arriveReceipt p1 v Q := by
  obtain ⟨hef, hs, hU, hB⟩ := hA
  obtain ⟨z1, z2, r, hr1, hr2⟩ := hU.d96 h96
  obtain ⟨d, hd1, hd2⟩ := nb_rec hr1
  obtain ⟨sE, rE, cE, tE, uE⟩ := h.2.1 e f hef
  have hfe : EF f e := by omega
  have tF := (h.2.1 f e hfe).2.2.2.1
  have s1 := sE.1
  have s2 := sE.2.1
  have sN := tF.1.2.2.2.2.1
  have l2 : Int32.toInt 2 = 2 := by decide
  have l40 : Int32.toInt 40 = 40 := by decide
  have t1 := tn_of (x := p1) (by omega)
  have u1 : p1.toNatClampNeg = e := by omega
  have hb4 := hB 4 (by omega)
  have hI : Iz cz vz d0 d1 d2 L M κ om v := ⟨g, c, h, hz⟩
  unfold w_X10_arriveReceipt
  intro x5 e5
  have i5 : x5.toInt = (v 872 4).toInt := i_eq e5
  refine ⟨in_of (by omega) (by omega), ?_⟩
  intro x11 e11 x12 e12
  rw [u1] at e11
  have i11 := i_eq e11
  have i12 := i_sub e12 (by omega) (by omega)
  refine s_mod (fun x13 r13 => ?_)
  refine ⟨in_of (by omega) (by omega), ?_⟩
  intro x22 e22
  rw [u1] at e22
  have i22 := i_eq e22
  refine ⟨fun _ => k v hI, fun q => ?_⟩
  have q := i_eq q
  refine ⟨in_of (by omega) (by omega), ?_⟩
  intro x33 e33
  rw [u1] at e33
  have i33 := i_eq e33
  refine ⟨in_of (by omega) (by omega), ?_⟩
  intro x39 e39 x40 e40
  rw [u1] at e39
  have i39 := i_eq e39
  have i40 := i_sub e40 (by omega) (by omega)
  refine s_mod (fun x41 r41 => ?_)
  refine ⟨fun q2 => ?_, fun _ => k v hI⟩
  have q2 := i_le q2
  intro x58 e58
  have i58 : x58.toInt = (v 872 4).toInt := i_eq e58
  refine s_mod (fun x59 r59 => ?_)
  refine ⟨in_of (by omega) (by omega), ?_⟩
  intro v8 h8 x73 e73 x76 e76
  rw [u1] at h8
  rw [h8, up2_o _ _ _ _ _ (by decide)] at e73
  have i73 : x73.toInt = (v 872 1).toInt := i_eq e73
  have i76 := i_and15 e76
  refine ⟨in_of (by omega) (by omega), ?_⟩
  intro v10 h10
  rw [u1] at h10
  have hu : v10 = up2 (up2 v 839 e x59) 840 e x76 := by rw [h10, h8]
  have Ru : ∀ a, a ≠ 839 → a ≠ 840 → v10 a = v a := fun a n1 n2 => by rw [hu, up2_of _ _ _ _ n2, up2_of _ _ _ _ n1]
  obtain ⟨n, hn⟩ : ∃ n : Nat, x13.toInt = (n : Int) := ⟨x13.toInt.toNat, by omega⟩
  have hfin : ∀ s0 : Int32, s0.toInt = (n : Int) → b_X10_arriveReceipt_98 p1 Q p1 x13 s0 v10 := by
    intro s0 hs0
    unfold b_X10_arriveReceipt_98
    intro x102 e102 x104 e104
    have i102 := i_mul e102 (by rw [l40]; omega) (by rw [l40]; omega)
    rw [l40] at i102
    have i104 := i_add e104 (by omega) (by omega)
    refine ⟨50, sl_107 (u := v10) (qd := (v 830 e).toInt) he (by omega) hs0 (by rw [Ru _ (by decide) (by decide)]) (by rw [Ru _ (by decide) (by decide)]; omega) (fun w x y hS hx hy => ?_) 50 0 x104 v10 ⟨fun _ _ => rfl, fun _ _ => ⟨rfl, rfl⟩, fun i hi => absurd hi (by omega), fun p => by rw [Ru _ (by decide) (by decide)]; exact (h.1.2.1 p).2.1⟩ (by omega) (by omega) (by omega)⟩
    rw [Ru _ (by decide) (by decide)] at hy
    have hI2 := h.ack (n := n) (w := w) (x := x) (y := y) hef hu (by omega) (by omega) (by omega) (fun q3 => tF.1.told (d := d) (n := (v 872 4).toInt % 128) (m := n) hr2 hs.1 hs.2 hd1 hd2 (by omega) (by omega) q3) hS hx hy
    refine s_goOn ⟨_, c, hI2, ?_⟩ ho he hef k
    have hz2 : Fx cz c vz v10 := by rw [hu]; exact (hz.put (by decide)).put (by decide)
    have hz3 : Fx cz c vz w := by
      obtain ⟨⟨f1, f2, f3, f4, f5⟩, f6, f7, f8, f9⟩ := hz2
      have w816 := hS.1 816 (by decide)
      exact ⟨⟨by rw [w816]; exact f1, by rw [w816]; exact f2, by rw [w816]; exact f3, (hS.1 _ (by decide)).trans f4, (hS.1 _ (by decide)).trans f5⟩, by rw [w816]; exact f6, f7, f8, fun a ha => (hS.1 a (by omega)).trans (f9 a ha)⟩
    exact (hz3.put (by decide)).put (by decide)
  refine ⟨in_of (by omega) (by omega), ?_⟩
  intro x84 e84
  rw [u1, Ru _ (by decide) (by decide)] at e84
  have i84 := i_eq e84
  refine ⟨fun q3 => ?_, fun _ => hfin x13 hn⟩
  have q3 := i_le q3
  refine ⟨in_of (by omega) (by omega), ?_⟩
  intro x97 e97
  rw [u1, Ru _ (by decide) (by decide)] at e97
  have i97 := i_eq e97
  exact hfin x97 (by omega)
/-- an urgent byte is done -/
theorem Im.uack {e f : Nat} {x y : Int32} (h : Im g c d0 d1 d2 L M κ om v) (hef : EF e f) (hst : (v 817 e).toInt = 2) (hu : (v 844 e).toInt ≠ 0) (hg0 : 0 < (v 841 e).toInt) (hl : (v 817 e).toInt = 2 ∧ g (16 + e) 0 = (v 818 f).toInt → g (12 + (f + 2)) 0 + 1 ≤ g (f + 2) ((v 816 0).toInt - 2)) (hx : x.toInt = (v 841 e).toInt - 1) (hy : y.toInt = ((v 843 e).toInt + 1) % 128) : Im (upG g (12 + (f + 2)) (fun _ => g (12 + (f + 2)) 0 + 1)) c d0 d1 d2 L M κ om (up2 (up2 (up2 v 841 e x) 843 e y) 844 e 0) := by
  have h' := h
  obtain ⟨⟨a1, a2, a3, a4⟩, hE, hF, hN0⟩ := h
  obtain ⟨sE, rE, cE, tE, uE⟩ := hE e f hef
  have hfe : EF f e := by omega
  obtain ⟨sF, rF, cF, tF, uF⟩ := hE f e hfe
  obtain ⟨s1, s2, s3, s4, s5, s6, s7, s8, s9, s10⟩ := sE
  rw [if_neg hu] at s9
  have l0 : Int32.toInt 0 = 0 := by decide
  have R : ∀ a, a ≠ 841 → a ≠ 843 → a ≠ 844 → up2 (up2 (up2 v 841 e x) 843 e y) 844 e 0 a = v a := fun a n1 n2 n3 => by rw [up2_of _ _ _ _ n3, up2_of _ _ _ _ n2, up2_of _ _ _ _ n1]
  have R841 : up2 (up2 (up2 v 841 e x) 843 e y) 844 e 0 841 = upd (v 841) e x := by rw [up2_of _ _ _ _ (by decide), up2_of _ _ _ _ (by decide), up2_f]
  have R843 : up2 (up2 (up2 v 841 e x) 843 e y) 844 e 0 843 = upd (v 843) e y := by rw [up2_of _ _ _ _ (by decide), up2_f, up2_of _ _ _ _ (by decide)]
  have R844 : up2 (up2 (up2 v 841 e x) 843 e y) 844 e 0 844 = upd (v 844) e 0 := by rw [up2_f, up2_of _ _ _ _ (by decide), up2_of _ _ _ _ (by decide)]
  generalize up2 (up2 (up2 v 841 e x) 843 e y) 844 e 0 = z at *
  have gA : upG g (12 + (f + 2)) (fun _ => g (12 + (f + 2)) 0 + 1) (12 + (f + 2)) 0 = g (12 + (f + 2)) 0 + 1 := by rw [upG_s]
  have gO : ∀ j, j ≠ 12 + (f + 2) → upG g (12 + (f + 2)) (fun _ => g (12 + (f + 2)) 0 + 1) j = g j := fun j hj => upG_n hj
  generalize upG g (12 + (f + 2)) (fun _ => g (12 + (f + 2)) 0 + 1) = g' at gA gO
  have e816 : z 816 = v 816 := R 816 (by decide) (by decide) (by decide)
  have bke : bnk z e = bnk v e := by
    unfold bnk
    rw [R 830 (by decide) (by decide) (by decide), R 831 (by decide) (by decide) (by decide), R841, R844, upd_s, upd_s, l0, if_pos rfl, if_neg hu]
    omega
  have bkf : bnk z f = bnk v f := by
    unfold bnk
    rw [R 830 (by decide) (by decide) (by decide), R 831 (by decide) (by decide) (by decide), R841, R844, upd_n (by omega), upd_n (by omega)]
  have bk2 : bnk z 0 + bnk z 1 = bnk v 0 + bnk v 1 := by
    rcases hef with ⟨rfl, rfl⟩ | ⟨rfl, rfl⟩ <;> omega
  refine h'.side hef (fun a _ n2 => R a (fun q => by rw [q] at n2; cases n2) (fun q => by rw [q] at n2; cases n2) (fun q => by rw [q] at n2; cases n2)) (fun k _ => by rw [e816]) (by rw [e816]; exact a1.2.1) (a2.cg (R _ (by decide) (by decide) (by decide)) (R _ (by decide) (by decide) (by decide)) (R _ (by decide) (by decide) (by decide)) (R _ (by decide) (by decide) (by decide)) (R _ (by decide) (by decide) (by decide)) (R _ (by decide) (by decide) (by decide))) (fun k => ⟨by rw [R _ (by decide) (by decide) (by decide)], by rw [R _ (by decide) (by decide) (by decide)], by rw [R _ (by decide) (by decide) (by decide)], by rw [R _ (by decide) (by decide) (by decide)], by rw [R _ (by decide) (by decide) (by decide)], by rw [R841, upd_n (by omega)], by rw [R843, upd_n (by omega)], by rw [R844, upd_n (by omega)], fun hk => ⟨by rw [R _ (by decide) (by decide) (by decide)], by rw [R _ (by decide) (by decide) (by decide)]⟩⟩) (fun j _ _ _ n4 => gO j n4) ⟨by rw [gO _ (by omega)]; exact Int.le_refl _, by rw [gO _ (by omega)]; exact Int.le_refl _⟩ (fun q => ⟨by rw [gO _ (by omega)], by rw [gO _ (by omega)]⟩) ?_ ?_ ?_ ⟨fun a ha => rfl, Int.le_refl _⟩ ?_
  · unfold iS
    rw [gA, gO (8 + f) (by omega), gO (12 + f) (by omega), gO (8 + (f + 2)) (by omega), R841, R843, R844, upd_s, upd_s, upd_s, l0, if_pos rfl, R 830 (by decide) (by decide) (by decide), R 831 (by decide) (by decide) (by decide), R 832 (by decide) (by decide) (by decide), R 834 (by decide) (by decide) (by decide), R 838 (by decide) (by decide) (by decide), R 839 (by decide) (by decide) (by decide), R 840 (by decide) (by decide) (by decide)]
    exact ⟨s1, s2, s3, s4, s5, by omega, by omega, by omega, by omega, fun _ => rfl⟩
  · exact tF.gg (by rw [e816]) (R _ (by decide) (by decide) (by decide)) (R _ (by decide) (by decide) (by decide)) (gO _ (by omega)) (gO _ (by omega)) (gO _ (by omega)) (gO _ (by omega)) (gO _ (by omega)) (Int.le_refl _)
  · unfold iT at uF ⊢
    rw [e816, R 817 (by decide) (by decide) (by decide), R 818 (by decide) (by decide) (by decide), gA, gO (f + 2) (by omega), gO (4 + (f + 2)) (by omega), gO (8 + (f + 2)) (by omega), gO (16 + e) (by omega)]
    exact ⟨uF.1.ack (by omega) (by omega) hl, uF.2⟩
  · obtain ⟨n1, n2, n3, n4, n5, n6, n7, n8⟩ := hN0
    unfold iN
    rw [e816]
    exact ⟨n1, n2, n3, n4, n5, n6, by omega, n8⟩
theorem sl_54 {p1 : Int32} {e f : Nat} {cz : Nat → Int → Int} {vz : VV} {Q : VV → Prop} (ho : 1 ≤ om ∧ om ≤ 9) (he : p1.toInt = (e : Int)) (hef : EF e f) (k : ∀ v1, Iz cz vz d0 d1 d2 L M κ om v1 → Q v1) : ∀ (m j : Nat) (a2 : Int32) (v : VV), Im g c d0 d1 d2 L M κ om v → Fx cz c vz v → (v 817 e).toInt = 2 → (v 844 e).toInt ≠ 0 → 0 < (v 841 e).toInt → ((v 817 e).toInt = 2 ∧ g (16 + e) 0 = (v 818 f).toInt → g (12 + (f + 2)) 0 + 1 ≤ g (f + 2) ((v 816 0).toInt - 2)) → a2.toInt = (j : Int) + 1 → (v 841 e).toInt < (m : Int) + (j : Int) + 1 → (j : Int) + 1 ≤ (v 841 e).toInt → b_X10_arriveUrgentReceipt_54 p1 Q m p1 a2 v := by
  have l0 : Int32.toInt 0 = 0 := by decide
  have l1 : Int32.toInt 1 = 1 := by decide
  have l8 : Int32.toInt 8 = 8 := by decide
  have t1 := tn_of (x := p1) (by omega)
  have u1 : p1.toNatClampNeg = e := by omega
  intro m
  induction m with
  | zero => intro j a2 v h hz hst hu hg hl h1 h2 h3; exfalso; omega
  | succ m ih =>
    intro j a2 v h hz hst hu hg hl h1 h2 h3
    obtain ⟨sE, rE, cE, tE, uE⟩ := h.2.1 e f hef
    have s6 := sE.2.2.2.2.2.1
    have s7 := sE.2.2.2.2.2.2.1
    refine ⟨in_of (by omega) (by omega), ?_⟩
    intro x60 e60
    rw [u1] at e60
    have i60 := i_eq e60
    refine ⟨fun q => ?_, fun q => ?_⟩
    · refine ⟨in_of (by omega) (by omega), ?_⟩
      intro x100 e100 x102 e102
      rw [u1] at e100
      have i100 := i_eq e100
      have i102 := i_sub e102 (by omega) (by omega)
      refine ⟨in_of (by omega) (by omega), ?_⟩
      intro v3 h3
      refine ⟨in_of (by omega) (by omega), ?_⟩
      intro x114 e114 x116 e116
      rw [u1, h3, up2_o _ _ _ _ _ (by decide)] at e114
      have i114 := i_eq e114
      have i116 := i_add e116 (by omega) (by omega)
      refine s_mod (fun x117 r117 => ?_)
      refine ⟨in_of (by omega) (by omega), ?_⟩
      intro v7 h7
      refine ⟨in_of (by omega) (by omega), ?_⟩
      intro v9 h9
      have hv : v9 = up2 (up2 (up2 v 841 e x102) 843 e x117) 844 e 0 := by rw [h9, h7, h3, u1]
      have hI := h.uack (x := x102) (y := x117) hef hst hu hg hl (by omega) (by omega)
      rw [hv]
      exact s_goOn ⟨_, c, hI, ((hz.put (by decide)).put (by decide)).put (by decide)⟩ ho he hef k
    · have q := i_nle q
      intro x71 e71 x73 e73 x75 e75 x83 e83 x85 e85
      have i71 := i_mul e71 (by rw [l8]; omega) (by rw [l8]; omega)
      rw [l8] at i71
      have i73 := i_add e73 (by omega) (by omega)
      have i75 := i_sub e75 (by omega) (by omega)
      have i83 := i_mul e83 (by rw [l8]; omega) (by rw [l8]; omega)
      rw [l8] at i83
      have i85 := i_add e85 (by omega) (by omega)
      refine ⟨in_of (by omega) (by omega), ?_⟩
      intro x86 e86
      refine ⟨in_of (by omega) (by omega), ?_⟩
      intro v13 h13 x88 e88
      have i88 := i_add e88 (by omega) (by omega)
      have b := (h.1.2.1 (Int32.toNatClampNeg x85)).2.2.1
      rw [← e86] at b
      rw [h13]
      refine ih (j + 1) x88 _ (h.put rfl (fun q => by cases q) (fun _ => b)) (hz.put (by decide)) ?_ ?_ ?_ ?_ (by omega) ?_ ?_
      · rw [up2_of _ _ _ _ (by decide)]; exact hst
      · rw [up2_of _ _ _ _ (by decide)]; exact hu
      · rw [up2_of _ _ _ _ (by decide)]; exact hg
      · rw [up2_of _ _ _ _ (show 817 ≠ 842 by decide), up2_of _ _ _ _ (show 818 ≠ 842 by decide), up2_of _ _ _ _ (show 816 ≠ 842 by decide)]; exact hl
      · rw [up2_of _ _ _ _ (by decide)]; omega
      · rw [up2_of _ _ _ _ (by decide)]; omega
theorem s_arriveUrgentReceipt {p1 : Int32} {e f : Nat} {s : Int} {cz : Nat → Int → Int} {vz : VV} {Q : VV → Prop} (h : Im g c d0 d1 d2 L M κ om v) (hz : Fx cz c vz v) (ho : 1 ≤ om ∧ om ≤ 9) (he : p1.toInt = (e : Int)) (hA : Arr g e f s v) (h32 : (v 872 1).toInt = 32) (k : ∀ v1, Iz cz vz d0 d1 d2 L M κ om v1 → Q v1) : w_X10_arriveUrgentReceipt p1 v Q := by
  obtain ⟨hef, hs, hU, hB⟩ := hA
  obtain ⟨z1, r, hr1, hr2⟩ := hU.d32 h32
  obtain ⟨d, hd1, hd2⟩ := nb_rec hr1
  obtain ⟨sE, rE, cE, tE, uE⟩ := h.2.1 e f hef
  have hfe : EF f e := by omega
  have uF := (h.2.1 f e hfe).2.2.2.2
  have s6 := sE.2.2.2.2.2.1
  have s7 := sE.2.2.2.2.2.2.1
  have s9 := sE.2.2.2.2.2.2.2.2.1
  have sN := uF.1.2.2.2.2.1
  have l0 : Int32.toInt 0 = 0 := by decide
  have l1 : Int32.toInt 1 = 1 := by decide
  have l2 : Int32.toInt 2 = 2 := by decide
  have t1 := tn_of (x := p1) (by omega)
  have u1 : p1.toNatClampNeg = e := by omega
  have hb4 := hB 4 (by omega)
  have hI : Iz cz vz d0 d1 d2 L M κ om v := ⟨g, c, h, hz⟩
  unfold w_X10_arriveUrgentReceipt
  refine ⟨in_of (by omega) (by omega), ?_⟩
  intro x5 e5
  rw [u1] at e5
  have i5 := i_eq e5
  refine ⟨fun _ => k v hI, fun q => ?_⟩
  have q := i_eq q
  refine ⟨in_of (by omega) (by omega), ?_⟩
  intro x15 e15
  rw [u1] at e15
  have i15 := i_eq e15
  refine ⟨fun _ => k v hI, fun q2 => ?_⟩
  have q2 := i_ne q2
  refine ⟨in_of (by omega) (by omega), ?_⟩
  intro x24 e24
  rw [u1] at e24
  have i24 := i_eq e24
  refine ⟨fun _ => k v hI, fun q3 => ?_⟩
  have q3 := i_ne q3
  have hu : (v 844 e).toInt ≠ 0 := by omega
  rw [if_neg hu] at s9
  intro x33 e33
  have i33 : x33.toInt = (v 872 4).toInt := i_eq e33
  refine s_mod (fun x34 r34 => ?_)
  refine ⟨in_of (by omega) (by omega), ?_⟩
  intro x42 e42 x44 e44
  rw [u1] at e42
  have i42 := i_eq e42
  have i44 := i_add e44 (by omega) (by omega)
  refine s_mod (fun x45 r45 => ?_)
  refine ⟨fun q4 => ?_, fun _ => k v hI⟩
  have q4 := i_eq q4
  exact ⟨20, sl_54 ho he hef k 20 0 1 v h hz (by omega) hu (by omega) (fun q5 => uF.1.told (d := d) (n := (v 872 4).toInt % 128) (m := 1) hr2 hs.1 hs.2 hd1 hd2 (by omega) (by omega) q5) (by decide) (by omega) (by omega)⟩
end IM
