/-! type, send, urge, fault -/
section IM
variable {g g' c c' : Nat → Int → Int} {d0 d1 d2 L M κ om : Int} {v v1 z : VV}
theorem i64_255 {x a : Int64} {y : Int32} (e : x = a &&& 255) (ey : y = x.toInt32) : byt y := by
  have h1 : x.toBitVec.toNat ≤ 255 := by
    rw [e]
    show (a.toBitVec &&& 255#64).toNat ≤ 255
    rw [BitVec.toNat_and]
    exact Nat.and_le_right
  have h2 : x.toInt = (x.toBitVec.toNat : Int) := by
    have : x.toInt = x.toBitVec.toInt := rfl
    rw [this, BitVec.toInt_eq_toNat_cond, if_pos (by omega)]
  have h3 : y.toInt = x.toInt := by
    rw [ey, Int64.toInt_toInt32]
    exact bm32 (by omega) (by omega)
  show 0 ≤ y.toInt ∧ y.toInt ≤ 255
  omega
theorem Im.len {L' : Int} {x : Int32} (h : Im g c d0 d1 d2 L M κ om v) (hx : 0 ≤ x.toInt ∧ x.toInt ≤ 64) (hL : c 3 (v 816 0).toInt + c 4 (v 816 0).toInt + c 5 (v 816 0).toInt + bnk v 0 + bnk v 1 + (x.toInt + 7) / 8 ≤ L' ∧ L' ≤ 512) : Im g c d0 d1 d2 L' M κ om (up2 v 816 48 x) := by
  obtain ⟨⟨a1, a2, a3, a4⟩, hE, hF, hN0⟩ := h
  have R : ∀ a, a ≠ 816 → up2 v 816 48 x a = v a := fun a ha => up2_of _ _ _ _ ha
  have K : ∀ q, q ≠ 48 → up2 v 816 48 x 816 q = v 816 q := fun q hq => up2_k _ _ _ _ hq
  have K48 : up2 v 816 48 x 816 48 = x := up2_s _ _ _ _
  generalize up2 v 816 48 x = w at *
  have e0 := K 0 (by decide)
  refine ⟨⟨?_, a2.cg (R _ (by decide)) (R _ (by decide)) (R _ (by decide)) (R _ (by decide)) (R _ (by decide)) (R _ (by decide)), ?_, a4⟩, ?_, fun u hu1 hu2 => ?_, ?_⟩
  · unfold iSc; rw [e0, K48, K 49 (by decide), R 869 (by decide)]; exact ⟨a1.1, hx, a1.2.2⟩
  · unfold iFa; rw [K 49 (by decide), R 864 (by decide), R 866 (by decide), R 867 (by decide)]; exact a3
  · intro p q hpq
    obtain ⟨b1, b2, b3, b4, b5⟩ := hE p q hpq
    exact ⟨b1.cg (R _ (by decide)) (R _ (by decide)) (R _ (by decide)) (R _ (by decide)) (R _ (by decide)) (R _ (by decide)) (R _ (by decide)) (R _ (by decide)) (R _ (by decide)) (R _ (by decide)), b2.cg e0 (R _ (by decide)) (R _ (by decide)) (R _ (by decide)) (R _ (by decide)) (R _ (by decide)) (R _ (by decide)) (R _ (by decide)) (R _ (by decide)) (R _ (by decide)) (R _ (by decide)) (R _ (by decide)), b3.cg e0 (R _ (by decide)) (R _ (by decide)) (R _ (by decide)) (R _ (by decide)) (R _ (by decide)) (R _ (by decide)) (R _ (by decide)) (R _ (by decide)), b4.cg e0 (R _ (by decide)) (R _ (by decide)) rfl, b5.cg e0 (R _ (by decide)) (R _ (by decide)) rfl⟩
  · rw [K 55 (by decide)] at hu1
    rw [K 54 (by decide)] at hu2
    exact (hF u hu1 hu2).cg (R _ (by decide)) (R _ (by decide)) (R _ (by decide)) (R _ (by decide)) (R _ (by decide)) (R _ (by decide)) (R _ (by decide))
  · obtain ⟨n1, n2, n3, n4, n5, n6, n7, n8⟩ := hN0
    unfold iN
    rw [e0, K48, K 54 (by decide), K 55 (by decide), bnk.cg (R _ (by decide)) (R _ (by decide)) (R _ (by decide)) (R _ (by decide)), bnk.cg (R _ (by decide)) (R _ (by decide)) (R _ (by decide)) (R _ (by decide))]
    exact ⟨n1, n2, n3, n4, n5, n6, hL, n8⟩
theorem bnk_o {e o k : Nat} {x : Int32} (h : o ≠ 830 ∧ o ≠ 831 ∧ o ≠ 841 ∧ o ≠ 844) : bnk (up2 v o k x) e = bnk v e := bnk.cg (up2_of _ _ _ _ (by omega)) (up2_of _ _ _ _ (by omega)) (up2_of _ _ _ _ (by omega)) (up2_of _ _ _ _ (by omega))
theorem s_X10_type {C : Int} {n p2 : Int32} {p1 : Int64} {Q : Int32 → VV → Prop} (h : IA C n v) (hC : C + 1 ≤ 512) (k : ∀ (x : Int32) (w : VV), IA (C + 1) n w ∧ (∀ a, a < 816 → w a = v a) → Q x w) : w_X10_type p1 p2 v Q := by
  have hn := h.n
  have still := h.still hC
  have kl : ∀ x, Q x v := fun x => k x v ⟨still, fun _ _ => rfl⟩
  obtain ⟨g, c, e0, e1, e2, h1, h2, h3⟩ := h
  have l0 : Int32.toInt 0 = 0 := by decide
  have l1 : Int32.toInt 1 = 1 := by decide
  have lm : Int32.toInt (-1) = -1 := by decide
  have l8 : Int32.toInt 8 = 8 := by decide
  have l64 : Int32.toInt 64 = 64 := by decide
  have hlen := h1.1.1.2.1
  have hLL := h1.2.2.2.2.2.2.2.2.2.1
  have tk := h1.tok
  unfold w_X10_type b_X10_type_11
  refine ⟨fun _ => kl _, fun q => ⟨fun q2 => ?_, fun _ => kl _⟩⟩
  have q := i_nlt q
  have q2 := i_le q2
  intro x14 e14 x18 e18
  have i14 := i_eq e14
  have i18 := i_add e18 (by omega) (by omega)
  refine ⟨fun q3 => ?_, fun _ => kl _⟩
  have q3 := i_le q3
  intro x29 e29
  have i29 := i_sub e29 (by omega) (by omega)
  have loop : ∀ (m : Nat) (j : Nat) (a4 : Int32) (w : VV), a4.toInt = p2.toInt - 1 - (j : Int) → (j : Int) ≤ p2.toInt → Im g c e0 e1 e2 (C + 1) (12 * C + 2 * n.toInt) 12 8 w → Fx c c v w → (w 816 48).toInt = (v 816 48).toInt + j → c 3 (w 816 0).toInt + c 4 (w 816 0).toInt + c 5 (w 816 0).toInt + bnk w 0 + bnk w 1 + ((v 816 48).toInt + 7) / 8 ≤ C → p2.toInt < (m : Int) + (j : Int) → b_X10_type_32 p1 p2 Q m p1 p2 a4 w := by
    intro m
    induction m with
    | zero => intro j a4 w g1 g2 g3 g4 g5 g6 g7; exfalso; omega
    | succ m ih =>
      intro j a4 w g1 g2 g3 g4 g5 g6 g7
      refine ⟨fun r => ?_, fun r => ?_⟩
      · intro x75 e75
        exact k x75 w (IA.of ⟨g, c, g3, g4⟩ (by omega) (by omega) ⟨h3, hC⟩ h2 hn)
      · have r := i_nlt r
        intro x42 e42 x50 e50 x51 e51 x55 e55 x56 e56
        have i42 := i_eq e42
        have b56 := i64_255 e55 e56
        refine ⟨in_of (by omega) (by omega), ?_⟩
        intro v1 hv1 x60 e60 x64 e64 v3 hv3 x68 e68
        rw [hv1, up2_o _ _ _ _ _ (by decide)] at e60
        have i60 := i_eq e60
        have i64 := i_add e64 (by omega) (by omega)
        have i68 := i_add e68 (by omega) (by omega)
        have z0 : up2 w 863 (Int32.toNatClampNeg x42) x56 816 = w 816 := up2_of _ _ _ _ (by decide)
        have I1 : Im g c e0 e1 e2 (C + 1) (12 * C + 2 * n.toInt) 12 8 v1 := by rw [hv1]; exact g3.put rfl (fun q => by cases q) (fun _ => b56)
        have B1 : ∀ e, bnk v1 e = bnk w e := fun e => by rw [hv1]; exact bnk_o (by decide)
        have n1 : v1 816 0 = w 816 0 := by rw [hv1, z0]
        have I3 : Im g c e0 e1 e2 (C + 1) (12 * C + 2 * n.toInt) 12 8 v3 := by
          rw [hv3]
          exact I1.len (by omega) ⟨by rw [n1, B1, B1]; omega, hC⟩
        have z3 : v3 816 0 = w 816 0 := by rw [hv3, up2_k _ _ _ _ (by decide), n1]
        have B3 : ∀ e, bnk v3 e = bnk w e := fun e => by rw [hv3, bnk_o (by decide), B1]
        refine ih (j + 1) x68 v3 (by omega) (by omega) I3 ?_ ?_ (by rw [z3, B3, B3]; exact g6) (by omega)
        · rw [hv3, hv1]; exact (g4.put (by decide)).put0 (by decide)
        · rw [hv3, up2_s]; omega
  exact ⟨20, loop 20 0 x29 v (by omega) (by omega) (h1.mon (Int.le_refl _) (Int.le_refl _) ⟨by omega, hC⟩ (by omega)) Fx.rf (by omega) (by omega) (by omega)⟩
/-- more pieces wait to be sent -/
theorem Im.enq {e f : Nat} {x lx : Int32} {L' : Int} (h : Im g c d0 d1 d2 L M κ om v) (hef : EF e f) (hx : (v 830 e).toInt ≤ x.toInt ∧ x.toInt ≤ 40) (hlx : 0 ≤ lx.toInt ∧ lx.toInt ≤ 64) (R : ∀ a, a ≠ 816 → a ≠ 830 → a ≠ 832 → a ≠ 833 → a ≠ 837 → z a = v a) (K : ∀ q, q ≠ 48 → z 816 q = v 816 q) (K48 : z 816 48 = lx) (R830 : z 830 = upd (v 830) e x) (h832 : ∀ p, p < 40 * e + (v 830 e).toInt.toNat ∨ 40 * e + 40 ≤ p → z 832 p = v 832 p) (hnew : ∀ i : Nat, (v 830 e).toInt ≤ (i : Int) → (i : Int) < x.toInt → 0 ≤ (z 832 (40 * e + i)).toInt ∧ (z 832 (40 * e + i)).toInt ≤ 8) (hb : ∀ p, byt (z 837 p)) (hL : c 3 (v 816 0).toInt + c 4 (v 816 0).toInt + c 5 (v 816 0).toInt + bnk v 0 + bnk v 1 + (x.toInt - (v 830 e).toInt) + (lx.toInt + 7) / 8 ≤ L' ∧ L' ≤ 512) : Im g c d0 d1 d2 L' M κ om z := by
  have h' := h
  obtain ⟨⟨a1, a2, a3, a4⟩, hE, hF, hN0⟩ := h
  obtain ⟨sE, rE, cE, tE, uE⟩ := hE e f hef
  have hfe : EF f e := by omega
  obtain ⟨sF, rF, cF, tF, uF⟩ := hE f e hfe
  obtain ⟨s1, s2, s3, s4, s5, s6, s7, s8, s9, s10⟩ := sE
  have R' : ∀ a, (a < 816 ∨ 837 < a ∨ (816 < a ∧ a < 830) ∨ a = 831 ∨ a = 834) → z a = v a := fun a ha => R a (by omega) (by omega) (by omega) (by omega) (by omega)
  have bke : bnk z e = bnk v e + (x.toInt - (v 830 e).toInt) := by
    unfold bnk
    rw [R830, upd_s, R' 831 (by decide), R' 841 (by decide), R' 844 (by decide)]
    omega
  have bkf : bnk z f = bnk v f := by
    unfold bnk
    rw [R830, upd_n (by omega), R' 831 (by decide), R' 841 (by decide), R' 844 (by decide)]
  have bk2 : bnk z 0 + bnk z 1 = bnk v 0 + bnk v 1 + (x.toInt - (v 830 e).toInt) := by
    rcases hef with ⟨rfl, rfl⟩ | ⟨rfl, rfl⟩ <;> omega
  refine h'.side hef (fun a n1 n2 => R a (fun q => by rw [q] at n1; cases n1) (fun q => by rw [q] at n2; cases n2) (fun q => by rw [q] at n2; cases n2) (fun q => by rw [q] at n1; cases n1) (fun q => by rw [q] at n1; cases n1)) (fun k hk => K k (by omega)) (by rw [K48]; exact hlx) (fun p => ?_) (fun k => ⟨by rw [R830, upd_n (by omega)], by rw [R' _ (by decide)], by rw [R' _ (by decide)], by rw [R' _ (by decide)], by rw [R' _ (by decide)], by rw [R' _ (by decide)], by rw [R' _ (by decide)], by rw [R' _ (by decide)], fun hk => ⟨h832 _ (by omega), by rw [R' 834 (by decide)]⟩⟩) (fun j _ _ _ _ => rfl) ⟨Int.le_refl _, Int.le_refl _⟩ (fun _ => ⟨rfl, rfl⟩) ?_ (tF.gg (K 0 (by decide)) (R' _ (by decide)) (R' _ (by decide)) rfl rfl rfl rfl rfl (Int.le_refl _)) (uF.gg (K 0 (by decide)) (R' _ (by decide)) (R' _ (by decide)) rfl rfl rfl rfl rfl (Int.le_refl _)) ⟨fun a ha => rfl, Int.le_refl _⟩ ?_
  · have b := a2 p
    rw [R' 828 (by decide), R' 842 (by decide), R' 863 (by decide), R' 868 (by decide), R' 873 (by decide)]
    exact ⟨b.1, hb p, b.2.2⟩
  · unfold iS
    rw [R830, upd_s, R' 831 (by decide), R' 834 (by decide), R' 838 (by decide), R' 839 (by decide), R' 840 (by decide), R' 841 (by decide), R' 843 (by decide), R' 844 (by decide)]
    refine ⟨by omega, s2, s3, fun k hk => ?_, s5, s6, s7, s8, s9, s10⟩
    by_cases ek : (k : Int) < (v 830 e).toInt
    · rw [h832 _ (by omega)]; exact s4 k ek
    · exact hnew k (by omega) hk
  · obtain ⟨n1, n2, n3, n4, n5, n6, n7, n8⟩ := hN0
    unfold iN
    rw [K 0 (by decide), K 54 (by decide), K 55 (by decide), K48]
    exact ⟨n1, n2, n3, n4, n5, n6, by omega, n8⟩
/-- k pieces of a message are laid behind the queue -/
def EN (v w : VV) (e qd k : Nat) : Prop := (∀ a, a ≠ 830 → a ≠ 832 → a ≠ 833 → a ≠ 837 → w a = v a) ∧ (∃ x : Int32, x.toInt = ((qd + k : Nat) : Int) ∧ w 830 = upd (v 830) e x) ∧ (∀ p, p < 40 * e + qd ∨ 40 * e + qd + k ≤ p → w 832 p = v 832 p) ∧ (∀ i : Nat, qd ≤ i → i < qd + k → 0 ≤ (w 832 (40 * e + i)).toInt ∧ (w 832 (40 * e + i)).toInt ≤ 8) ∧ (∀ p, byt (w 837 p))
theorem sl_141 {p1 a2 a3 a4 a5 : Int32} {e qd kk sz : Nat} {Q : Int32 → VV → Prop} {K : Int32 → Int32 → Int32 → VV → Prop} (he : p1.toInt = (e : Int)) (he2 : e < 2) (h3 : a3.toInt = (kk : Int)) (h4 : a4.toInt = 40 * (e : Int) + qd + kk) (h5 : a5.toInt = (sz : Int)) (hsz : sz ≤ 8) (hq : qd + kk < 40) (ht : ∀ p, byt (v 863 p)) (hlen : 8 * kk + sz ≤ 64) (k : ∀ (w : VV) (x : Int32), EN v w e qd (kk + 1) → x.toInt = (kk : Int) + 1 → K p1 a2 x w) : ∀ (m i : Nat) (a6 : Int32) (w : VV), (∀ a, a ≠ 830 → a ≠ 832 → a ≠ 833 → a ≠ 837 → w a = v a) → (∃ x : Int32, x.toInt = ((qd + kk : Nat) : Int) ∧ w 830 = upd (v 830) e x) → (∀ p, p < 40 * e + qd ∨ 40 * e + qd + (kk + 1) ≤ p → w 832 p = v 832 p) → (∀ i : Nat, qd ≤ i → i < qd + (kk + 1) → 0 ≤ (w 832 (40 * e + i)).toInt ∧ (w 832 (40 * e + i)).toInt ≤ 8) → (∀ p, byt (w 837 p)) → a6.toInt = (i : Int) → i ≤ sz → sz < m + i → b_X10_send_141 p1 Q K m p1 a2 a3 a4 a5 a6 w := by
  have l1 : Int32.toInt 1 = 1 := by decide
  have l8 : Int32.toInt 8 = 8 := by decide
  have t1 := tn_of (x := p1) (by omega)
  have u1 : p1.toNatClampNeg = e := by omega
  intro m
  induction m with
  | zero => intro i a6 w g1 g2 g3 g4 g5 g6 g7 g8; exfalso; omega
  | succ m ih =>
    intro i a6 w g1 g2 g3 g4 g5 g6 g7 g8
    refine ⟨fun q => ⟨in_of (by omega) (by omega), ?_⟩, fun q => ?_⟩
    · obtain ⟨x, gx1, gx2⟩ := g2
      intro x185 e185 x187 e187
      rw [u1, gx2, upd_s] at e185
      have i185 := i_eq e185
      have i187 := i_add e187 (by omega) (by omega)
      refine ⟨in_of (by omega) (by omega), ?_⟩
      intro v2 hv2 x189 e189
      have i189 := i_add e189 (by omega) (by omega)
      rw [u1] at hv2
      refine k v2 x189 ⟨fun a n1 n2 n3 n4 => by rw [hv2, up2_of _ _ _ _ n1]; exact g1 a n1 n2 n3 n4, ⟨x187, by omega, by rw [hv2, up2_f, gx2, upd_upd]⟩, fun p hp => by rw [hv2, up2_of _ _ _ _ (by decide)]; exact g3 p hp, fun i h1 h2 => by rw [hv2, up2_of _ _ _ _ (by decide)]; exact g4 i h1 h2, fun p => by rw [hv2, up2_of _ _ _ _ (by decide)]; exact g5 p⟩ (by omega)
    · have q := i_nle q
      intro x156 e156 x159 e159 x167 e167 x170 e170
      have i156 := i_mul e156 (by rw [l8]; omega) (by rw [l8]; omega)
      rw [l8] at i156
      have i159 := i_add e159 (by omega) (by omega)
      have i167 := i_mul e167 (by rw [l8]; omega) (by rw [l8]; omega)
      rw [l8] at i167
      have i170 := i_add e170 (by omega) (by omega)
      refine ⟨in_of (by omega) (by omega), ?_⟩
      intro x171 e171
      rw [g1 863 (by decide) (by decide) (by decide) (by decide)] at e171
      have b := ht (Int32.toNatClampNeg x170)
      rw [← e171] at b
      refine ⟨in_of (by omega) (by omega), ?_⟩
      intro v5 hv5 x173 e173
      have i173 := i_add e173 (by omega) (by omega)
      refine ih (i + 1) x173 v5 (fun a n1 n2 n3 n4 => by rw [hv5, up2_of _ _ _ _ n4]; exact g1 a n1 n2 n3 n4) ?_ (fun p hp => by rw [hv5, up2_of _ _ _ _ (by decide)]; exact g3 p hp) (fun i h1 h2 => by rw [hv5, up2_of _ _ _ _ (by decide)]; exact g4 i h1 h2) (fun p => ?_) (by omega) (by omega) (by omega)
      · obtain ⟨x, gx1, gx2⟩ := g2
        exact ⟨x, gx1, by rw [hv5, up2_of _ _ _ _ (by decide)]; exact gx2⟩
      · rw [hv5, up2_f]
        exact byt_upd g5 b p
theorem sl_62 {p1 a2 : Int32} {e qd mn : Nat} {Q : Int32 → VV → Prop} (he : p1.toInt = (e : Int)) (he2 : e < 2) (h2 : a2.toInt = (mn : Int)) (hq : qd + mn ≤ 40) (hq0 : (v 830 e).toInt = (qd : Int)) (ht : ∀ p, byt (v 863 p)) (hlen : 0 ≤ (v 816 48).toInt ∧ (v 816 48).toInt ≤ 64) (hmn : ((v 816 48).toInt = 0 ∧ mn = 1) ∨ (1 ≤ (v 816 48).toInt ∧ (mn : Int) = ((v 816 48).toInt + 7) / 8)) (k : ∀ w : VV, EN v w e qd mn → w_X10_goOn p1 (up2 w 816 48 0) (fun (v2 : VV) => vp_in p1 2 ∧ ∀ x210 : Int32, x210 = v2 830 (Int32.toNatClampNeg p1) → Q x210 v2)) : ∀ (m kk : Nat) (a3 : Int32) (w : VV), EN v w e qd kk → a3.toInt = (kk : Int) → kk ≤ mn → mn < m + kk → b_X10_send_62 p1 Q m p1 a2 a3 w := by
  have l1 : Int32.toInt 1 = 1 := by decide
  have l8 : Int32.toInt 8 = 8 := by decide
  have l40 : Int32.toInt 40 = 40 := by decide
  have t1 := tn_of (x := p1) (by omega)
  have u1 : p1.toNatClampNeg = e := by omega
  intro m
  induction m with
  | zero => intro kk a3 w g1 g2 g3 g4; exfalso; omega
  | succ m ih =>
    intro kk a3 w g1 g2 g3 g4
    refine ⟨fun q => ?_, fun q => ?_⟩
    · have q := i_le q
      have ek : kk = mn := by omega
      subst ek
      intro v1 hv1
      rw [hv1]
      exact k w g1
    · have q := i_nle q
      obtain ⟨E1, ⟨x, hx1, hx2⟩, E3, E4, E5⟩ := g1
      intro x70 e70
      have i70 := i_mul e70 (by rw [l40]; omega) (by rw [l40]; omega)
      rw [l40] at i70
      refine ⟨in_of (by omega) (by omega), ?_⟩
      intro x76 e76 x77 e77 x81 e81 x87 e87 x88 e88
      rw [u1, hx2, upd_s] at e76
      have i76 := i_eq e76
      have i77 := i_add e77 (by omega) (by omega)
      rw [E1 816 (by decide) (by decide) (by decide) (by decide)] at e81
      have i81 := i_eq e81
      have i87 := i_mul e87 (by rw [l8]; omega) (by rw [l8]; omega)
      rw [l8] at i87
      have i88 := i_sub e88 (by omega) (by omega)
      have t77 := tn_of (x := x77) (by omega)
      have u77 : x77.toNatClampNeg = 40 * e + (qd + kk) := by omega
      have fin : ∀ s0 : Int32, 0 ≤ s0.toInt → s0.toInt ≤ 8 → 8 * (kk : Int) + s0.toInt ≤ 64 → b_X10_send_108 p1 Q (fun b1 b2 b3 w3 => b_X10_send_62 p1 Q m b1 b2 b3 w3) p1 a2 a3 x77 s0 w := by
        intro s0 hs0 hs8 hs64
        unfold b_X10_send_108
        refine ⟨in_of (by omega) (by omega), ?_⟩
        intro v1 hv1 x127 e127
        rw [u77] at hv1
        have f2 : ∀ t0 : Int32, b_X10_send_137 p1 Q (fun b1 b2 b3 w3 => b_X10_send_62 p1 Q m b1 b2 b3 w3) p1 a2 a3 x77 s0 t0 x77 v1 := by
          intro t0
          unfold b_X10_send_137
          refine ⟨in_of (by omega) (by omega), ?_⟩
          intro w2 hw2
          refine ⟨20, sl_141 (v := v) (qd := qd) (kk := kk) (sz := s0.toInt.toNat) he he2 g2 (by omega) (by omega) (by omega) (by omega) ht (by omega) (fun w3 x3 h3 hx3 => ih (kk + 1) x3 w3 h3 (by omega) (by omega) (by omega)) 20 0 0 w2 (fun a n1 n2 n3 n4 => by rw [hw2, up2_of _ _ _ _ n3, hv1, up2_of _ _ _ _ n2]; exact E1 a n1 n2 n3 n4) ⟨x, hx1, by rw [hw2, up2_of _ _ _ _ (by decide), hv1, up2_of _ _ _ _ (by decide)]; exact hx2⟩ (fun p hp => ?_) (fun i h1 h2 => ?_) (fun p => by rw [hw2, up2_of _ _ _ _ (by decide), hv1, up2_of _ _ _ _ (by decide)]; exact E5 p) (by decide) (by omega) (by omega)⟩
          · rw [hw2, up2_of _ _ _ _ (by decide), hv1, up2_k _ _ _ _ (by omega)]
            exact E3 p (by omega)
          · rw [hw2, up2_of _ _ _ _ (by decide), hv1]
            by_cases ei : i = qd + kk
            · rw [ei, up2_s]; exact ⟨hs0, hs8⟩
            · rw [up2_k _ _ _ _ (by omega)]; exact E4 i h1 (by omega)
        exact ⟨fun _ => f2 0, fun _ => f2 1⟩
      refine ⟨fun q2 => fin 8 (by decide) (by decide) (by have := i_le q2; omega), fun q2 => ?_⟩
      have q2 := i_nle q2
      intro x95 e95 x101 e101 x102 e102
      rw [E1 816 (by decide) (by decide) (by decide) (by decide)] at e95
      have i95 := i_eq e95
      have i101 := i_mul e101 (by rw [l8]; omega) (by rw [l8]; omega)
      rw [l8] at i101
      have i102 := i_sub e102 (by omega) (by omega)
      exact fin x102 (by omega) (by omega) (by omega)
theorem s_X10_send {C : Int} {n p1 : Int32} {Q : Int32 → VV → Prop} (h : IA C n v) (hC : C + 1 ≤ 512) (k : ∀ (x : Int32) (w : VV), IA (C + 1) n w ∧ (∀ a, a < 816 → w a = v a) → Q x w) : w_X10_send p1 v Q := by
  have hn := h.n
  have still := h.still hC
  have kl : ∀ x, Q x v := fun x => k x v ⟨still, fun _ _ => rfl⟩
  obtain ⟨g, c, e0, e1, e2, h1, h2, h3⟩ := h
  unfold w_X10_send
  refine s_isEnd (fun e f hef he => ?_) ⟨fun q => absurd rfl q, fun _ => kl _⟩
  refine ⟨fun _ => ?_, fun q => absurd q (by decide)⟩
  have t1 := tn_of (x := p1) (by omega)
  have u1 : p1.toNatClampNeg = e := by omega
  have l0 : Int32.toInt 0 = 0 := by decide
  have l7 : Int32.toInt 7 = 7 := by decide
  have l8 : Int32.toInt 8 = 8 := by decide
  have l40 : Int32.toInt 40 = 40 := by decide
  have hlen := h1.1.1.2.1
  have hq := (h1.2.1 e f hef).1.1
  have hLL := h1.2.2.2.2.2.2.2.2.2.1
  have ht : ∀ p, byt (v 863 p) := fun p => (h1.1.2.1 p).2.2.2.1
  have go : ∀ s0 : Int32, (((v 816 48).toInt = 0 ∧ s0.toInt = 1) ∨ (1 ≤ (v 816 48).toInt ∧ s0.toInt = ((v 816 48).toInt + 7) / 8)) → b_X10_send_43 p1 Q p1 s0 v := by
    intro s0 hs0
    unfold b_X10_send_43
    refine ⟨in_of (by omega) (by omega), ?_⟩
    intro x49 e49 x51 e51
    rw [u1] at e49
    have i49 := i_eq e49
    have i51 := i_add e51 (by omega) (by omega)
    refine ⟨fun q => ?_, fun _ => kl _⟩
    have q := i_le q
    refine ⟨20, sl_62 (v := v) (e := e) (qd := (v 830 e).toInt.toNat) (mn := s0.toInt.toNat) he (by omega) (by omega) (by omega) (by omega) ht hlen (by omega) (fun w hw => ?_) 20 0 0 v ⟨fun _ _ _ _ _ => rfl, ⟨v 830 e, by omega, by rw [upd_id]⟩, fun _ _ => rfl, fun i h1 h2 => absurd h2 (by omega), fun p => (h1.1.2.1 p).2.1⟩ (by decide) (by omega) (by omega)⟩
    obtain ⟨E1, ⟨x, hx1, hx2⟩, E3, E4, E5⟩ := hw
    have hI := h1.enq (z := up2 w 816 48 0) (x := x) (lx := 0) (L' := C + 1) hef (by omega) (by decide) (fun a n1 n2 n3 n4 n5 => by rw [up2_of _ _ _ _ n1]; exact E1 a n2 n3 n4 n5) (fun q hq => by rw [up2_k _ _ _ _ hq, E1 816 (by decide) (by decide) (by decide) (by decide)]) (up2_s _ _ _ _) (by rw [up2_of _ _ _ _ (by decide)]; exact hx2) (fun p hp => by rw [up2_of _ _ _ _ (by decide)]; exact E3 p (by omega)) (fun i h1 h2 => by rw [up2_of _ _ _ _ (by decide)]; exact E4 i (by omega) (by omega)) (fun p => by rw [up2_of _ _ _ _ (by decide)]; exact E5 p) ⟨by omega, hC⟩
    have hF : Fx c c v (up2 w 816 48 0) := by
      refine Fx.put0 ?_ (by decide)
      have w816 := E1 816 (by decide) (by decide) (by decide) (by decide)
      exact ⟨⟨by rw [w816], by rw [w816], by rw [w816], E1 _ (by decide) (by decide) (by decide) (by decide), E1 _ (by decide) (by decide) (by decide) (by decide)⟩, by rw [w816]; exact Int.le_refl _, fun _ _ => rfl, fun _ _ => ⟨rfl, rfl⟩, fun a ha => E1 a (by omega) (by omega) (by omega) (by omega)⟩
    refine s_goOn ⟨g, c, hI, hF⟩ (by decide) he hef (fun v2 hv2 => ?_)
    refine ⟨in_of (by omega) (by omega), ?_⟩
    intro x210 e210
    exact k x210 v2 (IA.of hv2 (by omega) (by omega) ⟨h3, hC⟩ h2 hn)
  refine ⟨in_of (by omega) (by omega), ?_⟩
  intro x14 e14
  refine ⟨fun _ => ?_, fun _ => kl _⟩
  intro x23 e23
  have i23 := i_eq e23
  refine ⟨fun q => ?_, fun q => go 1 (Or.inl ⟨by have := i_eq q; omega, by decide⟩)⟩
  have q := i_ne q
  intro x34 e34 x39 e39 x42 e42
  have i34 := i_eq e34
  have i39 := i_add e39 (by omega) (by omega)
  have i42 := i_div e42 (by omega) (by decide)
  rw [l8] at i42
  exact go x42 (Or.inr ⟨by omega, by omega⟩)
/-- one more urgent byte -/
theorem Im.enu {e f : Nat} {x : Int32} {L' : Int} (h : Im g c d0 d1 d2 L M κ om v) (hef : EF e f) (hx : x.toInt = (v 841 e).toInt + 1) (h8 : (v 841 e).toInt < 8) (hL : L + 1 ≤ L' ∧ L' ≤ 512) : Im g c d0 d1 d2 L' M κ om (up2 v 841 e x) := by
  have h' := h
  obtain ⟨⟨a1, a2, a3, a4⟩, hE, hF, hN0⟩ := h
  obtain ⟨sE, rE, cE, tE, uE⟩ := hE e f hef
  have hfe : EF f e := by omega
  obtain ⟨sF, rF, cF, tF, uF⟩ := hE f e hfe
  obtain ⟨s1, s2, s3, s4, s5, s6, s7, s8, s9, s10⟩ := sE
  have R : ∀ a, a ≠ 841 → up2 v 841 e x a = v a := fun a ha => up2_of _ _ _ _ ha
  have bke : bnk (up2 v 841 e x) e = bnk v e + 1 := by
    unfold bnk
    rw [R 830 (by decide), R 831 (by decide), up2_s, R 844 (by decide)]
    omega
  have bkf : bnk (up2 v 841 e x) f = bnk v f := by
    unfold bnk
    rw [R 830 (by decide), R 831 (by decide), up2_k _ _ _ _ (by omega), R 844 (by decide)]
  have bk2 : bnk (up2 v 841 e x) 0 + bnk (up2 v 841 e x) 1 = bnk v 0 + bnk v 1 + 1 := by
    rcases hef with ⟨rfl, rfl⟩ | ⟨rfl, rfl⟩ <;> omega
  refine h'.side hef (fun a _ n2 => R a (fun q => by rw [q] at n2; cases n2)) (fun k _ => by rw [R 816 (by decide)]) (by rw [R 816 (by decide)]; exact a1.2.1) (a2.cg (R _ (by decide)) (R _ (by decide)) (R _ (by decide)) (R _ (by decide)) (R _ (by decide)) (R _ (by decide))) (fun k => ⟨by rw [R _ (by decide)], by rw [R _ (by decide)], by rw [R _ (by decide)], by rw [R _ (by decide)], by rw [R _ (by decide)], up2_k _ _ _ _ (by omega), by rw [R _ (by decide)], by rw [R _ (by decide)], fun _ => ⟨by rw [R _ (by decide)], by rw [R _ (by decide)]⟩⟩) (fun j _ _ _ _ => rfl) ⟨Int.le_refl _, Int.le_refl _⟩ (fun _ => ⟨rfl, rfl⟩) ?_ (tF.gg (by rw [R 816 (by decide)]) (R _ (by decide)) (R _ (by decide)) rfl rfl rfl rfl rfl (Int.le_refl _)) (uF.gg (by rw [R 816 (by decide)]) (R _ (by decide)) (R _ (by decide)) rfl rfl rfl rfl rfl (Int.le_refl _)) ⟨fun a ha => rfl, Int.le_refl _⟩ ?_
  · unfold iS
    rw [up2_s, hx, R 830 (by decide), R 831 (by decide), R 832 (by decide), R 834 (by decide), R 838 (by decide), R 839 (by decide), R 840 (by decide), R 843 (by decide), R 844 (by decide)]
    exact ⟨s1, s2, s3, s4, s5, by omega, s7, s8, s9, fun q => by omega⟩
  · obtain ⟨n1, n2, n3, n4, n5, n6, n7, n8⟩ := hN0
    unfold iN
    rw [R 816 (by decide)]
    exact ⟨n1, n2, n3, n4, n5, n6, by omega, n8⟩
theorem s_X10_urge {C : Int} {n p1 p2 : Int32} {Q : Int32 → VV → Prop} (h : IA C n v) (hC : C + 1 ≤ 512) (k : ∀ (x : Int32) (w : VV), IA (C + 1) n w ∧ (∀ a, a < 816 → w a = v a) → Q x w) : w_X10_urge p1 p2 v Q := by
  have hn := h.n
  have still := h.still hC
  have kl : ∀ x, Q x v := fun x => k x v ⟨still, fun _ _ => rfl⟩
  obtain ⟨g, c, e0, e1, e2, h1, h2, h3⟩ := h
  unfold w_X10_urge b_X10_urge_18
  refine s_isEnd (fun e f hef he => ?_) ⟨fun _ => kl _, fun q => absurd rfl q⟩
  refine ⟨fun q => absurd q (by decide), fun _ => ⟨fun _ => kl _, fun q => ⟨fun q2 => ?_, fun _ => kl _⟩⟩⟩
  have t1 := tn_of (x := p1) (by omega)
  have u1 : p1.toNatClampNeg = e := by omega
  have l0 : Int32.toInt 0 = 0 := by decide
  have l1 : Int32.toInt 1 = 1 := by decide
  have l8 : Int32.toInt 8 = 8 := by decide
  have l255 : Int32.toInt 255 = 255 := by decide
  have q := i_nlt q
  have q2 := i_le q2
  have hug := (h1.2.1 e f hef).1.2.2.2.2.2.1
  refine ⟨in_of (by omega) (by omega), ?_⟩
  intro x25 e25
  refine ⟨fun _ => ⟨in_of (by omega) (by omega), ?_⟩, fun _ => kl _⟩
  intro x38 e38
  rw [u1] at e38
  have i38 := i_eq e38
  refine ⟨fun q3 => ?_, fun _ => kl _⟩
  have q3 := i_ne q3
  intro x54 e54
  have i54 := i_mul e54 (by rw [l8]; omega) (by rw [l8]; omega)
  rw [l8] at i54
  refine ⟨in_of (by omega) (by omega), ?_⟩
  intro x60 e60 x61 e61
  rw [u1] at e60
  have i60 := i_eq e60
  have i61 := i_add e61 (by omega) (by omega)
  refine ⟨in_of (by omega) (by omega), ?_⟩
  intro v5 h5
  refine ⟨in_of (by omega) (by omega), ?_⟩
  intro x70 e70 x72 e72
  rw [u1, h5, up2_o _ _ _ _ _ (by decide)] at e70
  have i70 := i_eq e70
  have i72 := i_add e72 (by omega) (by omega)
  refine ⟨in_of (by omega) (by omega), ?_⟩
  intro v8 h8
  have I5 : Im g c e0 e1 e2 C (12 * C + 2 * n.toInt) 12 8 v5 := by rw [h5]; exact h1.put rfl (fun q => by cases q) (fun _ => ⟨by omega, by omega⟩)
  have z5 : v5 841 = v 841 := by rw [h5, up2_of _ _ _ _ (by decide)]
  have I8 : Im g c e0 e1 e2 (C + 1) (12 * C + 2 * n.toInt) 12 8 v8 := by rw [h8, u1]; exact I5.enu hef (by rw [z5]; omega) (by rw [z5]; omega) ⟨Int.le_refl _, hC⟩
  refine s_goOn (cz := c) (vz := v) ⟨g, c, I8, ?_⟩ (by decide) he hef (fun v2 hv2 => ?_)
  · rw [h8, h5]; exact (Fx.rf.put (by decide)).put (by decide)
  · refine ⟨in_of (by omega) (by omega), ?_⟩
    intro x84 e84
    exact k x84 v2 (IA.of hv2 (by omega) (by omega) ⟨h3, hC⟩ h2 hn)
theorem s_X10_fault {C : Int} {n p1 p2 p3 p4 : Int32} {Q : Int32 → VV → Prop} (h : IA C n v) (hC : C + 1 ≤ 512) (k : ∀ (x : Int32) (w : VV), IA (C + 1) n w ∧ (∀ a, a < 816 → w a = v a) → Q x w) : w_X10_fault p1 p2 p3 p4 v Q := by
  have hn := h.n
  have still := h.still hC
  have kl : ∀ x, Q x v := fun x => k x v ⟨still, fun _ _ => rfl⟩
  have l0 : Int32.toInt 0 = 0 := by decide
  have l1 : Int32.toInt 1 = 1 := by decide
  have l4 : Int32.toInt 4 = 4 := by decide
  have l60 : Int32.toInt 60 = 60 := by decide
  have l255 : Int32.toInt 255 = 255 := by decide
  have go : (p1.toInt = 4 → 0 ≤ p3.toInt ∧ 1 ≤ p4.toInt ∧ p4.toInt ≤ 255) → b_X10_fault_43 p1 p2 p3 p4 Q p1 p2 p3 p4 v := by
    intro hp
    obtain ⟨g, c, e0, e1, e2, h1, h2, h3⟩ := still
    obtain ⟨⟨a1, a2, a3, a4⟩, hE, hF, hN0⟩ := h1
    have hfl1 := a1.2.2.1
    have hfl2 := a1.2.2.2.1
    unfold b_X10_fault_43
    intro x44 e44
    have i44 := i_eq e44
    refine ⟨fun q => ?_, fun _ => kl _⟩
    have q := i_ne q
    intro x60 e60
    have i60 := i_eq e60
    have t60 := tn_of (x := x60) (by omega)
    refine ⟨in_of (by omega) (by omega), ?_⟩
    intro v1 hv1 x70 e70
    rw [hv1, up2_o _ _ _ _ _ (by decide), ← e60] at e70
    subst e70
    refine ⟨in_of (by omega) (by omega), ?_⟩
    intro v3 hv3 x80 e80
    rw [hv3, up2_o _ _ _ _ _ (by decide), hv1, up2_o _ _ _ _ _ (by decide), ← e60] at e80
    subst e80
    refine ⟨in_of (by omega) (by omega), ?_⟩
    intro v5 hv5 x90 e90
    rw [hv5, up2_o _ _ _ _ _ (by decide), hv3, up2_o _ _ _ _ _ (by decide), hv1, up2_o _ _ _ _ _ (by decide), ← e60] at e90
    subst e90
    refine ⟨in_of (by omega) (by omega), ?_⟩
    intro v7 hv7 x98 e98 x102 e102 w hw x107 e107
    rw [hv7, up2_o _ _ _ _ _ (by decide), hv5, up2_o _ _ _ _ _ (by decide), hv3, up2_o _ _ _ _ _ (by decide), hv1, up2_o _ _ _ _ _ (by decide), ← e60] at e98
    subst e98
    have i102 := i_add e102 (by omega) (by omega)
    have hv : w = up2 (up2 (up2 (up2 (up2 v 864 x98.toNatClampNeg p1) 865 x98.toNatClampNeg p2) 866 x98.toNatClampNeg p3) 867 x98.toNatClampNeg p4) 816 49 x102 := by rw [hw, hv7, hv5, hv3, hv1]
    have R : ∀ a, a ≠ 816 → a ≠ 864 → a ≠ 865 → a ≠ 866 → a ≠ 867 → w a = v a := fun a n1 n2 n3 n4 n5 => by rw [hv, up2_of _ _ _ _ n1, up2_of _ _ _ _ n5, up2_of _ _ _ _ n4, up2_of _ _ _ _ n3, up2_of _ _ _ _ n2]
    have R' : ∀ a, (a < 816 ∨ (816 < a ∧ a < 864) ∨ 867 < a) → w a = v a := fun a ha => R a (by omega) (by omega) (by omega) (by omega) (by omega)
    have K : ∀ q, q ≠ 49 → w 816 q = v 816 q := fun q hq => by rw [hv, up2_k _ _ _ _ hq, up2_o _ _ _ _ _ (by decide), up2_o _ _ _ _ _ (by decide), up2_o _ _ _ _ _ (by decide), up2_o _ _ _ _ _ (by decide)]
    have K49 : w 816 49 = x102 := by rw [hv, up2_s]
    have R864 : w 864 = upd (v 864) x98.toNatClampNeg p1 := by rw [hv, up2_of _ _ _ _ (by decide), up2_of _ _ _ _ (by decide), up2_of _ _ _ _ (by decide), up2_of _ _ _ _ (by decide), up2_f]
    have R866 : w 866 = upd (v 866) x98.toNatClampNeg p3 := by rw [hv, up2_of _ _ _ _ (by decide), up2_of _ _ _ _ (by decide), up2_f, up2_of _ _ _ _ (by decide), up2_of _ _ _ _ (by decide)]
    have R867 : w 867 = upd (v 867) x98.toNatClampNeg p4 := by rw [hv, up2_of _ _ _ _ (by decide), up2_f, up2_of _ _ _ _ (by decide), up2_of _ _ _ _ (by decide), up2_of _ _ _ _ (by decide)]
    have e0' := K 0 (by decide)
    refine k x107 w ⟨⟨g, c, e0, e1, e2, ⟨⟨?_, a2.cg (R' _ (by decide)) (R' _ (by decide)) (R' _ (by decide)) (R' _ (by decide)) (R' _ (by decide)) (R' _ (by decide)), ?_, a4⟩, ?_, fun u hu1 hu2 => ?_, ?_⟩, e0'.trans h2, h3⟩, fun a ha => R' a (by omega)⟩
    · unfold iSc; rw [e0', K 48 (by decide), K49, R' 869 (by decide)]; exact ⟨a1.1, a1.2.1, by omega, by omega, a1.2.2.2.2⟩
    · intro i hi hk
      rw [K49] at hi
      rw [R864] at hk
      rw [R866, R867]
      by_cases ei : i = x98.toNatClampNeg
      · rw [ei, upd_s] at hk
        rw [ei, upd_s, upd_s]
        exact hp hk
      · rw [upd_n ei] at hk
        rw [upd_n ei, upd_n ei]
        exact a3 i (by omega) hk
    · intro p q hpq
      obtain ⟨b1, b2, b3, b4, b5⟩ := hE p q hpq
      exact ⟨b1.cg (R' _ (by decide)) (R' _ (by decide)) (R' _ (by decide)) (R' _ (by decide)) (R' _ (by decide)) (R' _ (by decide)) (R' _ (by decide)) (R' _ (by decide)) (R' _ (by decide)) (R' _ (by decide)), b2.cg e0' (R' _ (by decide)) (R' _ (by decide)) (R' _ (by decide)) (R' _ (by decide)) (R' _ (by decide)) (R' _ (by decide)) (R' _ (by decide)) (R' _ (by decide)) (R' _ (by decide)) (R' _ (by decide)) (R' _ (by decide)), b3.cg e0' (R' _ (by decide)) (R' _ (by decide)) (R' _ (by decide)) (R' _ (by decide)) (R' _ (by decide)) (R' _ (by decide)) (R' _ (by decide)) (R' _ (by decide)), b4.cg e0' (R' _ (by decide)) (R' _ (by decide)) rfl, b5.cg e0' (R' _ (by decide)) (R' _ (by decide)) rfl⟩
    · rw [K 55 (by decide)] at hu1
      rw [K 54 (by decide)] at hu2
      exact (hF u hu1 hu2).cg (R' _ (by decide)) (R' _ (by decide)) (R' _ (by decide)) (R' _ (by decide)) (R' _ (by decide)) (R' _ (by decide)) (R' _ (by decide))
    · unfold iN
      rw [e0', K 48 (by decide), K 54 (by decide), K 55 (by decide), bnk.cg (R' _ (by decide)) (R' _ (by decide)) (R' _ (by decide)) (R' _ (by decide)), bnk.cg (R' _ (by decide)) (R' _ (by decide)) (R' _ (by decide)) (R' _ (by decide))]
      exact hN0
  unfold w_X10_fault b_X10_fault_41
  refine ⟨fun _ => kl _, fun _ => ⟨fun _ => kl _, fun _ => ?_⟩⟩
  intro x12 e12
  refine ⟨fun _ => kl _, fun _ => ⟨fun q => go (fun q2 => absurd (i_of (by rw [q2, l4])) q), fun _ => ⟨fun _ => kl _, fun q3 => ⟨fun _ => kl _, fun q4 => ⟨fun q5 => go (fun _ => ?_), fun _ => kl _⟩⟩⟩⟩⟩
  have q3 := i_nlt q3
  have q4 := i_nlt q4
  have q5 := i_le q5
  omega
end IM
