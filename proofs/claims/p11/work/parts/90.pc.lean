/-! pieces and urgent bytes on their way; what waits -/
def PF (r : Nat → Int32) (code to num : Int) : Prop := (r 0).toInt = 8 ∧ (r 1).toInt = code ∧ (r 2).toInt = to / 256 ∧ (r 3).toInt = to % 256 ∧ (r 4).toInt = num ∧ r 7 = 0 ∧ r 8 = 0 ∧ ∀ j, byt (r j)
theorem PF.more {r : Nat → Int32} {code to num : Int} {i : Nat} {b : Int32} (h : PF r code to num) (hi : 9 ≤ i) (hb : byt b) : PF (upd r i b) code to num := by
  obtain ⟨h0, h1, h2, h3, h4, h7, h8, hr⟩ := h
  exact ⟨by rw [upd_n (by omega)]; exact h0, by rw [upd_n (by omega)]; exact h1, by rw [upd_n (by omega)]; exact h2, by rw [upd_n (by omega)]; exact h3, by rw [upd_n (by omega)]; exact h4, by rw [upd_n (by omega)]; exact h7, by rw [upd_n (by omega)]; exact h8, byt_upd hr hb⟩
theorem PF.chk {r : Nat → Int32} {n : Int32} {z : Nat} {code to num : Int} {X Y : Int32} (h : PF r code to num) (hn : n.toInt = (z : Int)) (hX : byt X) (hY : byt Y) (hs : sumL (upd (upd r 7 X) 8 Y) z % 255 = 0) : Ct (upd (upd r 7 X) 8 Y) n z 8 code to ∧ (upd (upd r 7 X) 8 Y 4).toInt = num := by
  obtain ⟨h0, h1, h2, h3, h4, h7, h8, hr⟩ := h
  refine ⟨⟨hn, ?_, ?_, ?_, ?_, byt_upd (byt_upd hr hX) hY, hs⟩, ?_⟩ <;> rw [upd_n (by decide), upd_n (by decide)] <;> assumption
theorem PF.mk {r0 : Nat → Int32} {code h l num z : Int32} {to : Int} (hr : ∀ j, byt (r0 j)) (hc : byt code) (hh : h.toInt = to / 256) (hl : l.toInt = to % 256) (ht : 0 ≤ to ∧ to ≤ 65535) (hn : byt num) (hz : z.toInt = ((5 : Nat) : Int) + 3) : PF (ehR (upd (upd (upd (upd r0 1 code) 2 h) 3 l) 4 num) 5 z) code.toInt to num.toInt := by
  have hr2 : ∀ j, byt (upd (upd (upd (upd r0 1 code) 2 h) 3 l) 4 num j) := byt_upd (byt_upd (byt_upd (byt_upd hr hc) (by omega)) (by omega)) hn
  refine ⟨?_, ?_, ?_, ?_, ?_, ?_, ?_, byt_upd (byt_upd (byt_upd (byt_upd (byt_upd hr2 (by decide)) (by decide)) (by decide)) (by decide)) (by omega)⟩
  · rw [ehR, upd_s]; omega
  · simp [ehR, upd]
  · simp [ehR, upd]; omega
  · simp [ehR, upd]; omega
  · simp [ehR, upd]
  · simp [ehR, upd]
  · simp [ehR, upd]
theorem sl_sendPiece {v : VV} {p1 p2 a3 : Int32} {at_ sz : Nat} {to num : Int} {Q : VV → Prop} (he : 0 ≤ p1.toInt ∧ p1.toInt ≤ 1) (ha : a3.toInt = (at_ : Int)) (ha2 : at_ < 80) (hb : ∀ j, byt (v 837 j)) (hs : 0 ≤ (v 816 54).toInt) (hsz : (v 832 at_).toInt = (sz : Int)) (hsz8 : sz ≤ 8) (k : ∀ (v1 : VV) (r : Nat → Int32) (n a b : Int32), Snt v v1 r n p1 → Ct r n (9 + sz) 8 240 to → (r 4).toInt = num → Q (up2 (up2 v1 835 at_ a) 836 at_ b)) : ∀ (m j : Nat) (a4 n : Int32) (r : Nat → Int32), sz < m + j → j ≤ sz → a4.toInt = (j : Int) → n.toInt = ((9 + j : Nat) : Int) → PF r 240 to num → b_X10_sendPiece_54 p1 p2 Q m p1 p2 a3 a4 (Mw v r n) := by
  have l1 : Int32.toInt 1 = 1 := by decide
  have l8 : Int32.toInt 8 = 8 := by decide
  have t3 := tn_of (x := a3) (by omega)
  have u3 : a3.toNatClampNeg = at_ := by omega
  intro m
  induction m with
  | zero => intro j a4 n r hm hj e4 en hp; exfalso; omega
  | succ m ih =>
    intro j a4 n r hm hj e4 en hp
    refine ⟨in_of (by omega) (by omega), ?_⟩
    intro x61 e61
    rw [u3, Mw_o (by decide) (by decide)] at e61
    have i61 := i_eq e61
    refine ⟨fun c => ?_, fun c => ?_⟩
    · have c := i_le c
      have ej : j = sz := by omega
      subst ej
      refine s_check (h := 8) en (by omega) hp.1 (by decide) (by omega) hp.2.2.2.2.2.2.2 hp.2.2.2.2.2.1 hp.2.2.2.2.2.2.1 (fun X Y hX hY hsum => ?_)
      refine s_sendMade he en (by omega) hs (fun v1 hv => ?_)
      refine ⟨in_of (by omega) (by omega), ?_⟩
      intro x102 e102 x104 e104
      refine ⟨in_of (by omega) (by omega), ?_⟩
      intro v5 h5 x112 e112
      refine ⟨in_of (by omega) (by omega), ?_⟩
      intro v7 h7
      rw [h7, h5, u3]
      have hc := hp.chk en hX hY hsum
      exact k v1 _ n x104 x112 hv hc.1 hc.2
    · have c := i_nle c
      intro x73 e73 x76 e76
      have i73 := i_mul e73 (by rw [l8]; omega) (by rw [l8]; omega)
      rw [l8] at i73
      have i76 := i_add e76 (by omega) (by omega)
      refine ⟨in_of (by omega) (by omega), ?_⟩
      intro x77 e77
      rw [Mw_o (by decide) (by decide)] at e77
      have b77 := hb (Int32.toNatClampNeg x76)
      rw [← e77] at b77
      refine s_push en (by omega) (fun n2 hn2 => ?_)
      intro x81 e81
      have i81 := i_add e81 (by omega) (by omega)
      exact ih (j + 1) x81 n2 _ (by omega) (by omega) (by omega) (by omega) (hp.more (by omega) b77)
theorem s_sendPiece {v : VV} {p1 p2 : Int32} {e kk sz : Nat} {Q : VV → Prop} (he : p1.toInt = (e : Int)) (he2 : e < 2) (hk : p2.toInt = (kk : Int)) (hk2 : kk < 40) (hB : iBy v) (hs : 0 ≤ (v 816 54).toInt) (hsz : (v 832 (40 * e + kk)).toInt = (sz : Int)) (hsz8 : sz ≤ 8) (hp : 0 ≤ (v 819 e).toInt ∧ (v 819 e).toInt ≤ 65535) (hn : 0 ≤ (v 834 (40 * e + kk)).toInt ∧ (v 834 (40 * e + kk)).toInt ≤ 127) (k : ∀ (v1 : VV) (r : Nat → Int32) (n a b : Int32) (l : Int), Snt v v1 r n p1 → Ct r n (9 + sz) 8 240 (v 819 e).toInt → (l = 0 ∨ l = 128) → (r 4).toInt = (v 834 (40 * e + kk)).toInt + l → Q (up2 (up2 v1 835 (40 * e + kk) a) 836 (40 * e + kk) b)) : w_X10_sendPiece p1 p2 v Q := by
  have l40 : Int32.toInt 40 = 40 := by decide
  have l0 : Int32.toInt 0 = 0 := by decide
  have l128 : Int32.toInt 128 = 128 := by decide
  have t1 := tn_of (x := p1) (by omega)
  have u1 : p1.toNatClampNeg = e := by omega
  unfold w_X10_sendPiece
  intro x3 e3 x5 e5
  have i3 := i_mul e3 (by rw [l40]; omega) (by rw [l40]; omega)
  rw [l40] at i3
  have i5 := i_add e5 (by omega) (by omega)
  have t5 := tn_of (x := x5) (by omega)
  have u5 : x5.toNatClampNeg = 40 * e + kk := by omega
  refine ⟨in_of (by omega) (by omega), ?_⟩
  intro x16 e16
  rw [u1] at e16
  have i16 := i_eq e16
  rw [← Mw_id (v := v)]
  refine s_begin (by omega) (fun m h l hm hh hl => ?_)
  refine ⟨in_of (by omega) (by omega), ?_⟩
  intro x26 e26
  rw [u5, Mw_o (by decide) (by decide)] at e26
  have i26 := i_eq e26
  refine ⟨in_of (by omega) (by omega), ?_⟩
  intro x32 e32
  have fin : ∀ s0 : Int32, s0 = 0 ∨ s0 = 128 → b_X10_sendPiece_43 p1 p2 Q p1 p2 x5 s0 x26 (Mw v (upd (upd (upd (v 873) 1 240) 2 h) 3 l) m) := by
    intro s0 hs0
    have is0 : s0.toInt = 0 ∨ s0.toInt = 128 := by
      rcases hs0 with q | q
      · exact Or.inl (by rw [q, l0])
      · exact Or.inr (by rw [q, l128])
    unfold b_X10_sendPiece_43
    intro x43 e43
    have i43 := i_add e43 (by omega) (by omega)
    refine s_push (i := 4) hm (by decide) (fun m5 h5 => ?_)
    refine s_endHead (i := 5) h5 (by decide) (fun m9 z h9 hz => ?_)
    refine ⟨30, sl_sendPiece (to := (v 819 e).toInt) (num := (v 834 (40 * e + kk)).toInt + s0.toInt) (by omega) (by omega) (by omega) (fun j => (hB j).2.1) hs hsz hsz8 (fun v1 r n a b q1 q2 q3 => k v1 r n a b s0.toInt q1 q2 is0 q3) 30 0 0 m9 _ (by omega) (by omega) (by decide) (by omega) ?_⟩
    have q := PF.mk (r0 := v 873) (code := 240) (num := x43) (to := (v 819 e).toInt) (fun j => (hB j).2.2.2.2.2) (by decide) (by rw [hh, i16]) (by rw [hl, i16]) hp (by omega) hz
    rw [show Int32.toInt 240 = 240 from by decide, show x43.toInt = (v 834 (40 * e + kk)).toInt + s0.toInt by omega] at q
    exact q
  exact ⟨fun _ => fin 0 (Or.inl rfl), fun _ => fin 128 (Or.inr rfl)⟩
theorem s_sendUrge {v : VV} {p1 : Int32} {e : Nat} {Q : VV → Prop} (he : p1.toInt = (e : Int)) (he2 : e < 2) (hB : iBy v) (hs : 0 ≤ (v 816 54).toInt) (hp : 0 ≤ (v 819 e).toInt ∧ (v 819 e).toInt ≤ 65535) (hn : 0 ≤ (v 843 e).toInt ∧ (v 843 e).toInt ≤ 127) (hT : 0 ≤ (v 844 e).toInt ∧ (v 844 e).toInt ≤ 4) (k : ∀ (v1 : VV) (r : Nat → Int32) (n a b : Int32), Snt v v1 r n p1 → Ct r n 10 8 16 (v 819 e).toInt → (r 4).toInt = (v 843 e).toInt → a.toInt = (v 844 e).toInt + 1 → Q (up2 (up2 v1 844 e a) 845 e b)) : w_X10_sendUrge p1 v Q := by
  have l1 : Int32.toInt 1 = 1 := by decide
  have l8 : Int32.toInt 8 = 8 := by decide
  have l0 : Int32.toInt 0 = 0 := by decide
  have t1 := tn_of (x := p1) (by omega)
  have u1 : p1.toNatClampNeg = e := by omega
  unfold w_X10_sendUrge
  refine ⟨in_of (by omega) (by omega), ?_⟩
  intro x8 e8
  rw [u1] at e8
  have i8 := i_eq e8
  rw [← Mw_id (v := v)]
  refine s_begin (by omega) (fun m h l hm hh hl => ?_)
  refine ⟨in_of (by omega) (by omega), ?_⟩
  intro x18 e18
  rw [u1, Mw_o (by decide) (by decide)] at e18
  have i18 := i_eq e18
  refine s_push (i := 4) hm (by decide) (fun m5 h5 => ?_)
  refine s_endHead (i := 5) h5 (by decide) (fun m9 z h9 hz => ?_)
  intro x34 e34
  have i34 := i_mul e34 (by rw [l8]; omega) (by rw [l8]; omega)
  rw [l8] at i34
  refine ⟨in_of (by omega) (by omega), ?_⟩
  intro x35 e35
  rw [Mw_o (by decide) (by decide)] at e35
  have b35 := (hB (Int32.toNatClampNeg x34)).2.2.1
  rw [← e35] at b35
  refine s_push (i := 9) h9 (by decide) (fun m10 h10 => ?_)
  have q := PF.mk (r0 := v 873) (code := 16) (num := x18) (to := (v 819 e).toInt) (fun j => (hB j).2.2.2.2.2) (by decide) (by rw [hh, i8]) (by rw [hl, i8]) hp (by omega) hz
  rw [show Int32.toInt 16 = 16 from by decide, i18] at q
  have q := q.more (i := 9) (b := x35) (by decide) b35
  refine s_check (i := 10) (h := 8) h10 (by decide) q.1 (by decide) (by decide) q.2.2.2.2.2.2.2 q.2.2.2.2.2.1 q.2.2.2.2.2.2.1 (fun X Y hX hY hsum => ?_)
  refine s_sendMade (by omega) h10 (by omega) hs (fun v1 hv => ?_)
  refine ⟨in_of (by omega) (by omega), ?_⟩
  intro x54 e54 x56 e56
  rw [u1, hv.1 844 (by decide) (by decide) (by decide) (by decide) (by decide) (by decide) (by decide)] at e54
  have i54 := i_eq e54
  have i56 := i_add e56 (by omega) (by omega)
  refine ⟨in_of (by omega) (by omega), ?_⟩
  intro v11 h11 x64 e64
  refine ⟨in_of (by omega) (by omega), ?_⟩
  intro v13 h13
  rw [h13, h11, u1]
  have hc := q.chk h10 hX hY hsum
  exact k v1 _ m10 x56 x64 hv hc.1 hc.2 (by omega)
/-- v with the made bytes laid by for e -/
def Wai (v : VV) (e : Nat) : VV := up1 (up2 (up2 (up2 v 825 e 1) 826 e (v 816 0)) 829 e (v 816 63)) 828 (cpR (v 828) (v 873) (20 * e) (v 816 63).toInt.toNat)
theorem sl_wait {v w : VV} {p1 : Int32} {e : Nat} {Q : VV → Prop} (he : p1.toInt = (e : Int)) (he2 : e < 2) (hm : 0 ≤ (v 816 63).toInt ∧ (v 816 63).toInt ≤ 20) (hw : w = up2 (up2 (up2 v 825 e 1) 826 e (v 816 0)) 829 e (v 816 63)) (k : Q (Wai v e)) : ∀ (m j : Nat) (a2 : Int32), (v 816 63).toInt < (m : Int) + (j : Int) → (j : Int) ≤ (v 816 63).toInt → a2.toInt = (j : Int) → b_X10_wait_29 p1 Q m p1 a2 (up1 w 828 (cpR (v 828) (v 873) (20 * e) j)) := by
  have l1 : Int32.toInt 1 = 1 := by decide
  have l20 : Int32.toInt 20 = 20 := by decide
  intro m
  induction m with
  | zero => intro j a2 h1 h2 e2; exfalso; omega
  | succ m ih =>
    intro j a2 h1 h2 e2
    have g63 : up1 w 828 (cpR (v 828) (v 873) (20 * e) j) 816 63 = v 816 63 := by
      rw [up1_of _ _ (by decide), hw, up2_o _ _ _ _ _ (by decide), up2_o _ _ _ _ _ (by decide), up2_o _ _ _ _ _ (by decide)]
    have g873 : up1 w 828 (cpR (v 828) (v 873) (20 * e) j) 873 = v 873 := by
      rw [up1_of _ _ (by decide), hw, up2_of _ _ _ _ (by decide), up2_of _ _ _ _ (by decide), up2_of _ _ _ _ (by decide)]
    intro x31 e31
    rw [g63] at e31
    have i31 := i_eq e31
    refine ⟨fun c => ?_, fun c => ?_⟩
    · have c := i_le c
      have ej : j = (v 816 63).toInt.toNat := by omega
      rw [ej, hw]
      exact k
    · have c := i_nle c
      intro x44 e44 x46 e46
      have i44 := i_mul e44 (by rw [l20]; omega) (by rw [l20]; omega)
      rw [l20] at i44
      have i46 := i_add e46 (by omega) (by omega)
      refine ⟨in_of (by omega) (by omega), ?_⟩
      intro x52 e52
      refine ⟨in_of (by omega) (by omega), ?_⟩
      intro v2 h2 x54 e54
      have i54 := i_add e54 (by omega) (by omega)
      have t2 := tn_of (x := a2) (by omega)
      have u2 : a2.toNatClampNeg = j := by omega
      have t46 := tn_of (x := x46) (by omega)
      have u46 : x46.toNatClampNeg = 20 * e + j := by omega
      rw [g873, u2] at e52
      have hv : v2 = up1 w 828 (cpR (v 828) (v 873) (20 * e) (j + 1)) := by
        rw [h2, u46, e52, ← cpR_s]
        funext a b
        simp only [up2, up1, upd]
        by_cases q1 : a = 828
        · by_cases q2 : b = 20 * e + j
          · simp [q1, q2]
          · simp [q1, q2]
        · simp [q1]
      rw [hv]
      exact ih (j + 1) x54 (by omega) (by omega) (by omega)
theorem s_wait {v : VV} {p1 : Int32} {e : Nat} {Q : VV → Prop} (he : p1.toInt = (e : Int)) (he2 : e < 2) (hm : 0 ≤ (v 816 63).toInt ∧ (v 816 63).toInt ≤ 20) (k : Q (Wai v e)) : w_X10_wait p1 v Q := by
  have t1 := tn_of (x := p1) (by omega)
  have u1 : p1.toNatClampNeg = e := by omega
  unfold w_X10_wait
  refine ⟨in_of (by omega) (by omega), ?_⟩
  intro v1 h1 x13 e13
  refine ⟨in_of (by omega) (by omega), ?_⟩
  intro v3 h3 x23 e23
  refine ⟨in_of (by omega) (by omega), ?_⟩
  intro v5 h5
  rw [u1] at h1 h3 h5
  rw [h1, up2_o _ _ _ _ _ (by decide)] at e13
  rw [h3, up2_o _ _ _ _ _ (by decide), h1, up2_o _ _ _ _ _ (by decide)] at e23
  have hv : v5 = up2 (up2 (up2 v 825 e 1) 826 e (v 816 0)) 829 e (v 816 63) := by rw [h5, h3, h1, e13, e23]
  have q := sl_wait (w := v5) (Q := Q) he he2 hm hv k 30 0 0 (by omega) (by omega) (by decide)
  rw [cpR_0] at q
  have e2 : up1 v5 828 (v 828) = v5 := by
    funext a b
    by_cases q : a = 828
    · rw [hv]; simp [q, up1, up2]
    · rw [up1_of _ _ q]
  rw [e2] at q
  exact ⟨30, q⟩
