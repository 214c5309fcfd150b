/-! take, urgent, and those that only tell -/
section IM
variable {g g' c c' : Nat → Int → Int} {d0 d1 d2 L M κ om : Int} {v v1 z : VV}
/-- j of the messages of e behind the first are moved down -/
def TS (u w : VV) (e j : Nat) : Prop := (∀ a, a ≠ 855 → a ≠ 856 → w a = u a) ∧ (∀ p, p < 64 * e ∨ 64 * e + j ≤ p → w 855 p = u 855 p ∧ w 856 p = u 856 p) ∧ (∀ i, i < j → w 855 (64 * e + i) = u 855 (64 * e + (i + 1)) ∧ w 856 (64 * e + i) = u 856 (64 * e + (i + 1)))
theorem Im.take {e f : Nat} {a b s : Int32} (h : Im g c d0 d1 d2 L M κ om v) (hef : EF e f) (hm : 0 < (v 854 e).toInt) (ha : a = v 855 (64 * e)) (hb : b.toInt = (v 858 e).toInt - a.toInt) (hs : s.toInt = (v 854 e).toInt - 1) (R : ∀ q, q ≠ 854 → q ≠ 855 → q ≠ 856 → q ≠ 857 → q ≠ 858 → q ≠ 859 → q ≠ 860 → z q = v q) (R854 : z 854 = upd (v 854) e s) (R858 : z 858 = upd (v 858) e b) (R859 : z 859 = upd (v 859) e a) (h1 : ∀ p, p < 64 * e ∨ 64 * e + ((v 854 e).toInt.toNat - 1) ≤ p → z 855 p = v 855 p ∧ z 856 p = v 856 p) (h2 : ∀ i, i < (v 854 e).toInt.toNat - 1 → z 855 (64 * e + i) = v 855 (64 * e + (i + 1)) ∧ z 856 (64 * e + i) = v 856 (64 * e + (i + 1))) : Im (gr g e (v 816 0).toInt (g e (v 816 0).toInt) (g (e + 2) (v 816 0).toInt) (g (4 + e) 0) (g (4 + (e + 2)) 0)) c d0 d1 d2 L M κ om z := by
  have h' := h
  obtain ⟨⟨a1, a2, a3, a4⟩, hE, hF, hN0⟩ := h
  obtain ⟨sE, rE, cE, tE, uE⟩ := hE e f hef
  obtain ⟨r1, r2, r3, r4, r5, r6, r7, r8, r9⟩ := rE
  have he2 : e < 2 := by omega
  have St1 := tE.1.2.2.2.1
  have St2 := uE.1.2.2.2.1
  have tl := tE.1.2.2.2.2.2
  have ul := uE.1.2.2.2.2.2
  have R' : ∀ q, (q < 854 ∨ 860 < q) → z q = v q := fun q hq => R q (by omega) (by omega) (by omega) (by omega) (by omega) (by omega) (by omega)
  obtain ⟨mm, hmm⟩ : ∃ mm : Nat, (v 854 e).toInt.toNat = mm + 1 := ⟨(v 854 e).toInt.toNat - 1, by omega⟩
  have hmm2 : (v 854 e).toInt.toNat - 1 = mm := by omega
  rw [hmm2] at h1 h2
  have S5 := sumL_shift (f := fun m => v 855 (64 * e + m)) mm
  have S6 := sumL_shift (f := fun m => v 856 (64 * e + m)) mm
  have r50 := r5 0 (by omega)
  rw [hmm] at r6 r7
  refine h'.rside hef (fun q n1 n2 => R q (fun k => by rw [k] at n2; cases n2) (fun k => by rw [k] at n2; cases n2) (fun k => by rw [k] at n2; cases n2) (fun k => by rw [k] at n1; cases n1) (fun k => by rw [k] at n2; cases n2) (fun k => by rw [k] at n2; cases n2) (fun k => by rw [k] at n1; cases n1)) (fun k _ => by rw [R' 816 (by decide)]) (a2.cg (R' _ (by decide)) (R' _ (by decide)) (R' _ (by decide)) (R' _ (by decide)) (R' _ (by decide)) (R' _ (by decide))) (fun k => ⟨by rw [R' _ (by decide)], by rw [R' _ (by decide)], by rw [R' _ (by decide)], by rw [R' _ (by decide)], by rw [R854, upd_n (by omega)], by rw [R858, upd_n (by omega)], by rw [R859, upd_n (by omega)], by rw [R' _ (by decide)], fun hk => by rw [R' _ (by decide)], fun hk => h1 _ (by omega)⟩) (Or.inr ⟨rfl, rfl⟩) ⟨Int.le_refl _, Int.le_refl _, by omega, by omega, fun q => (tl q).2, tE.2.2⟩ ⟨Int.le_refl _, Int.le_refl _, by omega, by omega, fun q => (ul q).2, uE.2.2⟩ ?_
  unfold iR
  rw [gr1 he2, gr2 he2, gr30 he2, R' 816 (by decide), upH_ge (Int.le_refl _), upH_ge (Int.le_refl _), R854, R858, R859, upd_s, upd_s, upd_s, R' 846 (by decide), R' 847 (by decide), R' 848 (by decide), R' 851 (by decide), R' 852 (by decide), R' 861 (by decide)]
  have es : s.toInt.toNat = mm := by omega
  rw [es]
  have x5 : sumL (fun m => z 855 (64 * e + m)) mm = sumL (fun i => v 855 (64 * e + (i + 1))) mm := sumL_ext _ (fun i hi => (h2 i hi).1)
  have x6 : sumL (fun m => z 856 (64 * e + m)) mm = sumL (fun i => v 856 (64 * e + (i + 1))) mm := sumL_ext _ (fun i hi => (h2 i hi).2)
  have z5 : a.toInt = (v 855 (64 * e + 0)).toInt := by rw [ha]; rfl
  have z6 : 1 ≤ (v 856 (64 * e + 0)).toInt := r50.1
  have z7 : a.toInt ≤ 4096 := by
    have q1 : a.toInt ≤ 8 * (v 856 (64 * e + 0)).toInt := by rw [z5]; exact r50.2.2.2
    have q2 := r50.2.1
    omega
  refine ⟨r1, r2, r3, by omega, fun m hm2 => ?_, by rw [x5]; omega, by rw [x6]; omega, z7, r9⟩
  rw [(h2 m (by omega)).1, (h2 m (by omega)).2]
  exact r5 (m + 1) (by omega)
theorem s_X10_take {C : Int} {n p1 : Int32} {Q : Int32 → VV → Prop} (h : IA C n v) (hC : C + 1 ≤ 512) (k : ∀ (x : Int32) (w : VV), IA (C + 1) n w ∧ (∀ a, a < 816 → w a = v a) → Q x w) : w_X10_take p1 v Q := by
  have hn := h.n
  have still := h.still hC
  have kl : ∀ x, Q x v := fun x => k x v ⟨still, fun _ _ => rfl⟩
  obtain ⟨g, c, e0, e1, e2, h1, h2, h3⟩ := h
  unfold w_X10_take
  refine s_isEnd (fun e f hef he => ?_) ⟨fun q => absurd rfl q, fun _ => kl _⟩
  refine ⟨fun _ => ?_, fun q => absurd q (by decide)⟩
  have t1 := tn_of (x := p1) (by omega)
  have u1 : p1.toNatClampNeg = e := by omega
  have l0 : Int32.toInt 0 = 0 := by decide
  have l1 : Int32.toInt 1 = 1 := by decide
  have l2 : Int32.toInt 2 = 2 := by decide
  have l64 : Int32.toInt 64 = 64 := by decide
  have l8192 : Int32.toInt 8192 = 8192 := by decide
  have l4096 : Int32.toInt 4096 = 4096 := by decide
  have tk := h1.tok
  have rE := (h1.2.1 e f hef).2.1
  obtain ⟨r1, r2, r3, r4, r5, r6, r7, r8, r9⟩ := rE
  have hP := h1.pay3 (by decide) hC
  have hz0 : Fx c (upG c 3 (upH (c 3) (v 816 0).toInt (c 3 (v 816 0).toInt + 1))) v v := Fx.rf.b (by decide)
  have s8 := sumL_8 (f := fun m => v 855 (64 * e + m)) (k := fun m => v 856 (64 * e + m)) (v 854 e).toInt.toNat (fun i hi => by have := r5 i (by omega); exact this.2.2)
  refine ⟨in_of (by omega) (by omega), ?_⟩
  intro x14 e14
  rw [u1] at e14
  have i14 := i_eq e14
  refine ⟨fun q => ?_, fun _ => kl _⟩
  have q := i_ne q
  have r50 := r5 0 (by omega)
  refine s_X10_credit p1 he hef (h1.2.1 e f hef).2.1 (fun x23 _ => ?_)
  have go : ∀ s0 : Int32, b_X10_take_34 p1 Q p1 s0 v := by
    intro s0
    unfold b_X10_take_34
    intro x42 e42
    have i42 := i_mul e42 (by rw [l64]; omega) (by rw [l64]; omega)
    rw [l64] at i42
    refine ⟨in_of (by omega) (by omega), ?_⟩
    intro x43 e43
    have t42 := tn_of (x := x42) (by omega)
    have u42 : x42.toNatClampNeg = 64 * e := by omega
    rw [u42] at e43
    have i43 : x43.toInt = (v 855 (64 * e + 0)).toInt := i_eq e43
    have b43 : 0 ≤ x43.toInt ∧ x43.toInt ≤ 4096 := by omega
    -- the end: messages are moved down
    have last : ∀ (u : VV), Im (gr g e (v 816 0).toInt (g e (v 816 0).toInt) (g (e + 2) (v 816 0).toInt) (g (4 + e) 0) (g (4 + (e + 2)) 0)) (upG c 3 (upH (c 3) (v 816 0).toInt (c 3 (v 816 0).toInt + 1))) (e0 + 1) e1 e2 (C + 1) (12 * C + 2 * n.toInt) 12 8 u → Fx c (upG c 3 (upH (c 3) (v 816 0).toInt (c 3 (v 816 0).toInt + 1))) v u → ∀ a4 : Int32, ((s0 = 0 → b_X10_take_227 p1 Q p1 s0 x43 a4 u) ∧ (¬ s0 = 0 → vp_in p1 2 ∧ ∀ x217 : Int32, x217 = u 817 (Int32.toNatClampNeg p1) → (¬ x217 = 2 → b_X10_take_227 p1 Q p1 s0 x43 a4 u) ∧ (x217 = 2 → w_X10_sendReceipt p1 u (fun (v3 : VV) => b_X10_take_227 p1 Q p1 s0 x43 a4 v3)))) := by
      intro u hu hzu a4
      unfold b_X10_take_227
      have ku : Q x43 u := k x43 u (IA.of ⟨_, _, hu, hzu⟩ (by omega) (by omega) ⟨h3, hC⟩ h2 hn)
      refine ⟨fun _ => ku, fun _ => ⟨in_of (by omega) (by omega), ?_⟩⟩
      intro x217 e217
      rw [u1] at e217
      have i217 := i_eq e217
      refine ⟨fun _ => ku, fun q2 => ?_⟩
      have q2 := i_eq q2
      exact s_sendReceipt ⟨_, _, hu, hzu⟩ (by decide) he hef (by omega) (by omega) (fun v3 hv3 => k x43 v3 (IA.of hv3 (by omega) (by omega) ⟨h3, hC⟩ h2 hn))
    have loop : ∀ (m j : Nat) (a4 : Int32) (w : VV), (∀ a, a ≠ 857 → a ≠ 860 → w a = v a) → a4.toInt = (j : Int) → (j : Int) ≤ (v 858 e).toInt → (v 858 e).toInt < (m : Int) + (j : Int) → b_X10_take_48 p1 Q m p1 s0 x43 a4 w := by
      intro m
      induction m with
      | zero => intro j a4 w g1 g2 g3 g4; exfalso; omega
      | succ m ih =>
        intro j a4 w g1 g2 g3 g4
        refine ⟨in_of (by omega) (by omega), ?_⟩
        intro x55 e55
        rw [u1, g1 858 (by decide) (by decide)] at e55
        have i55 := i_eq e55
        refine ⟨fun q2 => ⟨in_of (by omega) (by omega), ?_⟩, fun q2 => ?_⟩
        · intro v2 hv2
          refine ⟨in_of (by omega) (by omega), ?_⟩
          intro x134 e134 x136 e136
          rw [u1] at hv2
          rw [u1, hv2, up2_o _ _ _ _ _ (by decide), g1 858 (by decide) (by decide)] at e134
          have i134 := i_eq e134
          have i136 := i_sub e136 (by omega) (by omega)
          refine ⟨in_of (by omega) (by omega), ?_⟩
          intro v5 hv5
          rw [u1] at hv5
          refine ⟨in_of (by omega) (by omega), ?_⟩
          intro x144 e144 x146 e146
          rw [u1, hv5, up2_o _ _ _ _ _ (by decide), hv2, up2_o _ _ _ _ _ (by decide), g1 854 (by decide) (by decide)] at e144
          have i144 := i_eq e144
          have i146 := i_sub e146 (by omega) (by omega)
          refine ⟨in_of (by omega) (by omega), ?_⟩
          intro v8 hv8 x151 e151
          rw [u1] at hv8
          have i151 := i_mul e151 (by rw [l64]; omega) (by rw [l64]; omega)
          rw [l64] at i151
          have hv : v8 = up2 (up2 (up2 w 859 e x43) 858 e x136) 854 e x146 := by rw [hv8, hv5, hv2]
          have z854 : v8 854 e = x146 := by rw [hv8, up2_s]
          have loop2 : ∀ (m2 j2 : Nat) (b4 : Int32) (u : VV), TS v8 u e j2 → b4.toInt = 64 * (e : Int) + j2 → (j2 : Int) ≤ (v 854 e).toInt - 1 → (v 854 e).toInt - 1 < (m2 : Int) + (j2 : Int) → b_X10_take_154 p1 Q m2 p1 s0 x43 b4 u := by
            intro m2
            induction m2 with
            | zero => intro j2 b4 u k1 k2 k3 k4; exfalso; omega
            | succ m2 ih2 =>
              intro j2 b4 u k1 k2 k3 k4
              obtain ⟨T1, T2, T3⟩ := k1
              intro x159 e159
              have i159 := i_mul e159 (by rw [l64]; omega) (by rw [l64]; omega)
              rw [l64] at i159
              refine ⟨in_of (by omega) (by omega), ?_⟩
              intro x165 e165 x166 e166
              rw [u1, T1 854 (by decide) (by decide), z854] at e165
              have i165 := i_eq e165
              have i166 := i_add e166 (by omega) (by omega)
              refine ⟨fun q3 => ?_, fun q3 => ?_⟩
              · have q3 := i_le q3
                have ej : j2 = (v 854 e).toInt.toNat - 1 := by omega
                subst ej
                have w855 : v8 855 = v 855 := by rw [hv, up2_of _ _ _ _ (by decide), up2_of _ _ _ _ (by decide), up2_of _ _ _ _ (by decide), g1 _ (by decide) (by decide)]
                have w856 : v8 856 = v 856 := by rw [hv, up2_of _ _ _ _ (by decide), up2_of _ _ _ _ (by decide), up2_of _ _ _ _ (by decide), g1 _ (by decide) (by decide)]
                have RU : ∀ q, q ≠ 854 → q ≠ 855 → q ≠ 856 → q ≠ 857 → q ≠ 858 → q ≠ 859 → q ≠ 860 → u q = v q := fun q n1 n2 n3 n4 n5 n6 n7 => by rw [T1 q n2 n3, hv, up2_of _ _ _ _ n1, up2_of _ _ _ _ n5, up2_of _ _ _ _ n6, g1 q n4 n7]
                refine last u (hP.take (z := u) (a := x43) (b := x136) (s := x146) hef (by omega) e43 (by omega) (by omega) RU (by rw [T1 _ (by decide) (by decide), hv, up2_f, up2_of _ _ _ _ (by decide), up2_of _ _ _ _ (by decide), g1 _ (by decide) (by decide)]) (by rw [T1 _ (by decide) (by decide), hv, up2_of _ _ _ _ (by decide), up2_f, up2_of _ _ _ _ (by decide), g1 _ (by decide) (by decide)]) (by rw [T1 _ (by decide) (by decide), hv, up2_of _ _ _ _ (by decide), up2_of _ _ _ _ (by decide), up2_f, g1 _ (by decide) (by decide)]) (fun p hp => by rw [(T2 p hp).1, (T2 p hp).2, w855, w856]; exact ⟨rfl, rfl⟩) (fun i hi => by rw [(T3 i hi).1, (T3 i hi).2, w855, w856]; exact ⟨rfl, rfl⟩)) ?_ b4
                obtain ⟨⟨f1, f2, f3, f4, f5⟩, f6, f7, f8, f9⟩ := hz0
                have w816 : u 816 = v 816 := RU 816 (by decide) (by decide) (by decide) (by decide) (by decide) (by decide) (by decide)
                exact ⟨⟨by rw [w816], by rw [w816], by rw [w816], RU _ (by decide) (by decide) (by decide) (by decide) (by decide) (by decide) (by decide), RU _ (by decide) (by decide) (by decide) (by decide) (by decide) (by decide) (by decide)⟩, by rw [w816]; exact Int.le_refl _, f7, f8, fun a ha => RU a (by omega) (by omega) (by omega) (by omega) (by omega) (by omega) (by omega)⟩
              · have q3 := i_nle q3
                intro x183 e183
                have i183 := i_add e183 (by omega) (by omega)
                have t183 := tn_of (x := x183) (by omega)
                have u183 : x183.toNatClampNeg = 64 * e + (j2 + 1) := by omega
                have t4 := tn_of (x := b4) (by omega)
                have u4 : b4.toNatClampNeg = 64 * e + j2 := by omega
                refine ⟨in_of (by omega) (by omega), ?_⟩
                intro x184 e184
                rw [u183, (T2 _ (by omega)).1] at e184
                refine ⟨in_of (by omega) (by omega), ?_⟩
                intro y5 hy5 x199 e199
                rw [u4] at hy5
                have i199 := i_add e199 (by omega) (by omega)
                have t199 := tn_of (x := x199) (by omega)
                have u199 : x199.toNatClampNeg = 64 * e + (j2 + 1) := by omega
                refine ⟨in_of (by omega) (by omega), ?_⟩
                intro x200 e200
                rw [u199, hy5, up2_o _ _ _ _ _ (by decide), (T2 _ (by omega)).2] at e200
                refine ⟨in_of (by omega) (by omega), ?_⟩
                intro y8 hy8 x202 e202
                rw [u4] at hy8
                have i202 := i_add e202 (by omega) (by omega)
                have y855 : y8 855 = upd (u 855) (64 * e + j2) x184 := by rw [hy8, up2_of _ _ _ _ (by decide), hy5, up2_f]
                have y856 : y8 856 = upd (u 856) (64 * e + j2) x200 := by rw [hy8, up2_f, hy5, up2_of _ _ _ _ (by decide)]
                refine ih2 (j2 + 1) x202 y8 ⟨fun a n1 n2 => by rw [hy8, up2_of _ _ _ _ n2, hy5, up2_of _ _ _ _ n1]; exact T1 a n1 n2, fun p hp => ?_, fun i hi => ?_⟩ (by omega) (by omega) (by omega)
                · rw [y855, y856, upd_n (by omega), upd_n (by omega)]; exact T2 p (by omega)
                · rw [y855, y856]
                  by_cases ei : i = j2
                  · rw [ei, upd_s, upd_s]; exact ⟨e184, e200⟩
                  · rw [upd_n (by omega), upd_n (by omega)]; exact T3 i (by omega)
          exact ⟨20, loop2 20 0 x151 v8 ⟨fun _ _ _ => rfl, fun _ _ => ⟨rfl, rfl⟩, fun i hi => absurd hi (by omega)⟩ (by omega) (by omega) (by omega)⟩
        · have q2 := i_nle q2
          intro x67 e67 x70 e70
          have i67 := i_mul e67 (by rw [l8192]; omega) (by rw [l8192]; omega)
          rw [l8192] at i67
          have i70 := i_add e70 (by omega) (by omega)
          refine ⟨in_of (by omega) (by omega), ?_⟩
          intro x71 e71
          have nx : ∀ w2 : VV, (∀ a, a ≠ 857 → a ≠ 860 → w2 a = v a) → b_X10_take_115 p1 Q (fun b1 b2 b3 b4 w3 => b_X10_take_48 p1 Q m b1 b2 b3 b4 w3) p1 s0 x43 a4 x71 w2 := by
            intro w2 hw2
            unfold b_X10_take_115
            intro x115 e115
            have i115 := i_add e115 (by omega) (by omega)
            exact ih (j + 1) x115 w2 hw2 (by omega) (by omega) (by omega)
          refine ⟨fun q3 => ?_, fun q3 => ?_⟩
          · have q3 := i_le q3
            intro x106 e106 x109 e109 x111 e111
            have i106 := i_mul e106 (by rw [l8192]; omega) (by rw [l8192]; omega)
            rw [l8192] at i106
            have i109 := i_add e109 (by omega) (by omega)
            have i111 := i_sub e111 (by omega) (by omega)
            refine ⟨in_of (by omega) (by omega), ?_⟩
            intro v11 hv11
            exact nx v11 (fun a n1 n2 => by rw [hv11, up2_of _ _ _ _ n1]; exact g1 a n1 n2)
          · have q3 := i_nle q3
            intro x88 e88 x91 e91
            have i88 := i_mul e88 (by rw [l4096]; omega) (by rw [l4096]; omega)
            rw [l4096] at i88
            have i91 := i_add e91 (by omega) (by omega)
            refine ⟨in_of (by omega) (by omega), ?_⟩
            intro v13 hv13
            exact nx v13 (fun a n1 n2 => by rw [hv13, up2_of _ _ _ _ n2]; exact g1 a n1 n2)
    exact ⟨5000, loop 5000 0 0 v (fun _ _ _ => rfl) (by decide) (by omega) (by omega)⟩
  exact ⟨fun _ => go 0, fun _ => go 1⟩
theorem s_X10_urgent {C : Int} {n p1 : Int32} {Q : Int32 → VV → Prop} (h : IA C n v) (hC : C + 1 ≤ 512) (k : ∀ (x : Int32) (w : VV), IA (C + 1) n w ∧ (∀ a, a < 816 → w a = v a) → Q x w) : w_X10_urgent p1 v Q := by
  have hn := h.n
  have still := h.still hC
  have kl : ∀ x, Q x v := fun x => k x v ⟨still, fun _ _ => rfl⟩
  obtain ⟨g, c, e0, e1, e2, h1, h2, h3⟩ := still
  unfold w_X10_urgent
  refine s_isEnd (fun e f hef he => ?_) ⟨fun q => absurd rfl q, fun _ => kl _⟩
  refine ⟨fun _ => ?_, fun q => absurd q (by decide)⟩
  have t1 := tn_of (x := p1) (by omega)
  have u1 : p1.toNatClampNeg = e := by omega
  have he2 : e < 2 := by omega
  have l0 : Int32.toInt 0 = 0 := by decide
  have l1 : Int32.toInt 1 = 1 := by decide
  have l1024 : Int32.toInt 1024 = 1024 := by decide
  have c4 := h1.c4
  have h1' := h1
  obtain ⟨⟨a1, a2, a3, a4⟩, hE, hF, hN0⟩ := h1
  obtain ⟨sE, rE, cE, tE, uE⟩ := hE e f hef
  obtain ⟨r1, r2, r3, r4, r5, r6, r7, r8, r9⟩ := rE
  have St1 := tE.1.2.2.2.1
  have St2 := uE.1.2.2.2.1
  have K4 := uE.2.2
  have tl := tE.1.2.2.2.2.2
  have ul := uE.1.2.2.2.2.2
  refine ⟨in_of (by omega) (by omega), ?_⟩
  intro x14 e14
  rw [u1] at e14
  have i14 := i_eq e14
  refine ⟨fun q => ?_, fun _ => kl _⟩
  have q := i_ne q
  intro x29 e29
  have i29 := i_mul e29 (by rw [l1024]; omega) (by rw [l1024]; omega)
  rw [l1024] at i29
  refine ⟨in_of (by omega) (by omega), ?_⟩
  intro x30 e30
  refine ⟨in_of (by omega) (by omega), ?_⟩
  intro x38 e38 x40 e40
  rw [u1] at e38
  have i38 := i_eq e38
  have i40 := i_sub e40 (by omega) (by omega)
  refine ⟨in_of (by omega) (by omega), ?_⟩
  intro v5 hv5 x46 e46
  rw [u1] at hv5
  have i46 := i_mul e46 (by rw [l1024]; omega) (by rw [l1024]; omega)
  rw [l1024] at i46
  have R : ∀ a, a ≠ 861 → v5 a = v a := fun a ha => by rw [hv5, up2_of _ _ _ _ ha]
  have R861 : v5 861 = upd (v 861) e x40 := by rw [hv5, up2_f]
  have hI : Im (gr g e (v 816 0).toInt (g e (v 816 0).toInt) (g (e + 2) (v 816 0).toInt) (g (4 + e) 0) (g (4 + (e + 2)) 0)) c e0 e1 e2 (C + 1) (12 * (C + 1) + 2 * n.toInt) 12 8 v5 := by
    refine h1'.rside hef (fun q n1 n2 => R q (fun k => by rw [k] at n2; cases n2)) (fun k _ => by rw [R 816 (by decide)]) (a2.cg (R _ (by decide)) (R _ (by decide)) (R _ (by decide)) (R _ (by decide)) (R _ (by decide)) (R _ (by decide))) (fun k => ⟨by rw [R _ (by decide)], by rw [R _ (by decide)], by rw [R _ (by decide)], by rw [R _ (by decide)], by rw [R _ (by decide)], by rw [R _ (by decide)], by rw [R _ (by decide)], by rw [R861, upd_n (by omega)], fun hk => by rw [R _ (by decide)], fun hk => ⟨by rw [R _ (by decide)], by rw [R _ (by decide)]⟩⟩) (Or.inr ⟨rfl, rfl⟩) ⟨Int.le_refl _, Int.le_refl _, by omega, by omega, fun q => (tl q).2, tE.2.2⟩ ⟨Int.le_refl _, Int.le_refl _, by omega, by omega, fun q => (ul q).2, uE.2.2⟩ ?_
    unfold iR
    rw [gr1 he2, gr2 he2, gr30 he2, R 816 (by decide), upH_ge (Int.le_refl _), upH_ge (Int.le_refl _), R861, upd_s, R 846 (by decide), R 847 (by decide), R 848 (by decide), R 851 (by decide), R 852 (by decide), R 854 (by decide), R 855 (by decide), R 856 (by decide), R 858 (by decide), R 859 (by decide)]
    exact ⟨r1, r2, r3, r4, r5, r6, r7, r8, by omega⟩
  have loop : ∀ (m j : Nat) (a3 : Int32) (w : VV), Im (gr g e (v 816 0).toInt (g e (v 816 0).toInt) (g (e + 2) (v 816 0).toInt) (g (4 + e) 0) (g (4 + (e + 2)) 0)) c e0 e1 e2 (C + 1) (12 * (C + 1) + 2 * n.toInt) 12 8 w → Fx c c v w → w 861 = v5 861 → a3.toInt = 1024 * (e : Int) + j → (j : Int) ≤ x40.toInt → x40.toInt < (m : Int) + (j : Int) → b_X10_urgent_48 p1 Q m p1 x30 a3 w := by
    intro m
    induction m with
    | zero => intro j a3 w k1 k2 k3 k4 k5 k6; exfalso; omega
    | succ m ih =>
      intro j a3 w k1 k2 k3 k4 k5 k6
      intro x53 e53
      have i53 := i_mul e53 (by rw [l1024]; omega) (by rw [l1024]; omega)
      rw [l1024] at i53
      refine ⟨in_of (by omega) (by omega), ?_⟩
      intro x59 e59 x60 e60
      rw [u1, k3, R861, upd_s] at e59
      have i59 := i_eq e59
      have i60 := i_add e60 (by omega) (by omega)
      refine ⟨fun _ => k x30 w ⟨⟨_, c, e0, e1, e2, k1, k2.1.1.trans h2, h3⟩, k2.2.2.2.2⟩, fun q2 => ?_⟩
      have q2 := i_nle q2
      intro x75 e75
      have i75 := i_add e75 (by omega) (by omega)
      refine ⟨in_of (by omega) (by omega), ?_⟩
      intro x76 e76
      refine ⟨in_of (by omega) (by omega), ?_⟩
      intro v3 hv3 x78 e78
      have i78 := i_add e78 (by omega) (by omega)
      rw [hv3]
      exact ih (j + 1) x78 _ (k1.put rfl (fun q => by cases q) (fun q => by omega)) (k2.put (by decide)) (by rw [up2_of _ _ _ _ (by decide)]; exact k3) (by omega) (by omega) (by omega)
  exact ⟨1200, loop 1200 0 x46 v5 hI (by rw [hv5]; exact Fx.rf.put (by decide)) rfl (by omega) (by omega) (by omega)⟩
theorem s_X10_read {C : Int} {n p1 p2 : Int32} {Q : Int32 → VV → Prop} (h : IA C n v) (k : ∀ x : Int32, Q x v) : w_X10_read p1 p2 v Q := by
  obtain ⟨g, c, e0, e1, e2, h1, h2, h3⟩ := h
  have l0 : Int32.toInt 0 = 0 := by decide
  have l4096 : Int32.toInt 4096 = 4096 := by decide
  unfold w_X10_read b_X10_read_36
  refine s_isEnd (fun e f hef he => ?_) ⟨fun _ => k _, fun q => absurd rfl q⟩
  refine ⟨fun q => absurd q (by decide), fun _ => ⟨fun _ => k _, fun q => ⟨in_of (by omega) (by omega), ?_⟩⟩⟩
  have t1 := tn_of (x := p1) (by omega)
  have u1 : p1.toNatClampNeg = e := by omega
  have q := i_nlt q
  have r8 := (h1.2.1 e f hef).2.1.2.2.2.2.2.2.2.1
  intro x17 e17
  rw [u1] at e17
  have i17 := i_eq e17
  refine ⟨fun _ => k _, fun q2 => ?_⟩
  have q2 := i_nle q2
  intro x29 e29 x31 e31
  have i29 := i_mul e29 (by rw [l4096]; omega) (by rw [l4096]; omega)
  rw [l4096] at i29
  have i31 := i_add e31 (by omega) (by omega)
  refine ⟨in_of (by omega) (by omega), ?_⟩
  intro x32 e32
  exact k x32
theorem s_X10_told {C : Int} {n p1 p2 : Int32} {Q : Int32 → VV → Prop} (h : IA C n v) (k : ∀ x : Int32, Q x v) : w_X10_told p1 p2 v Q := by
  obtain ⟨g, c, e0, e1, e2, h1, h2, h3⟩ := h
  unfold w_X10_told
  refine s_isEnd (fun e f hef he => ?_) ⟨fun q => absurd rfl q, fun _ => k _⟩
  refine ⟨fun _ => ?_, fun q => absurd q (by decide)⟩
  have i : vp_in p1 2 := in_of (by omega) (by omega)
  refine ⟨fun _ => ⟨i, fun x _ => k x⟩, fun _ => ⟨i, fun x _ => k x⟩, fun _ => ⟨i, fun x _ => k x⟩, fun _ => ⟨i, fun x _ => k x⟩, fun _ => ⟨i, fun x _ => k x⟩, fun _ => s_X10_credit p1 he hef (h1.2.1 e f hef).2.1 (fun x _ => k x), fun _ => ⟨i, fun x110 _ => ⟨i, fun x116 _ x117 _ => s_mod (fun x _ => k x)⟩⟩, fun _ => ⟨i, fun x _ => k x⟩, fun _ => ⟨i, fun x _ => k x⟩, fun _ => ⟨i, fun x _ => k x⟩, fun _ _ _ _ _ _ _ _ _ _ => k _⟩
theorem s_X10_sent {Q : Int32 → VV → Prop} (k : ∀ x : Int32, Q x v) : w_X10_sent v Q := by
  unfold w_X10_sent
  exact fun x _ => k x
theorem s_X10_clock {C : Int} {n : Int32} {Q : Int32 → VV → Prop} (h : IA C n v) (k : Q n v) : w_X10_clock v Q := by
  obtain ⟨g, c, e0, e1, e2, h1, h2, h3⟩ := h
  unfold w_X10_clock
  intro x e
  rw [e, h2]
  exact k
theorem s_X10_byteOf {C : Int} {n p1 p2 : Int32} {Q : Int32 → VV → Prop} (h : IA C n v) (k : ∀ x : Int32, Q x v) : w_X10_byteOf p1 p2 v Q := by
  obtain ⟨g, c, e0, e1, e2, h1, h2, h3⟩ := h
  have l0 : Int32.toInt 0 = 0 := by decide
  have l20 : Int32.toInt 20 = 20 := by decide
  have l4096 : Int32.toInt 4096 = 4096 := by decide
  have b27 : b_X10_byteOf_27 p1 p2 Q p1 p2 v := by
    unfold b_X10_byteOf_27 b_X10_byteOf_28 b_X10_byteOf_69
    exact ⟨fun _ => k _, fun q => absurd rfl q⟩
  unfold w_X10_byteOf
  refine ⟨fun _ => b27, fun q => ?_⟩
  have q := i_nlt q
  intro x6 e6
  refine ⟨fun _ => b27, fun q2 => ?_⟩
  intro x14 e14 x19 e19
  refine ⟨fun _ => b27, fun q3 => ?_⟩
  unfold b_X10_byteOf_28 b_X10_byteOf_69
  refine ⟨fun q4 => absurd q4 (by decide), fun _ => ⟨fun _ => k _, fun q5 => ?_⟩⟩
  have q5 := i_nlt q5
  intro x46 e46
  have i46 := i_rem e46 (by omega) (by decide)
  rw [l4096] at i46
  refine ⟨in_of (by omega) (by omega), ?_⟩
  intro x47 e47
  have i47 := i_eq e47
  have hz := h1.1.1.2.2.2.2 x46.toNatClampNeg
  refine ⟨fun _ => k _, fun q6 => ?_⟩
  have q6 := i_nle q6
  intro x61 e61 x62 e62 x64 e64
  have i61 := i_rem e61 (by omega) (by decide)
  rw [l4096] at i61
  have i62 := i_mul e62 (by rw [l20]; omega) (by rw [l20]; omega)
  rw [l20] at i62
  have i64 := i_add e64 (by omega) (by omega)
  refine ⟨in_of (by omega) (by omega), ?_⟩
  intro x65 e65
  exact k x65
end IM
