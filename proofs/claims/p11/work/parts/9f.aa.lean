/-! all that is due arrives -/
section IM
variable {g g' c c' : Nat → Int → Int} {d0 d1 d2 L M κ om : Int} {v v1 z : VV}
theorem sl_17 {a1 a2 : Int32} {r : Int} {n1 n0 : Int → Int} {Q : VV → Prop} {K7 : Int32 → Int32 → VV → Prop} (hr : a2.toInt = r) (hr2 : r = 0 ∨ r = 1) (ha1 : a1.toInt = (v 816 54).toInt) (hsc : (v 816 54).toInt ≤ 20000000) (hold : 0 ≤ (v 816 55).toInt) (hnow : 0 ≤ (v 816 0).toInt ∧ (v 816 0).toInt ≤ 3000) (hflt : 0 ≤ (v 816 49).toInt ∧ (v 816 49).toInt ≤ 60) (hκ : κ ≤ 0) (hL : L ≤ 511) (hn : ∀ u, 0 ≤ n1 u ∧ 0 ≤ n0 u) (step : ∀ (u : Nat) (x : Int32), x.toInt = (u : Int) → (v 816 55).toInt ≤ (u : Int) → (u : Int) < (v 816 54).toInt → n1 (u + 1) ≤ n1 u ∧ n0 (u + 1) ≤ n0 u ∧ (∀ s, c 0 (s - 1) ≤ (u : Int) → (u : Int) < c 0 s → (s + 2 + r = (v 816 0).toInt ∨ (HF v 3 x ∧ s + 7 + r = (v 816 0).toInt)) → (r = 0 ∨ HF v 2 x) → n1 (u + 1) + (c 2 (u + 1) - c 2 u) ≤ n1 u ∧ n0 (u + 1) + (c 1 (u + 1) - c 1 u) ≤ n0 u)) (hK : ∀ (w : VV) (e0 e1 : Int) (x : Int32), Iz c v e0 e1 d2 L M κ 9 w → 18 + n1 (v 816 54).toInt ≤ e1 → 2 + n0 (v 816 54).toInt ≤ e0 → x.toInt = r + 1 → K7 a1 x w) : ∀ (n : Nat) (w : VV) (a3 : Int32) (u : Nat) (e0 e1 : Int), a3.toInt = (u : Int) → (v 816 55).toInt ≤ (u : Int) → (u : Int) ≤ (v 816 54).toInt → Iz c v e0 e1 d2 L M κ 9 w → 18 + n1 u ≤ e1 → 2 + n0 u ≤ e0 → (v 816 54).toInt - u < (n : Int) → b_X10_arriveAll_17 Q K7 n a1 a2 a3 w := by
  have l0 : Int32.toInt 0 = 0 := by decide
  have l1 : Int32.toInt 1 = 1 := by decide
  have l2 : Int32.toInt 2 = 2 := by decide
  have l7 : Int32.toInt 7 = 7 := by decide
  have l4096 : Int32.toInt 4096 = 4096 := by decide
  intro n
  induction n with
  | zero => intro w a3 u e0 e1 h1 h2 h3 h4 h5 h6 h7; exfalso; omega
  | succ n ih =>
    intro w a3 u e0 e1 h1 h2 h3 h4 h5 h6 h7
    refine ⟨fun q => ?_, fun q => ?_⟩
    · have q := i_le q
      intro x106 e106
      have i106 := i_add e106 (by omega) (by omega)
      have eu : (u : Int) = (v 816 54).toInt := by omega
      rw [eu] at h5 h6
      exact hK w e0 e1 x106 h4 h5 h6 (by omega)
    · have q := i_nle q
      have hIz := h4
      obtain ⟨g', c', hI, hF⟩ := h4
      have hF' := hF
      obtain ⟨⟨f1, f2, f3, f4, f5⟩, f6, f7, f8, f9⟩ := hF'
      obtain ⟨R, S, hef, k1, k2, k3, k4, k5, k6⟩ := hI.2.2.1 u (by rw [f2]; exact h2) (by omega)
      have hy := hI.2.2.2.young (by decide) (by rw [f2]; exact h2) k4.2
      have hle := hI.2.2.2.le (u := u) (by omega) k4.1
      rw [f1] at hy hle
      obtain ⟨st1, st2, st3⟩ := step u a3 h1 h2 (by omega)
      have nn := hn (u + 1)
      have eQ1 := (f8 u (by omega)).1
      have eQ1' := (f8 (u + 1) (by omega)).1
      have eQ2 := (f8 u (by omega)).2
      have eQ2' := (f8 (u + 1) (by omega)).2
      have W1 := lv1_r (w 868 (20 * (u % 4096) + 1)).toInt
      have W2 := lv2_r (w 868 (20 * (u % 4096) + 1)).toInt
      have nx : ∀ (w2 : VV) (E0 E1 : Int) (a4 s0 : Int32), Iz c v E0 E1 d2 L M κ 9 w2 → 18 + n1 (u + 1) ≤ E1 → 2 + n0 (u + 1) ≤ E0 → b_X10_arriveAll_100 Q K7 (fun b1 b2 b3 w3 => b_X10_arriveAll_17 Q K7 n b1 b2 b3 w3) a1 a2 a3 a4 s0 w2 := by
        intro w2 E0 E1 a4 s0 hw2 hE1 hE0
        unfold b_X10_arriveAll_100
        intro x100 e100
        have i100 := i_add e100 (by omega) (by omega)
        exact ih w2 x100 (u + 1) E0 E1 (by omega) (by omega) (by omega) hw2 (by rw [Int.natCast_add]; exact hE1) (by rw [Int.natCast_add]; exact hE0) (by omega)
      have n87 : ∀ a4, b_X10_arriveAll_87 Q K7 (fun b1 b2 b3 w3 => b_X10_arriveAll_17 Q K7 n b1 b2 b3 w3) a1 a2 a3 a4 w := by
        intro a4
        unfold b_X10_arriveAll_87 b_X10_arriveAll_88
        exact ⟨fun _ => nx w e0 e1 a4 0 hIz (by omega) (by omega), fun c => absurd rfl c⟩
      have hfl : 0 ≤ (w 816 49).toInt ∧ (w 816 49).toInt ≤ 60 := by rw [f3]; exact hflt
      have toV : ∀ kk, HF w kk a3 → HF v kk a3 := fun kk hh => by
        obtain ⟨i, q1, q2, q3⟩ := hh
        exact ⟨i, by rw [← f3]; exact q1, by rw [← f4]; exact q2, by rw [← f5]; exact q3⟩
      have main : ∀ s0 : Int32, (s0.toInt = 2 ∨ (s0.toInt = 7 ∧ HF w 3 a3)) → b_X10_arriveAll_37 Q K7 (fun b1 b2 b3 w3 => b_X10_arriveAll_17 Q K7 n b1 b2 b3 w3) a1 a2 a3 s0 w := by
        intro s0 hs0
        have is0 : s0.toInt = 2 ∨ s0.toInt = 7 := by
          rcases hs0 with k | k
          · exact Or.inl k
          · exact Or.inr k.1
        unfold b_X10_arriveAll_37
        intro x47 e47
        have i47 := i_rem e47 (by omega) (by decide)
        rw [l4096] at i47
        have t47 := tn_of (x := x47) (by omega)
        have u47 : x47.toNatClampNeg = u % 4096 := by omega
        refine ⟨in_of (by omega) (by omega), ?_⟩
        intro x48 e48 x51 e51 x53 e53 x55 e55
        rw [u47] at e48
        have i48 := i_eq e48
        have i51 := i_add e51 (by omega) (by omega)
        have i53 := i_add e53 (by omega) (by omega)
        rw [f1] at e55
        have i55 := i_eq e55
        refine ⟨fun _ => n87 s0, fun q2 => ?_⟩
        have q2 := i_eq q2
        have n83 : (r = 0 ∨ HF w 2 a3) → b_X10_arriveAll_83 Q K7 (fun b1 b2 b3 w3 => b_X10_arriveAll_17 Q K7 n b1 b2 b3 w3) a1 a2 a3 s0 w := by
          intro hr3
          have hs4 := st3 (w 871 (u % 4096)).toInt (by rw [← f7 _ (by omega)]; exact k4.1) (by rw [← f7 _ (by omega)]; exact k4.2) (by
            rcases hs0 with k | k
            · exact Or.inl (by omega)
            · exact Or.inr ⟨toV 3 k.2, by omega⟩) (by
            rcases hr3 with k | k
            · exact Or.inl k
            · exact Or.inr (toV 2 k))
          rw [eQ1, eQ1', eQ2, eQ2'] at k5
          unfold b_X10_arriveAll_83 b_X10_arriveAll_88
          refine ⟨fun c => absurd c (by decide), fun _ => ?_⟩
          exact s_carry (U := u) (code := (w 868 (20 * (u % 4096) + 1)).toInt) hI hF (by decide) hκ hL h1 (by rw [f2]; exact h2) (by omega) (by rw [f1]; omega) rfl (by omega) (by omega) (fun w2 hw2 => nx w2 _ _ s0 1 hw2 (by omega) (by omega))
        refine s_hasFault hfl (fun x64 _ => ⟨fun _ => n87 s0, fun _ => ⟨fun q3 => n83 (Or.inl ?_), fun q3 => ?_⟩⟩)
        · have q3 := i_eq q3
          omega
        · exact s_hasFault hfl (fun x77 r77 => ⟨fun _ => n87 s0, fun q4 => n83 (Or.inr (r77 q4))⟩)
      exact s_hasFault hfl (fun x25 r25 => ⟨fun _ => main 2 (Or.inl (by decide)), fun q2 => main 7 (Or.inr ⟨by decide, r25 q2⟩)⟩)
/-- the oldest unit is passed -/
theorem Im.old {x : Int32} (h : Im g c d0 d1 d2 L M κ om v) (hx : x.toInt = (v 816 55).toInt + 1) (hs : (v 816 55).toInt < (v 816 54).toInt) : Im g c d0 d1 d2 L M κ om (up2 v 816 55 x) := by
  obtain ⟨⟨a1, a2, a3, a4⟩, hE, hF, hN0⟩ := h
  have R : ∀ a, a ≠ 816 → up2 v 816 55 x a = v a := fun a ha => up2_of _ _ _ _ ha
  have K : ∀ q, q ≠ 55 → up2 v 816 55 x 816 q = v 816 q := fun q hq => up2_k _ _ _ _ hq
  have K55 : up2 v 816 55 x 816 55 = x := up2_s _ _ _ _
  generalize up2 v 816 55 x = w at *
  have e0 := K 0 (by decide)
  refine ⟨⟨?_, a2.cg (R _ (by decide)) (R _ (by decide)) (R _ (by decide)) (R _ (by decide)) (R _ (by decide)) (R _ (by decide)), ?_, a4⟩, ?_, fun u hu1 hu2 => ?_, ?_⟩
  · unfold iSc; rw [e0, K 48 (by decide), K 49 (by decide), R 869 (by decide)]; exact a1
  · unfold iFa; rw [K 49 (by decide), R 864 (by decide), R 866 (by decide), R 867 (by decide)]; exact a3
  · intro p q hpq
    obtain ⟨b1, b2, b3, b4, b5⟩ := hE p q hpq
    exact ⟨b1.cg (R _ (by decide)) (R _ (by decide)) (R _ (by decide)) (R _ (by decide)) (R _ (by decide)) (R _ (by decide)) (R _ (by decide)) (R _ (by decide)) (R _ (by decide)) (R _ (by decide)), b2.cg e0 (R _ (by decide)) (R _ (by decide)) (R _ (by decide)) (R _ (by decide)) (R _ (by decide)) (R _ (by decide)) (R _ (by decide)) (R _ (by decide)) (R _ (by decide)) (R _ (by decide)) (R _ (by decide)), b3.cg e0 (R _ (by decide)) (R _ (by decide)) (R _ (by decide)) (R _ (by decide)) (R _ (by decide)) (R _ (by decide)) (R _ (by decide)) (R _ (by decide)), b4.cg e0 (R _ (by decide)) (R _ (by decide)) rfl, b5.cg e0 (R _ (by decide)) (R _ (by decide)) rfl⟩
  · rw [K55, hx] at hu1
    rw [K 54 (by decide)] at hu2
    exact (hF u (by omega) hu2).cg (R _ (by decide)) (R _ (by decide)) (R _ (by decide)) (R _ (by decide)) (R _ (by decide)) (R _ (by decide)) (R _ (by decide))
  · obtain ⟨n1, n2, n3, n4, n5, n6, n7, n8⟩ := hN0
    unfold iN
    rw [e0, K 48 (by decide), K 54 (by decide), K55, hx, bnk.cg (R _ (by decide)) (R _ (by decide)) (R _ (by decide)) (R _ (by decide)), bnk.cg (R _ (by decide)) (R _ (by decide)) (R _ (by decide)) (R _ (by decide))]
    exact ⟨n1, n2, n3, n4, n5, n6, n7, by omega⟩
theorem Im.om8 (h : Im g c d0 d1 d2 L M κ om v) {om' : Int} (ho : c 0 ((v 816 0).toInt - om') ≤ (v 816 55).toInt) : Im g c d0 d1 d2 L M κ om' v := by
  obtain ⟨a, b, e, n1, n2, n3, n4, n5, n6, n7, n8⟩ := h
  exact ⟨a, b, e, n1, n2, n3, n4, n5, n6, n7, ho, n8.2⟩
theorem sl_112 {a1 a2 : Int32} {t : Int32} {mst : Int} {vz : VV} {Q : VV → Prop} (ha : a1.toInt = mst) (hms : 0 ≤ mst ∧ mst ≤ 20000000) (k : ∀ (w : VV) (g' c' : Nat → Int → Int), Im g' c' d0 d1 d2 L M κ 8 w → w 816 0 = t → (∀ a, a < 816 → w a = vz a) → Q w) : ∀ (n : Nat) (w : VV) (g c : Nat → Int → Int), Im g c d0 d1 d2 L M κ 9 w → w 816 0 = t → (∀ a, a < 816 → w a = vz a) → mst ≤ (w 816 54).toInt → c 0 ((w 816 0).toInt - 8) ≤ mst → max 0 (mst - (w 816 55).toInt) < (n : Int) → b_X10_arriveAll_112 Q n a1 a2 w := by
  have l8 : Int32.toInt 8 = 8 := by decide
  have l1 : Int32.toInt 1 = 1 := by decide
  have l4096 : Int32.toInt 4096 = 4096 := by decide
  intro n
  induction n with
  | zero => intro w g c h1 h2 h3 h4 h5 h6; exfalso; omega
  | succ n ih =>
    intro w g c h1 h2 h3 h4 h5 h6
    have hN := h1.2.2.2
    have hol := hN.2.2.2.2.2.2.2
    intro x113 e113
    have i113 := i_eq e113
    refine ⟨fun q => ?_, fun q => ?_⟩
    · have q := i_le q
      exact k w g c (h1.om8 (by omega)) h2 h3
    · have q := i_nle q
      have hnow := h1.1.1.1
      obtain ⟨u, hu⟩ : ∃ u : Nat, (w 816 55).toInt = (u : Int) := ⟨(w 816 55).toInt.toNat, by omega⟩
      obtain ⟨R, S, hef, k1, k2, k3, k4, k5, k6⟩ := h1.2.2.1 u (by omega) (by omega)
      have hy := hN.young (by decide) (u := u) (by omega) k4.2
      have hle := hN.le (u := u) (by omega) k4.1
      intro x125 e125 x131 e131
      have i125 := i_eq e125
      have i131 := i_rem e131 (by omega) (by decide)
      rw [l4096] at i131
      have t131 := tn_of (x := x131) (by omega)
      have u131 : x131.toNatClampNeg = u % 4096 := by omega
      refine ⟨in_of (by omega) (by omega), ?_⟩
      intro x132 e132 x135 e135 x137 e137
      rw [u131] at e132
      have i132 := i_eq e132
      have i135 := i_add e135 (by omega) (by omega)
      have i137 := i_eq e137
      refine ⟨fun q2 => ?_, fun q2 => ?_⟩
      · have q2 := i_lt q2
        have := hN.1.1 ((w 816 0).toInt - 8) ((w 871 (u % 4096)).toInt - 1) (by omega)
        exact k w g c (h1.om8 (by omega)) h2 h3
      · intro x145 e145 x149 e149 v2 hv2
        have i145 := i_eq e145
        have i149 := i_add e149 (by omega) (by omega)
        have z54 : v2 816 54 = w 816 54 := by rw [hv2, up2_k _ _ _ _ (by decide)]
        have z0 : v2 816 0 = w 816 0 := by rw [hv2, up2_k _ _ _ _ (by decide)]
        have z55 : v2 816 55 = x149 := by rw [hv2, up2_s]
        refine ih v2 g c ?_ (z0.trans h2) (fun a ha => by rw [hv2, up2_of _ _ _ _ (by omega)]; exact h3 a ha) (by rw [z54]; exact h4) (by rw [z0]; exact h5) (by rw [z55]; omega)
        rw [hv2]
        exact h1.old (by omega) (by omega)
theorem s_arriveAll {Q : VV → Prop} (h : Im g c d0 d1 d2 L M κ 9 v) (hκ : κ ≤ 0) (hL : L ≤ 511) (hm : c 0 ((v 816 0).toInt - 1) = (v 816 54).toInt) (h1 : 78 + (c 2 (c 0 ((v 816 0).toInt - 2)) - c 2 (c 0 ((v 816 0).toInt - 3))) ≤ d1) (h0 : 62 + (c 1 (c 0 ((v 816 0).toInt - 2)) - c 1 (c 0 ((v 816 0).toInt - 3))) ≤ d0) (k : ∀ (w : VV) (g' c' : Nat → Int → Int), Im g' c' 2 18 d2 L M κ 8 w → w 816 0 = v 816 0 → (∀ a, a < 816 → w a = v a) → Q w) : w_X10_arriveAll v Q := by
  have l2 : Int32.toInt 2 = 2 := by decide
  have l1 : Int32.toInt 1 = 1 := by decide
  have l0 : Int32.toInt 0 = 0 := by decide
  have hsc := h.sc (by decide)
  have hN := h.2.2.2
  have hol := hN.2.2.2.2.2.2.2
  have hfl : 0 ≤ (v 816 49).toInt ∧ (v 816 49).toInt ≤ 60 := ⟨h.1.1.2.2.1, h.1.1.2.2.2.1⟩
  have hnow := h.1.1.1
  have s1 := hN.1.1
  have sQ := hN.1.2.2.2
  have tk := h.tok
  have m32 := s1 ((v 816 0).toInt - 3) ((v 816 0).toInt - 2) (by omega)
  have m21 := s1 ((v 816 0).toInt - 2) ((v 816 0).toInt - 1) (by omega)
  -- what is left of the units of two hours ago
  have CL : ∀ u : Int, ∃ q, q = max (c 0 ((v 816 0).toInt - 3)) (min u (c 0 ((v 816 0).toInt - 2))) := fun u => ⟨_, rfl⟩
  unfold w_X10_arriveAll
  intro x1 e1
  have i1 := i_eq e1
  -- round two
  have round1 : ∀ (w : VV) (e0 e1' : Int) (n : Nat), Iz c v e0 e1' d2 L M κ 9 w → 18 + fc v 2 (v 816 55).toInt ≤ e1' → 2 + fc v 2 (v 816 55).toInt ≤ e0 → ∀ x : Int32, x.toInt = 1 → b_X10_arriveAll_7 Q (n + 2) x1 x w := by
    intro w e0 e1' n hw he1 he0 x hx
    refine ⟨fun q => by have := i_le q; omega, fun _ => ?_⟩
    intro x13 e13
    have f2 : w 816 55 = v 816 55 := by
      obtain ⟨g', c', hI, hF⟩ := hw
      exact hF.1.2.1
    rw [f2] at e13
    have i13 := i_eq e13
    obtain ⟨u, hu⟩ : ∃ u : Nat, (v 816 55).toInt = (u : Int) := ⟨(v 816 55).toInt.toNat, by omega⟩
    refine ⟨20000001, sl_17 (v := v) (c := c) (r := 1) (n1 := fun u => fc v 2 u) (n0 := fun u => fc v 2 u) hx (Or.inr rfl) (by omega) hsc.2 (by omega) hnow hfl hκ hL (fun u => ⟨fc_nn, fc_nn⟩) (fun u y hy hu1 hu2 => ?_) (fun w2 E0 E1 y hw2 hE1 hE0 hy => ?_) 20000001 w x13 u e0 e1' (by omega) (by omega) (by omega) hw (by rw [← hu]; exact he1) (by rw [← hu]; exact he0) (by omega)⟩
    · refine ⟨fc_mo (by omega), fc_mo (by omega), fun s q1 q2 q3 q4 => ?_⟩
      have hq : HF v 2 y := by
        rcases q4 with q4 | q4
        · omega
        · exact q4
      have := fc_hit hq hy
      obtain ⟨R, S, hef, k1, k2, k3, k4, k5, k6⟩ := h.2.2.1 u hu1 hu2
      have W1 := lv1_r (v 868 (20 * (u % 4096) + 1)).toInt
      have W2 := lv2_r (v 868 (20 * (u % 4096) + 1)).toInt
      omega
    · refine ⟨fun _ => ?_, fun q => by have := i_nle q; omega⟩
      obtain ⟨g', c', hI, hF⟩ := hw2
      obtain ⟨⟨f1, f2, f3, f4, f5⟩, f6, f7, f8, f9⟩ := hF
      have nn := fc_nn (v := v) (k := 2) (u := (v 816 54).toInt)
      have hE1 : 18 + fc v 2 (v 816 54).toInt ≤ E1 := hE1
      have hE0 : 2 + fc v 2 (v 816 54).toInt ≤ E0 := hE0
      have s8 := s1 ((v 816 0).toInt - 8) ((v 816 0).toInt - 1) (by omega)
      refine ⟨20000001, sl_112 (t := v 816 0) (mst := (v 816 54).toInt) (vz := v) (by omega) hsc k 20000001 w2 g' c' (hI.less (by omega) (by omega) (by omega)) f1 f9 f6 (by rw [f1, f7 _ (by omega)]; omega) ?_⟩
      rw [f2]
      omega
  refine ⟨5, ⟨fun q => by have := i_le q; omega, fun _ => ?_⟩⟩
  intro x13 e13
  have i13 := i_eq e13
  obtain ⟨u, hu⟩ : ∃ u : Nat, (v 816 55).toInt = (u : Int) := ⟨(v 816 55).toInt.toNat, by omega⟩
  have f23 := fc_23 (v := v) (u := (v 816 55).toInt) (w := (v 816 55).toInt) hfl
  have cl : ∀ u : Int, c 0 ((v 816 0).toInt - 3) ≤ max (c 0 ((v 816 0).toInt - 3)) (min u (c 0 ((v 816 0).toInt - 2))) ∧ max (c 0 ((v 816 0).toInt - 3)) (min u (c 0 ((v 816 0).toInt - 2))) ≤ c 0 ((v 816 0).toInt - 2) := fun u => by omega
  have k0 := sQ _ _ (cl (v 816 55).toInt).1
  refine ⟨20000001, sl_17 (v := v) (c := c) (r := 0) (n1 := fun u => c 2 (c 0 ((v 816 0).toInt - 2)) - c 2 (max (c 0 ((v 816 0).toInt - 3)) (min u (c 0 ((v 816 0).toInt - 2)))) + fc v 3 u + fc v 2 (v 816 55).toInt) (n0 := fun u => c 1 (c 0 ((v 816 0).toInt - 2)) - c 1 (max (c 0 ((v 816 0).toInt - 3)) (min u (c 0 ((v 816 0).toInt - 2)))) + fc v 3 u + fc v 2 (v 816 55).toInt) (by decide) (Or.inl rfl) (by omega) hsc.2 (by omega) hnow hfl hκ hL (fun u => ?_) (fun u y hy hu1 hu2 => ?_) (fun w2 E0 E1 y hw2 hE1 hE0 hy => ?_) 20000001 v x13 u d0 d1 (by omega) (by omega) (by omega) ⟨g, c, h, Fx.rf⟩ ?_ ?_ (by omega)⟩
  · have q1 := sQ _ _ (cl u).2
    have q2 := fc_nn (v := v) (k := 3) (u := u)
    have q3 := fc_nn (v := v) (k := 2) (u := (v 816 55).toInt)
    omega
  · have q1 := sQ (max (c 0 ((v 816 0).toInt - 3)) (min (u : Int) (c 0 ((v 816 0).toInt - 2)))) (max (c 0 ((v 816 0).toInt - 3)) (min ((u : Int) + 1) (c 0 ((v 816 0).toInt - 2)))) (by omega)
    have q2 := fc_mo (v := v) (k := 3) (u := u) (w := u + 1) (by omega)
    refine ⟨by omega, by omega, fun s r1 r2 r3 _ => ?_⟩
    obtain ⟨R, S, hef, k1, k2, k3, k4, k5, k6⟩ := h.2.2.1 u hu1 hu2
    have W1 := lv1_r (v 868 (20 * (u % 4096) + 1)).toInt
    have W2 := lv2_r (v 868 (20 * (u % 4096) + 1)).toInt
    rcases r3 with r3 | r3
    · have es : s = (v 816 0).toInt - 2 := by omega
      rw [es] at r1 r2
      rw [show (v 816 0).toInt - 2 - 1 = (v 816 0).toInt - 3 by omega] at r1
      have m1 : max (c 0 ((v 816 0).toInt - 3)) (min (u : Int) (c 0 ((v 816 0).toInt - 2))) = u := by omega
      have m2 : max (c 0 ((v 816 0).toInt - 3)) (min ((u : Int) + 1) (c 0 ((v 816 0).toInt - 2))) = u + 1 := by omega
      rw [m1, m2]
      omega
    · have := fc_hit r3.1 hy
      omega
  · have q1 := sQ _ _ (cl (v 816 54).toInt).2
    have q2 := fc_nn (v := v) (k := 3) (u := (v 816 54).toInt)
    have hE1 : 18 + (c 2 (c 0 ((v 816 0).toInt - 2)) - c 2 (max (c 0 ((v 816 0).toInt - 3)) (min (v 816 54).toInt (c 0 ((v 816 0).toInt - 2)))) + fc v 3 (v 816 54).toInt + fc v 2 (v 816 55).toInt) ≤ E1 := hE1
    have hE0 : 2 + (c 1 (c 0 ((v 816 0).toInt - 2)) - c 1 (max (c 0 ((v 816 0).toInt - 3)) (min (v 816 54).toInt (c 0 ((v 816 0).toInt - 2)))) + fc v 3 (v 816 54).toInt + fc v 2 (v 816 55).toInt) ≤ E0 := hE0
    exact round1 w2 E0 E1 2 hw2 (by omega) (by omega) y (by omega)
  · rw [← hu]; omega
  · rw [← hu]; omega
end IM
