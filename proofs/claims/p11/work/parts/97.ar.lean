/-! arrivals: data, urgent bytes -/
section IM
variable {g c : Nat → Int → Int} {d0 d1 d2 L M κ om : Int} {v : VV}
theorem UOK.d240 {R S : Nat} {rr rs : Int} {f : Nat → Int} {z s : Int} (h : UOK g R S rr rs f z s) (h1 : f 1 = 240) : 9 ≤ z ∧ z ≤ 17 ∧ uDat g R rr (f 2) (f 3) (f 4) s := by
  unfold UOK at h
  rcases h with h | h | h | h | h | h | h | h
  · exfalso; omega
  · exfalso; omega
  · exfalso; omega
  · exfalso; omega
  · exact ⟨h.2.2.1, h.2.2.2.1, h.2.2.2.2⟩
  · exfalso; omega
  · exfalso; omega
  · exfalso; omega
theorem UOK.d16 {R S : Nat} {rr rs : Int} {f : Nat → Int} {z s : Int} (h : UOK g R S rr rs f z s) (h1 : f 1 = 16) : z = 10 ∧ uDat g (R + 2) rr (f 2) (f 3) (f 4) s := by
  unfold UOK at h
  rcases h with h | h | h | h | h | h | h | h
  · exfalso; omega
  · exfalso; omega
  · exfalso; omega
  · exfalso; omega
  · exfalso; omega
  · exact ⟨h.2.2.1, h.2.2.2⟩
  · exfalso; omega
  · exfalso; omega
theorem UOK.d96 {R S : Nat} {rr rs : Int} {f : Nat → Int} {z s : Int} (h : UOK g R S rr rs f z s) (h1 : 96 ≤ f 1 ∧ f 1 ≤ 111) : f 1 ≤ 102 ∧ z = 9 ∧ uRec g S (f 4) s := by
  unfold UOK at h
  rcases h with h | h | h | h | h | h | h | h
  · exfalso; omega
  · exfalso; omega
  · exact ⟨h.2.1, h.2.2.2.1, h.2.2.2.2⟩
  · exfalso; omega
  · exfalso; omega
  · exfalso; omega
  · exfalso; omega
  · exfalso; omega
theorem UOK.d32 {R S : Nat} {rr rs : Int} {f : Nat → Int} {z s : Int} (h : UOK g R S rr rs f z s) (h1 : f 1 = 32) : z = 9 ∧ uRec g (S + 2) (f 4) s := by
  unfold UOK at h
  rcases h with h | h | h | h | h | h | h | h
  · exfalso; omega
  · exfalso; omega
  · exfalso; omega
  · exact ⟨h.2.2.1, h.2.2.2⟩
  · exfalso; omega
  · exfalso; omega
  · exfalso; omega
  · exfalso; omega
theorem UOK.dF {R S : Nat} {rr rs : Int} {f : Nat → Int} {z s : Int} (h : UOK g R S rr rs f z s) (h1 : (208 ≤ f 1 ∧ f 1 ≤ 223) ∨ (224 ≤ f 1 ∧ f 1 ≤ 239)) : (f 1 ≤ 214 ∨ (224 ≤ f 1 ∧ f 1 ≤ 230)) ∧ z = 11 ∧ uFrom g S rs (f 4) (f 5) s := by
  unfold UOK at h
  rcases h with h | h | h | h | h | h | h | h
  · exact ⟨Or.inr ⟨h.1, h.2.1⟩, h.2.2.2.1, h.2.2.2.2⟩
  · exact ⟨Or.inl h.2.1, h.2.2.2.1, h.2.2.2.2⟩
  · exfalso; omega
  · exfalso; omega
  · exfalso; omega
  · exfalso; omega
  · exfalso; omega
  · exfalso; omega
theorem sl_95 {p1 a2 a3 : Int32} {e f at_ : Nat} {ks : Int} {cz : Nat → Int → Int} {vz : VV} {Q : VV → Prop} (ho : 1 ≤ om ∧ om ≤ 9) (he : p1.toInt = (e : Int)) (hef : EF e f) (hL : L ≤ 511) (hd : 1 ≤ d0) (ha : a3.toInt = (at_ : Int)) (ha2 : at_ < 256) (hks : 0 ≤ ks ∧ ks ≤ 8) (k : ∀ v1, Iz cz vz (d0 - 1) d1 d2 L M κ om v1 → Q v1) : ∀ (n j : Nat) (a4 : Int32) (v : VV), Im g c d0 d1 d2 L M κ om v → Fx cz c vz v → (v 817 e).toInt = 2 → (v 825 e).toInt = 0 → sumL (fun m => v 856 (64 * e + m)) (v 854 e).toInt.toNat ≤ 5 → (v 848 at_).toInt = ks → ks < (n : Int) + (j : Int) → (j : Int) ≤ ks → a4.toInt = (j : Int) → b_X10_arriveData_95 p1 Q n p1 a2 a3 a4 v := by
  have l1 : Int32.toInt 1 = 1 := by decide
  have l8 : Int32.toInt 8 = 8 := by decide
  have l9 : Int32.toInt 9 = 9 := by decide
  have t3 := tn_of (x := a3) (by omega)
  have u3 : a3.toNatClampNeg = at_ := by omega
  intro n
  induction n with
  | zero => intro j a4 v h hz h1 h2 h3 h4 h5 h6 h7; exfalso; omega
  | succ n ih =>
    intro j a4 v h hz h1 h2 h3 h4 h5 h6 h7
    refine ⟨in_of (by omega) (by omega), ?_⟩
    intro x102 e102
    rw [u3] at e102
    have i102 := i_eq e102
    refine ⟨fun q => ?_, fun q => ?_⟩
    · refine s_putBehind h hz he hef hL h1 h2 h3 (fun v1 hv hs => ?_)
      unfold b_X10_arriveData_139
      exact s_sendReceipt hv ho he hef hs hd k
    · have q := i_nle q
      intro x113 e113 x116 e116 x125 e125
      have i113 := i_mul e113 (by rw [l8]; omega) (by rw [l8]; omega)
      rw [l8] at i113
      have i116 := i_add e116 (by omega) (by omega)
      have i125 := i_add e125 (by omega) (by omega)
      refine ⟨in_of (by omega) (by omega), ?_⟩
      intro x126 e126
      refine ⟨in_of (by omega) (by omega), ?_⟩
      intro v4 hv4 x128 e128
      have i128 := i_add e128 (by omega) (by omega)
      rw [hv4]
      refine ih (j + 1) x128 _ (h.put rfl (fun q => by cases q) (fun q => by omega)) (hz.put (by decide)) ?_ ?_ ?_ ?_ (by omega) (by omega) (by omega)
      · rw [up2_of _ _ _ _ (by decide)]; exact h1
      · rw [up2_of _ _ _ _ (by decide)]; exact h2
      · rw [up2_of _ _ _ _ (show 856 ≠ 850 by decide), up2_of _ _ _ _ (show 854 ≠ 850 by decide)]; exact h3
      · rw [up2_of _ _ _ _ (by decide)]; exact h4
/-- a piece is kept -/
theorem Im.keep {e f nn : Nat} {x : Int32} {m : Int} (h : Im g c d0 d1 d2 L M κ om v) (hef : EF e f) (hst : (v 817 e).toInt = 2) (hw : (v 825 e).toInt = 0) (hn : nn < 128) (hm : m = ((nn : Int) - g e (v 816 0).toInt) % 128) (hN : g e (v 816 0).toInt + m ≤ g (8 + e) 0) (hK : g e (v 816 0).toInt + m ≤ g e ((v 816 0).toInt - 4) + 6) (hx : 0 ≤ x.toInt ∧ x.toInt ≤ 8) : Im (gr g e (v 816 0).toInt (g e (v 816 0).toInt) (g (e + 2) (v 816 0).toInt) (max (g (4 + e) 0) (g e (v 816 0).toInt + m)) (g (4 + (e + 2)) 0)) c d0 d1 d2 L M κ om (up2 v 848 (128 * e + nn) x) := by
  have h' := h
  obtain ⟨⟨a1, a2, a3, a4⟩, hE, hF, hN0⟩ := h
  obtain ⟨sE, rE, cE, tE, uE⟩ := hE e f hef
  obtain ⟨r1, r2, r3, r4, r5, r6, r7, r8, r9⟩ := rE
  have he2 : e < 2 := by omega
  have St1 := tE.1.2.2.2.1
  have St2 := uE.1.2.2.2.1
  have K4 := tE.2
  have tl := tE.1.2.2.2.2.2
  have ul := uE.1.2.2.2.2.2
  have R : ∀ a, a ≠ 848 → up2 v 848 (128 * e + nn) x a = v a := fun a ha => up2_of _ _ _ _ ha
  refine h'.rside hef (fun a _ n2 => R a (fun q => by rw [q] at n2; cases n2)) (fun k _ => by rw [R 816 (by decide)]) (a2.cg (R _ (by decide)) (R _ (by decide)) (R _ (by decide)) (R _ (by decide)) (R _ (by decide)) (R _ (by decide))) (fun k => ⟨by rw [R _ (by decide)], by rw [R _ (by decide)], by rw [R _ (by decide)], by rw [R _ (by decide)], by rw [R _ (by decide)], by rw [R _ (by decide)], by rw [R _ (by decide)], by rw [R _ (by decide)], fun hk => up2_k _ _ _ _ (by omega), fun hk => ⟨by rw [R _ (by decide)], by rw [R _ (by decide)]⟩⟩) (Or.inl ⟨hw, by omega⟩) ⟨Int.le_refl _, by omega, by omega, by omega, fun q => by have := tl q; omega, by omega⟩ ⟨Int.le_refl _, Int.le_refl _, by omega, by omega, fun q => (ul q).2, uE.2.2⟩ ?_
  unfold iR
  rw [gr1 he2, gr2 he2, gr30 he2, R 816 (by decide), upH_ge (Int.le_refl _), upH_ge (Int.le_refl _), R 846 (by decide), R 847 (by decide), R 851 (by decide), R 852 (by decide), R 854 (by decide), R 855 (by decide), R 856 (by decide), R 858 (by decide), R 859 (by decide), R 861 (by decide)]
  refine ⟨r1, fun k hk => ?_, r3, r4, r5, r6, r7, r8, r9⟩
  by_cases ek : k = nn
  · rw [ek, up2_s]
    exact ⟨hx.2, fun _ => by omega⟩
  · rw [up2_k _ _ _ _ (by omega)]
    refine ⟨(r2 k hk).1, fun q => ?_⟩
    have := (r2 k hk).2 q
    omega
theorem s_arriveData {p1 : Int32} {e f : Nat} {s : Int} {cz : Nat → Int → Int} {vz : VV} {Q : VV → Prop} (h : Im g c d0 d1 d2 L M κ om v) (hz : Fx cz c vz v) (ho : 1 ≤ om ∧ om ≤ 9) (hκ : κ ≤ 12) (hL : L ≤ 511) (he : p1.toInt = (e : Int)) (hA : Arr g e f s v) (h240 : (v 872 1).toInt = 240) (own : 256 * (v 872 2).toInt + (v 872 3).toInt = (v 818 e).toInt) (hw : (v 817 e).toInt = 2 → (v 825 e).toInt = 0) (hd : 1 ≤ d0) (k : ∀ v1, Iz cz vz (d0 - 1) d1 d2 L M κ om v1 → Q v1) : w_X10_arriveData p1 v Q := by
  obtain ⟨hef, hs, hU, hB⟩ := hA
  have hrf := h.ref hκ hef
  obtain ⟨z1, z2, hdat⟩ := hU.d240 h240
  obtain ⟨a, d, hd1, hd2, hFD⟩ := Arr.dat (R := e) (S := f) hdat own (by omega)
  obtain ⟨sE, rE, cE, tE, uE⟩ := h.2.1 e f hef
  have tk := h.tok
  have l0 : Int32.toInt 0 = 0 := by decide
  have l2 : Int32.toInt 2 = 2 := by decide
  have l9 : Int32.toInt 9 = 9 := by decide
  have l128 : Int32.toInt 128 = 128 := by decide
  have t1 := tn_of (x := p1) (by omega)
  have u1 : p1.toNatClampNeg = e := by omega
  have hx := rE.1.1
  have hb4 := hB 4 (by omega)
  unfold w_X10_arriveData
  refine ⟨in_of (by omega) (by omega), ?_⟩
  intro x5 e5
  rw [u1] at e5
  have i5 := i_eq e5
  refine ⟨fun q => ?_, fun _ => k v ⟨g, c, h.less (by omega) (by omega) (by omega), hz⟩⟩
  have q := i_eq q
  have hst : (v 817 e).toInt = 2 := by omega
  intro x16 e16
  have i16 : x16.toInt = (v 872 4).toInt := i_eq e16
  refine s_mod (fun x17 r17 => ?_)
  intro x25 e25 x27 e27
  have i25 := i_mul e25 (by rw [l128]; omega) (by rw [l128]; omega)
  rw [l128] at i25
  have i27 := i_add e27 (by omega) (by omega)
  refine ⟨in_of (by omega) (by omega), ?_⟩
  intro x35 e35 x36 e36
  rw [u1] at e35
  have i35 := i_eq e35
  have i36 := i_sub e36 (by omega) (by omega)
  refine s_mod (fun x37 r37 => ?_)
  refine s_X10_credit p1 he hef rE (fun x42 r42 => ?_)
  have fin : b_X10_arriveData_139 p1 Q p1 x17 x27 v := by
    unfold b_X10_arriveData_139
    exact s_sendReceipt ⟨g, c, h, hz⟩ ho he hef hst hd k
  refine ⟨fun _ => fin, fun q2 => ?_⟩
  have q2 := i_nle q2
  have r42b := r42.2.2 (by omega)
  refine ⟨in_of (by omega) (by omega), ?_⟩
  intro x53 e53
  refine ⟨fun _ => fin, fun q3 => ?_⟩
  intro x63 e63 x68 e68
  have i63 := i_eq e63
  have i68 := i_sub e68 (by omega) (by omega)
  have t27 := tn_of (x := x27) (by omega)
  have u27 : x27.toNatClampNeg = 128 * e + x17.toInt.toNat := by omega
  refine ⟨in_of (by omega) (by omega), ?_⟩
  intro v7 h7 x80 e80
  rw [u27] at h7
  have tk3 := tE.1.take (d := d) (n := x17.toInt) (m := x37.toInt) hFD trivial hs.1 hs.2 hd1 (by omega) (by omega) (by omega)
  have hI := h.keep (x := x68) (m := x37.toInt) hef hst (hw hst) (nn := x17.toInt.toNat) (by omega) (by omega) tk3.2.1 tk3.2.2 (by omega)
  rw [← h7] at hI
  have R : ∀ a, a ≠ 848 → v7 a = v a := fun a ha => by rw [h7]; exact up2_of _ _ _ _ ha
  have hz7 : Fx cz c vz v7 := by rw [h7]; exact hz.put (by decide)
  have fin2 : ∀ s0 : Int32, b_X10_arriveData_91 p1 Q p1 x17 x27 s0 x27 v7 := by
    intro s0
    unfold b_X10_arriveData_91
    refine ⟨in_of (by omega) (by omega), ?_⟩
    intro v1 h1
    refine ⟨20, sl_95 (at_ := 128 * e + x17.toInt.toNat) (ks := x68.toInt) ho he hef hL hd (by omega) (by omega) (by omega) k 20 0 0 v1 (by rw [h1]; exact hI.put rfl (fun q => by cases q) (fun q => by omega)) (by rw [h1]; exact hz7.put (by decide)) ?_ ?_ ?_ ?_ (by omega) (by omega) (by decide)⟩
    · rw [h1, up2_of _ _ _ _ (by decide), R _ (by decide)]; exact hst
    · rw [h1, up2_of _ _ _ _ (by decide), R _ (by decide)]; exact hw hst
    · rw [h1, up2_of _ _ _ _ (show 856 ≠ 849 by decide), up2_of _ _ _ _ (show 854 ≠ 849 by decide), R 856 (by decide), R 854 (by decide)]; omega
    · rw [h1, up2_of _ _ _ _ (by decide), h7, up2_s]
  exact ⟨fun _ => fin2 0, fun _ => fin2 1⟩
/-- the receipt of an urgent unit -/
theorem s_urgRec {p1 x : Int32} {e f : Nat} {cz : Nat → Int → Int} {vz : VV} {Q : VV → Prop} (h : Iz cz vz d0 d1 d2 L M κ om v) (ho : 1 ≤ om ∧ om ≤ 9) (he : p1.toInt = (e : Int)) (hef : EF e f) (hst : (v 817 e).toInt = 2) (hd : 1 ≤ d0) (hx : x = v 847 e) (k : ∀ v1, Iz cz vz (d0 - 1) d1 d2 L M κ om v1 → Q v1) : w_X10_sendNumber p1 32 x v Q := by
  obtain ⟨g, c, h, hz⟩ := h
  obtain ⟨sE, rE, cE, tE, uE⟩ := h.2.1 e f hef
  have t1 := tn_of (x := p1) (by omega)
  have u1 : p1.toNatClampNeg = e := by omega
  have hx2 := rE.1.2
  have tk := h.tok
  have ix := i_eq hx
  refine s_sendNumber (by omega) (fun j => (h.1.2.1 j).2.2.2.2.2) (h.sc ho.2).1 (by decide) (by rw [u1]; exact cE.2.1) (by omega) (fun w r n hs hc h4 => ?_)
  rw [u1, show Int32.toInt 32 = 32 from by decide] at hc
  obtain ⟨c', i1, i2, i3⟩ := h.send (x1 := 0) (x2 := 0) ho hef he hs hc (by
    refine Or.inr (Or.inr (Or.inr (Or.inl ⟨hc.2.2.1, hc.2.1, rfl, g (e + 2) (v 816 0).toInt, ?_, uE.1.fr⟩)))
    show nb (r 4).toInt _
    rw [h4, ix, hx2]; exact nb.rf) (fun _ => by omega) (by unfold lv1; rw [if_neg (by omega)]) (by unfold lv2; rw [if_neg (by omega)]) (by omega) (by omega) (by omega)
  exact k w ⟨g, c', i1.less (by omega) (by omega) (by omega), i2 cz vz hz⟩
/-- an urgent byte is taken in -/
theorem Im.urgIn {e f : Nat} {x y : Int32} (h : Im g c d0 d1 d2 L M κ om v) (hef : EF e f) (hst : (v 817 e).toInt = 2) (hw : (v 825 e).toInt = 0) (hN : g (e + 2) (v 816 0).toInt ≤ g (8 + (e + 2)) 0) (hK : g (e + 2) (v 816 0).toInt ≤ g (e + 2) ((v 816 0).toInt - 4) + 6) (hx : x.toInt = (v 861 e).toInt + 1) (hy : y.toInt = ((v 847 e).toInt + 1) % 128) : Im (gr g e (v 816 0).toInt (g e (v 816 0).toInt) (g (e + 2) (v 816 0).toInt + 1) (g (4 + e) 0) (max (g (4 + (e + 2)) 0) (g (e + 2) (v 816 0).toInt))) c d0 d1 d2 L M κ om (up2 (up2 v 861 e x) 847 e y) := by
  have h' := h
  obtain ⟨⟨a1, a2, a3, a4⟩, hE, hF, hN0⟩ := h
  obtain ⟨sE, rE, cE, tE, uE⟩ := hE e f hef
  obtain ⟨r1, r2, r3, r4, r5, r6, r7, r8, r9⟩ := rE
  have he2 : e < 2 := by omega
  have St1 := tE.1.2.2.2.1
  have St2 := uE.1.2.2.2.1
  have K4 := uE.2
  have tl := tE.1.2.2.2.2.2
  have ul := uE.1.2.2.2.2.2
  have R : ∀ a, a ≠ 861 → a ≠ 847 → up2 (up2 v 861 e x) 847 e y a = v a := fun a ha hb => by rw [up2_of _ _ _ _ hb, up2_of _ _ _ _ ha]
  have R861 : up2 (up2 v 861 e x) 847 e y 861 = upd (v 861) e x := by rw [up2_of _ _ _ _ (by decide), up2_f]
  have R847 : up2 (up2 v 861 e x) 847 e y 847 = upd (v 847) e y := by rw [up2_f, up2_of _ _ _ _ (by decide)]
  generalize up2 (up2 v 861 e x) 847 e y = w at *
  refine h'.rside hef (fun a _ n2 => R a (fun q => by rw [q] at n2; cases n2) (fun q => by rw [q] at n2; cases n2)) (fun k _ => by rw [R 816 (by decide) (by decide)]) (a2.cg (R _ (by decide) (by decide)) (R _ (by decide) (by decide)) (R _ (by decide) (by decide)) (R _ (by decide) (by decide)) (R _ (by decide) (by decide)) (R _ (by decide) (by decide))) (fun k => ⟨by rw [R _ (by decide) (by decide)], by rw [R847, upd_n (by omega)], by rw [R _ (by decide) (by decide)], by rw [R _ (by decide) (by decide)], by rw [R _ (by decide) (by decide)], by rw [R _ (by decide) (by decide)], by rw [R _ (by decide) (by decide)], by rw [R861, upd_n (by omega)], fun hk => by rw [R _ (by decide) (by decide)], fun hk => ⟨by rw [R _ (by decide) (by decide)], by rw [R _ (by decide) (by decide)]⟩⟩) (Or.inl ⟨hw, by omega⟩) ⟨Int.le_refl _, Int.le_refl _, by omega, by omega, fun q => (tl q).2, tE.2.2⟩ ⟨by omega, by omega, by omega, by omega, fun q => by have := ul q; omega, by omega⟩ ?_
  unfold iR
  rw [gr1 he2, gr2 he2, gr30 he2, R 816 (by decide) (by decide), upH_ge (Int.le_refl _), upH_ge (Int.le_refl _), R847, R861, upd_s, upd_s, R 846 (by decide) (by decide), R 848 (by decide) (by decide), R 851 (by decide) (by decide), R 852 (by decide) (by decide), R 854 (by decide) (by decide), R 855 (by decide) (by decide), R 856 (by decide) (by decide), R 858 (by decide) (by decide), R 859 (by decide) (by decide)]
  exact ⟨⟨r1.1, by omega⟩, r2, r3, r4, r5, r6, r7, r8, by omega⟩
theorem s_arriveUrgent {p1 : Int32} {e f : Nat} {s : Int} {cz : Nat → Int → Int} {vz : VV} {Q : VV → Prop} (h : Im g c d0 d1 d2 L M κ om v) (hz : Fx cz c vz v) (ho : 1 ≤ om ∧ om ≤ 9) (hκ : κ ≤ 12) (hL : L ≤ 511) (he : p1.toInt = (e : Int)) (hA : Arr g e f s v) (h16 : (v 872 1).toInt = 16) (own : 256 * (v 872 2).toInt + (v 872 3).toInt = (v 818 e).toInt) (hw : (v 817 e).toInt = 2 → (v 825 e).toInt = 0) (hd : 1 ≤ d0) (k : ∀ v1, Iz cz vz (d0 - 1) d1 d2 L M κ om v1 → Q v1) : w_X10_arriveUrgent p1 v Q := by
  obtain ⟨hef, hs, hU, hB⟩ := hA
  have hrf := h.ref hκ hef
  obtain ⟨z1, hdat⟩ := hU.d16 h16
  obtain ⟨a, d, hd1, hd2, hFD⟩ := Arr.dat (R := e) (S := f) hdat own (by omega)
  obtain ⟨sE, rE, cE, tE, uE⟩ := h.2.1 e f hef
  have tk := h.tok
  have c4 := h.c4
  have l1 : Int32.toInt 1 = 1 := by decide
  have l2 : Int32.toInt 2 = 2 := by decide
  have l9 : Int32.toInt 9 = 9 := by decide
  have l1024 : Int32.toInt 1024 = 1024 := by decide
  have t1 := tn_of (x := p1) (by omega)
  have u1 : p1.toNatClampNeg = e := by omega
  have hx := rE.1.2
  have hurs := rE.2.2.2.2.2.2.2.2
  have St2 := uE.1.2.2.2.1
  have K4 := uE.2
  have hb4 := hB 4 (by omega)
  unfold w_X10_arriveUrgent
  refine ⟨in_of (by omega) (by omega), ?_⟩
  intro x5 e5
  rw [u1] at e5
  have i5 := i_eq e5
  refine ⟨fun q => ?_, fun _ => k v ⟨g, c, h.less (by omega) (by omega) (by omega), hz⟩⟩
  have q := i_eq q
  have hst : (v 817 e).toInt = 2 := by omega
  intro x16 e16
  have i16 : x16.toInt = (v 872 4).toInt := i_eq e16
  refine s_mod (fun x17 r17 => ?_)
  refine ⟨in_of (by omega) (by omega), ?_⟩
  intro x25 e25
  rw [u1] at e25
  have i25 := i_eq e25
  refine ⟨fun _ => ?_, fun q2 => ?_⟩
  · unfold b_X10_arriveUrgent_89
    refine ⟨in_of (by omega) (by omega), ?_⟩
    intro x98 e98
    rw [u1] at e98
    exact s_urgRec ⟨g, c, h, hz⟩ ho he hef hst hd e98 k
  · have q2 := i_eq q2
    intro x30 e30
    have i30 := i_eq e30
    refine ⟨fun q3 => ?_, fun _ => ?_⟩
    · have := i_le q3
      exfalso
      omega
    · intro x46 e46
      have i46 := i_mul e46 (by rw [l1024]; omega) (by rw [l1024]; omega)
      rw [l1024] at i46
      refine ⟨in_of (by omega) (by omega), ?_⟩
      intro x52 e52 x53 e53 x60 e60
      rw [u1] at e52
      have i52 := i_eq e52
      have i53 := i_add e53 (by omega) (by omega)
      refine ⟨in_of (by omega) (by omega), ?_⟩
      intro v5 h5
      have R5 : ∀ a, a ≠ 862 → v5 a = v a := fun a ha => by rw [h5]; exact up2_of _ _ _ _ ha
      refine ⟨in_of (by omega) (by omega), ?_⟩
      intro x68 e68 x70 e70
      rw [u1, R5 861 (by decide)] at e68
      have i68 := i_eq e68
      have i70 := i_add e70 (by omega) (by omega)
      refine ⟨in_of (by omega) (by omega), ?_⟩
      intro v8 h8
      rw [u1] at h8
      unfold b_X10_arriveUrgent_72
      refine ⟨in_of (by omega) (by omega), ?_⟩
      intro x82 e82 x84 e84
      rw [u1, h8, up2_o _ _ _ _ _ (by decide), R5 847 (by decide)] at e82
      have i82 := i_eq e82
      have i84 := i_add e84 (by omega) (by omega)
      refine s_mod (fun x85 r85 => ?_)
      refine ⟨in_of (by omega) (by omega), ?_⟩
      intro v3 h3
      rw [u1] at h3
      have tk3 := uE.1.take (d := d) (n := x17.toInt) (m := 0) hFD trivial hs.1 hs.2 hd1 (by omega) (by omega) (by omega)
      have hI5 : Im g c d0 d1 d2 L M κ om v5 := by rw [h5]; exact h.put rfl (fun q => by cases q) (fun q => by omega)
      have hz5 : Fx cz c vz v5 := by rw [h5]; exact hz.put (by decide)
      have n5 : v5 816 = v 816 := R5 816 (by decide)
      have hI3 := hI5.urgIn (x := x70) (y := x85) hef (by rw [R5 817 (by decide)]; exact hst) (by rw [R5 825 (by decide)]; exact hw hst) (by rw [n5]; omega) (by rw [n5]; omega) (by rw [R5 861 (by decide)]; omega) (by rw [R5 847 (by decide)]; omega)
      rw [← h8, ← h3] at hI3
      unfold b_X10_arriveUrgent_89
      refine ⟨in_of (by omega) (by omega), ?_⟩
      intro x98 e98
      rw [u1] at e98
      exact s_urgRec ⟨_, c, hI3, by rw [h3, h8]; exact (hz5.put (by decide)).put (by decide)⟩ ho he hef (by rw [h3, up2_o _ _ _ _ _ (by decide), h8, up2_o _ _ _ _ _ (by decide), R5 817 (by decide)]; exact hst) hd e98 k
end IM
