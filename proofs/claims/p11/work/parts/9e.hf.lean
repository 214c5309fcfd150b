/-! faults, and a unit carried over -/
def HF (v : VV) (k u : Int32) : Prop := ∃ i : Nat, (i : Int) < (v 816 49).toInt ∧ v 864 i = k ∧ v 865 i = u
def fcN (v : VV) (k : Int32) (u : Int) : Nat → Int
  | 0 => 0
  | n + 1 => fcN v k u n + (if v 864 n = k ∧ u ≤ (v 865 n).toInt then 1 else 0)
def fc (v : VV) (k : Int32) (u : Int) : Int := fcN v k u (v 816 49).toInt.toNat
theorem fcN_nn {v : VV} {k : Int32} {u : Int} : ∀ n, 0 ≤ fcN v k u n
  | 0 => Int.le_refl _
  | n + 1 => by
    have := fcN_nn (v := v) (k := k) (u := u) n
    show 0 ≤ fcN v k u n + (if v 864 n = k ∧ u ≤ (v 865 n).toInt then 1 else 0)
    split <;> omega
theorem fcN_mo {v : VV} {k : Int32} {u w : Int} (h : u ≤ w) : ∀ n, fcN v k w n ≤ fcN v k u n
  | 0 => Int.le_refl _
  | n + 1 => by
    have := fcN_mo (v := v) (k := k) h n
    show fcN v k w n + (if v 864 n = k ∧ w ≤ (v 865 n).toInt then 1 else 0) ≤ fcN v k u n + (if v 864 n = k ∧ u ≤ (v 865 n).toInt then 1 else 0)
    by_cases q : v 864 n = k ∧ w ≤ (v 865 n).toInt
    · rw [if_pos q, if_pos ⟨q.1, by omega⟩]; omega
    · rw [if_neg q]; split <;> omega
theorem fcN_hit {v : VV} {k : Int32} {u : Int} {i : Nat} (h1 : v 864 i = k) (h2 : (v 865 i).toInt = u) : ∀ n, i < n → fcN v k (u + 1) n + 1 ≤ fcN v k u n
  | 0, h => absurd h (Nat.not_lt_zero _)
  | n + 1, h => by
    show fcN v k (u + 1) n + (if v 864 n = k ∧ u + 1 ≤ (v 865 n).toInt then 1 else 0) + 1 ≤ fcN v k u n + (if v 864 n = k ∧ u ≤ (v 865 n).toInt then 1 else 0)
    by_cases e : i = n
    · subst e
      have := fcN_mo (v := v) (k := k) (show u ≤ u + 1 by omega) i
      rw [if_neg (by omega), if_pos ⟨h1, by omega⟩]
      omega
    · have := fcN_hit (u := u) h1 h2 n (by omega)
      by_cases q : v 864 n = k ∧ u + 1 ≤ (v 865 n).toInt
      · rw [if_pos q, if_pos ⟨q.1, by omega⟩]; omega
      · rw [if_neg q]; split <;> omega
theorem fcN_23 {v : VV} {u w : Int} : ∀ n : Nat, fcN v 2 u n + fcN v 3 w n ≤ (n : Int)
  | 0 => Int.le_refl _
  | n + 1 => by
    have := fcN_23 (v := v) (u := u) (w := w) n
    show fcN v 2 u n + (if v 864 n = 2 ∧ u ≤ (v 865 n).toInt then 1 else 0) + (fcN v 3 w n + (if v 864 n = 3 ∧ w ≤ (v 865 n).toInt then 1 else 0)) ≤ ((n + 1 : Nat) : Int)
    by_cases q : v 864 n = 2
    · rw [if_neg (c := v 864 n = 3 ∧ w ≤ (v 865 n).toInt) (fun k => absurd (q.symm.trans k.1) (by decide))]
      split <;> omega
    · rw [if_neg (c := v 864 n = 2 ∧ u ≤ (v 865 n).toInt) (fun k => q k.1)]
      split <;> omega
theorem fc_nn {v : VV} {k : Int32} {u : Int} : 0 ≤ fc v k u := fcN_nn _
theorem fc_mo {v : VV} {k : Int32} {u w : Int} (h : u ≤ w) : fc v k w ≤ fc v k u := fcN_mo h _
theorem fc_hit {v : VV} {k x : Int32} {u : Int} (h : HF v k x) (hx : x.toInt = u) : fc v k (u + 1) + 1 ≤ fc v k u := by
  obtain ⟨i, h1, h2, h3⟩ := h
  exact fcN_hit h2 (by rw [h3]; exact hx) _ (by omega)
theorem fc_23 {v : VV} {u w : Int} (h : 0 ≤ (v 816 49).toInt ∧ (v 816 49).toInt ≤ 60) : fc v 2 u + fc v 3 w ≤ 60 := by
  have := fcN_23 (v := v) (u := u) (w := w) (v 816 49).toInt.toNat
  unfold fc
  omega
theorem fcN_cg {v v1 : VV} {k : Int32} {u : Int} (h1 : v1 864 = v 864) (h2 : v1 865 = v 865) : ∀ n, fcN v1 k u n = fcN v k u n
  | 0 => rfl
  | n + 1 => by
    show fcN v1 k u n + (if v1 864 n = k ∧ u ≤ (v1 865 n).toInt then 1 else 0) = fcN v k u n + (if v 864 n = k ∧ u ≤ (v 865 n).toInt then 1 else 0)
    rw [fcN_cg h1 h2 n, h1, h2]
theorem fc_cg {c c' : Nat → Int → Int} {v v1 : VV} {k : Int32} {u : Int} (h : Fx c c' v v1) : fc v1 k u = fc v k u := by
  unfold fc
  rw [h.1.2.2.1, fcN_cg h.1.2.2.2.1 h.1.2.2.2.2]
theorem sl_hasFault {v : VV} {p1 p2 : Int32} {Q : Int32 → VV → Prop} (hf : 0 ≤ (v 816 49).toInt ∧ (v 816 49).toInt ≤ 60) (k : ∀ x : Int32, (¬ x = 0 → HF v p1 p2) → Q x v) : ∀ (m j : Nat) (a3 a4 : Int32), (v 816 49).toInt < (m : Int) + (j : Int) → (a3 = 0 ∨ a3 = 1) → (¬ a3 = 0 → HF v p1 p2) → a4.toInt = (j : Int) → (j : Int) ≤ (v 816 49).toInt → b_X10_hasFault_5 p1 p2 Q m p1 p2 a3 a4 v := by
  have l1 : Int32.toInt 1 = 1 := by decide
  intro m
  induction m with
  | zero => intro j a3 a4 h1 h2 h3 h4 h5; exfalso; omega
  | succ m ih =>
    intro j a3 a4 h1 h2 h3 h4 h5
    have nx : ∀ s0 : Int32, (s0 = 0 ∨ s0 = 1) → (¬ s0 = 0 → HF v p1 p2) → (j : Int) < (v 816 49).toInt → b_X10_hasFault_45 p1 p2 Q (fun b1 b2 b3 b4 w => b_X10_hasFault_5 p1 p2 Q m b1 b2 b3 b4 w) p1 p2 a3 a4 s0 v := by
      intro s0 hs0 hs1 hj
      unfold b_X10_hasFault_45
      intro x46 e46
      have i46 := i_add e46 (by omega) (by omega)
      exact ih (j + 1) s0 x46 (by omega) hs0 hs1 (by omega) (by omega)
    intro x8 e8
    have i8 := i_eq e8
    refine ⟨fun _ => ⟨h2, k a3 h3⟩, fun q => ?_⟩
    have q := i_nle q
    have t4 := tn_of (x := a4) (by omega)
    refine ⟨fun c => ?_, fun c => ⟨in_of (by omega) (by omega), ?_⟩⟩
    · unfold b_X10_hasFault_40
      exact nx 1 (Or.inr rfl) (fun _ => h3 c) (by omega)
    · intro x24 e24
      have n44 : b_X10_hasFault_44 p1 p2 Q (fun b1 b2 b3 b4 w => b_X10_hasFault_5 p1 p2 Q m b1 b2 b3 b4 w) p1 p2 a3 a4 v := by
        unfold b_X10_hasFault_44
        exact nx 0 (Or.inl rfl) (fun c => absurd rfl c) (by omega)
      refine ⟨fun _ => n44, fun c2 => ⟨in_of (by omega) (by omega), ?_⟩⟩
      intro x35 e35
      refine ⟨fun _ => n44, fun c3 => ?_⟩
      unfold b_X10_hasFault_40
      refine nx 1 (Or.inr rfl) (fun _ => ⟨a4.toNatClampNeg, by omega, ?_, ?_⟩) (by omega)
      · rw [← e24]; exact c2
      · rw [← e35]; exact c3
theorem s_hasFault {v : VV} {p1 p2 : Int32} {Q : Int32 → VV → Prop} (hf : 0 ≤ (v 816 49).toInt ∧ (v 816 49).toInt ≤ 60) (k : ∀ x : Int32, (¬ x = 0 → HF v p1 p2) → Q x v) : w_X10_hasFault p1 p2 v Q :=
  ⟨100, sl_hasFault hf k 100 0 0 0 (by omega) (Or.inl rfl) (fun c => absurd rfl c) (by decide) (by omega)⟩
theorem byt_xor {x a m : Int32} (e : x = a ^^^ m) (ha : byt a) (hm : byt m) : byt x := by
  have N : ∀ b : Int32, byt b → b.toBitVec.toNat < 256 := fun b hb => by
    have h3 : b.toInt = b.toBitVec.toInt := rfl
    have h4 := b.toBitVec.isLt
    have h0 : 0 ≤ b.toInt := hb.1
    have h5 : b.toInt ≤ 255 := hb.2
    rw [h3, BitVec.toInt_eq_toNat_cond] at h0 h5
    split at h0
    · rename_i q; rw [if_pos q] at h5; omega
    · omega
  have h1 : x.toBitVec.toNat < 256 := by
    rw [e]
    show (a.toBitVec ^^^ m.toBitVec).toNat < 256
    rw [BitVec.toNat_xor]
    exact Nat.xor_lt_two_pow (n := 8) (N a ha) (N m hm)
  have h2 : x.toInt = x.toBitVec.toInt := rfl
  show 0 ≤ x.toInt ∧ x.toInt ≤ 255
  rw [h2, BitVec.toInt_eq_toNat_cond, if_pos (by omega)]
  omega
section IM
variable {g g' c c' : Nat → Int → Int} {d0 d1 d2 L M κ om : Int} {v v1 z : VV}
/-- with other bytes in arrived -/
theorem Im.ar {r : Nat → Int32} (h : Im g c d0 d1 d2 L M κ om v) : Im g c d0 d1 d2 L M κ om (up1 v 872 r) := by
  refine h.cg (fun a ha => up1_of _ _ (fun q => by rw [q] at ha; cases ha)) (fun k _ => by rw [up1_of _ _ (by decide)]) (h.1.2.1.cg (up1_of _ _ (by decide)) (up1_of _ _ (by decide)) (up1_of _ _ (by decide)) (up1_of _ _ (by decide)) (up1_of _ _ (by decide)) (up1_of _ _ (by decide)))
theorem Fx.ar {cz : Nat → Int → Int} {vz : VV} {r : Nat → Int32} (h : Fx cz c vz v) : Fx cz c vz (up1 v 872 r) := by
  obtain ⟨⟨a1, a2, a3, a4, a5⟩, a6, a7, a8, a9⟩ := h
  refine ⟨⟨?_, ?_, ?_, ?_, ?_⟩, ?_, a7, a8, fun a ha => ?_⟩
  · rw [up1_of _ _ (by decide)]; exact a1
  · rw [up1_of _ _ (by decide)]; exact a2
  · rw [up1_of _ _ (by decide)]; exact a3
  · rw [up1_of _ _ (by decide)]; exact a4
  · rw [up1_of _ _ (by decide)]; exact a5
  · rw [up1_of _ _ (by decide)]; exact a6
  · rw [up1_of _ _ (by omega)]; exact a9 a ha
/-- arrived holds the unit, spoiled perhaps; it is handed to its end -/
theorem s_136 {p1 a1 a2 a3 a4 : Int32} {U R S : Nat} {s code : Int} {cz : Nat → Int → Int} {vz : VV} {Q : VV → Prop} (h : Im g c d0 d1 d2 L M κ om v) (hz : Fx cz c vz v) (ho : 1 ≤ om ∧ om ≤ 9) (hκ : κ ≤ 0) (hL : L ≤ 511) (ha : a2.toInt = ((U % 4096 : Nat) : Int)) (hR : (v 870 (U % 4096)).toInt = (R : Int)) (hA : AR g R S s code v) (h0 : lv1 code ≤ d0) (h1 : lv2 code ≤ d1) (k : ∀ v1, Iz cz vz (d0 - lv1 code) (d1 - lv2 code) d2 L M κ om v1 → Q v1) : b_X10_carry_136 p1 Q a1 a2 a3 a4 v := by
  have t2 := tn_of (x := a2) (by omega)
  have u2 : a2.toNatClampNeg = U % 4096 := by omega
  unfold b_X10_carry_136
  refine ⟨in_of (by omega) (by omega), ?_⟩
  intro x142 e142
  rw [u2] at e142
  exact s_arrive h hz ho hκ hL (by rw [e142]; exact hR) hA h0 h1 k
theorem sl_54c {p1 a2 : Int32} {U R S : Nat} {s code : Int} {cz : Nat → Int → Int} {vz : VV} {Q : VV → Prop} (h : Im g c d0 d1 d2 L M κ om v) (hz : Fx cz c vz v) (ho : 1 ≤ om ∧ om ≤ 9) (hκ : κ ≤ 0) (hL : L ≤ 511) (ha : a2.toInt = ((U % 4096 : Nat) : Int)) (hR : (v 870 (U % 4096)).toInt = (R : Int)) (hef : EF R S) (hs : (v 816 0).toInt - 8 ≤ s ∧ s ≤ (v 816 0).toInt - 2) (hU : UOK g R S (v 818 R).toInt (v 818 S).toInt (fun i => (v 868 (20 * (U % 4096) + i)).toInt) (v 816 61).toInt s) (hsum : sumL (fun i => v 868 (20 * (U % 4096) + i)) (v 816 61).toInt.toNat % 255 = 0) (hcode : (v 868 (20 * (U % 4096) + 1)).toInt = code) (harr : ∀ i : Nat, (i : Int) < (v 816 61).toInt → v 872 i = v 868 (20 * (U % 4096) + i)) (h0 : lv1 code ≤ d0) (h1 : lv2 code ≤ d1) (k : ∀ v1, Iz cz vz (d0 - lv1 code) (d1 - lv2 code) d2 L M κ om v1 → Q v1) : ∀ (m j : Nat) (a3 a4 : Int32), (v 816 49).toInt < (m : Int) + (j : Int) → (a3.toInt = -1 ∨ (0 ≤ a3.toInt ∧ a3.toInt < (v 816 49).toInt ∧ (v 864 (a3.toInt.toNat)).toInt = 4)) → a4.toInt = (j : Int) → (j : Int) ≤ (v 816 49).toInt → b_X10_carry_54 p1 Q m p1 a2 a3 a4 v := by
  have l1 : Int32.toInt 1 = 1 := by decide
  have l0 : Int32.toInt 0 = 0 := by decide
  have l4 : Int32.toInt 4 = 4 := by decide
  have hf := h.1.1.2.2
  have hsz := hU.size
  have hB := h.1.2.1
  have hO : ∀ i, byt ((fun i => v 868 (20 * (U % 4096) + i)) i) := fun i => (hB _).2.2.2.2.1
  intro m
  induction m with
  | zero => intro j a3 a4 h1 h2 h3 h4; exfalso; omega
  | succ m ih =>
    intro j a3 a4 g1 g2 g3 g4
    intro x57 e57
    have i57 := i_eq e57
    refine ⟨fun q => ⟨fun q2 => ?_, fun q2 => ?_⟩, fun q => ?_⟩
    · exact s_136 h hz ho hκ hL ha hR ⟨hef, hs, fun i => v 868 (20 * (U % 4096) + i), 0, hcode, hU, hO, hsum, fun i hi => by rw [harr i hi]; exact hO i, fun i hi _ => harr i hi⟩ h0 h1 k
    · have q2 := i_nlt q2
      have g2 : 0 ≤ a3.toInt ∧ a3.toInt < (v 816 49).toInt ∧ (v 864 (a3.toInt.toNat)).toInt = 4 := by omega
      have t3 := tn_of (x := a3) (by omega)
      have u3 : a3.toNatClampNeg = a3.toInt.toNat := by omega
      have fa := h.1.2.2.1 a3.toInt.toNat (by omega) g2.2.2
      refine ⟨in_of (by omega) (by omega), ?_⟩
      intro x107 e107 x109 e109
      rw [u3] at e107
      have i107 := i_eq e107
      have i109 := i_eq e109
      refine ⟨fun q3 => by have q3 := i_eq q3; omega, ?_⟩
      intro x112 e112
      have i112 := i_remb e112 (by omega) (by omega)
      refine ⟨in_of (by omega) (by omega), ?_⟩
      intro x127 e127
      refine ⟨in_of (by omega) (by omega), ?_⟩
      intro x133 e133 x134 e134
      rw [u3] at e133
      have i133 := i_eq e133
      have t112 := tn_of (x := x112) (by omega)
      have b127 : byt x127 := by rw [e127, harr _ (by omega)]; exact hO _
      have b134 := byt_xor e134 b127 (by omega)
      refine ⟨in_of (by omega) (by omega), ?_⟩
      intro v4 h4
      have R4 : ∀ a, a ≠ 872 → v4 a = v a := fun a n => by rw [h4, up2_of _ _ _ _ n]
      have I4 : Im g c d0 d1 d2 L M κ om v4 := by rw [h4]; exact h.put rfl (fun q => by cases q) (fun q => by omega)
      have F4 : Fx cz c vz v4 := by rw [h4]; exact hz.put (by decide)
      refine s_136 (S := S) (s := s) I4 F4 ho hκ hL ha (by rw [R4 _ (by decide)]; exact hR) ?_ h0 h1 k
      unfold AR
      rw [R4 816 (by decide), R4 818 (by decide)]
      refine ⟨hef, hs, fun i => v 868 (20 * (U % 4096) + i), x112.toNatClampNeg, hcode, hU, hO, hsum, fun i hi => ?_, fun i hi hne => ?_⟩
      · rw [h4]
        by_cases ei : i = x112.toNatClampNeg
        · rw [ei, up2_s]; exact b134
        · rw [up2_k _ _ _ _ ei, harr i hi]; exact hO i
      · rw [h4, up2_k _ _ _ _ hne]; exact harr i hi
    · have q := i_nle q
      refine ⟨in_of (by omega) (by omega), ?_⟩
      intro x69 e69
      have t4 := tn_of (x := a4) (by omega)
      have u4 : a4.toNatClampNeg = j := by omega
      rw [u4] at e69
      have i69 := i_eq e69
      have nx : ∀ s0 : Int32, (s0.toInt = -1 ∨ (0 ≤ s0.toInt ∧ s0.toInt < (v 816 49).toInt ∧ (v 864 (s0.toInt.toNat)).toInt = 4)) → b_X10_carry_91 p1 Q (fun b1 b2 b3 b4 w => b_X10_carry_54 p1 Q m b1 b2 b3 b4 w) p1 a2 a3 a4 s0 v := by
        intro s0 hs0
        unfold b_X10_carry_91
        intro x92 e92
        have i92 := i_add e92 (by omega) (by omega)
        exact ih (j + 1) s0 x92 (by omega) hs0 (by omega) (by omega)
      have n90 : b_X10_carry_90 p1 Q (fun b1 b2 b3 b4 w => b_X10_carry_54 p1 Q m b1 b2 b3 b4 w) p1 a2 a3 a4 v := by
        unfold b_X10_carry_90
        exact nx a3 g2
      refine ⟨fun _ => n90, fun c2 => ⟨in_of (by omega) (by omega), ?_⟩⟩
      have c2 := i_eq c2
      intro x80 e80
      refine ⟨fun _ => n90, fun _ => ?_⟩
      exact nx a4 (Or.inr ⟨by omega, by omega, by rw [show a4.toInt.toNat = j by omega]; omega⟩)
theorem s_carry {p1 : Int32} {U : Nat} {code : Int} {cz : Nat → Int → Int} {vz : VV} {Q : VV → Prop} (h : Im g c d0 d1 d2 L M κ om v) (hz : Fx cz c vz v) (ho : 1 ≤ om ∧ om ≤ 9) (hκ : κ ≤ 0) (hL : L ≤ 511) (hu : p1.toInt = (U : Int)) (hu1 : (v 816 55).toInt ≤ (U : Int)) (hu2 : (U : Int) < (v 816 54).toInt) (hs : (v 871 (U % 4096)).toInt ≤ (v 816 0).toInt - 2) (hcode : (v 868 (20 * (U % 4096) + 1)).toInt = code) (h0 : lv1 code ≤ d0) (h1 : lv2 code ≤ d1) (k : ∀ v1, Iz cz vz (d0 - lv1 code) (d1 - lv2 code) d2 L M κ om v1 → Q v1) : w_X10_carry p1 v Q := by
  have l4096 : Int32.toInt 4096 = 4096 := by decide
  have l20 : Int32.toInt 20 = 20 := by decide
  have l1 : Int32.toInt 1 = 1 := by decide
  obtain ⟨R, S, hef, k1, k2, k3, k4, k5, k6⟩ := h.2.2.1 U hu1 hu2
  have hy := h.2.2.2.young ho.2 hu1 k4.2
  have hsz := k2.size
  unfold w_X10_carry
  intro x4 e4
  have i4 := i_rem e4 (by omega) (by decide)
  rw [l4096] at i4
  have t4 := tn_of (x := x4) (by omega)
  have u4 : x4.toNatClampNeg = U % 4096 := by omega
  refine ⟨in_of (by omega) (by omega), ?_⟩
  intro x12 e12 v2 h2
  rw [u4] at e12
  have i12 := i_eq e12
  have R2 : ∀ a, a ≠ 816 → v2 a = v a := fun a n => by rw [h2, up2_of _ _ _ _ n]
  have K2 : ∀ q, q ≠ 61 → v2 816 q = v 816 q := fun q n => by rw [h2, up2_k _ _ _ _ n]
  have I2 : Im g c d0 d1 d2 L M κ om v2 := by rw [h2]; exact h.put rfl (fun _ => by decide) (fun q => by omega)
  have F2 : Fx cz c vz v2 := by rw [h2]; exact hz.put0 (by decide)
  have a61 : v2 816 61 = x12 := by rw [h2, up2_s]
  have loop : ∀ (m j : Nat) (a3 : Int32), x12.toInt < (m : Int) + (j : Int) → (j : Int) ≤ x12.toInt → a3.toInt = (j : Int) → b_X10_carry_18 p1 Q m p1 x4 a3 (up1 v2 872 (cpR (v 872) (fun i => v 868 (20 * (U % 4096) + i)) 0 j)) := by
    intro m
    induction m with
    | zero => intro j a3 g1 g2 g3; exfalso; omega
    | succ m ih =>
      intro j a3 g1 g2 g3
      have z816 : up1 v2 872 (cpR (v 872) (fun i => v 868 (20 * (U % 4096) + i)) 0 j) 816 = v2 816 := up1_of _ _ (by decide)
      have zo : ∀ a, a ≠ 872 → a ≠ 816 → up1 v2 872 (cpR (v 872) (fun i => v 868 (20 * (U % 4096) + i)) 0 j) a = v a := fun a n1 n2 => by rw [up1_of _ _ n1, R2 a n2]
      have z872 : up1 v2 872 (cpR (v 872) (fun i => v 868 (20 * (U % 4096) + i)) 0 j) 872 = cpR (v 872) (fun i => v 868 (20 * (U % 4096) + i)) 0 j := by funext b; simp [up1]
      intro x20 e20
      rw [z816, a61] at e20
      refine ⟨fun q => ?_, fun q => ?_⟩
      · have q := i_le q
        rw [e20] at q
        have ej : (j : Int) = x12.toInt := by omega
        refine ⟨100, sl_54c (U := U) (R := R) (S := S) (s := (v 871 (U % 4096)).toInt) (code := code) I2.ar F2.ar ho hκ hL (by omega) ?_ hef ?_ ?_ ?_ ?_ ?_ h0 h1 k 100 0 (-1) 0 ?_ (Or.inl (by decide)) (by decide) ?_⟩
        · rw [zo _ (by decide) (by decide)]; exact k1
        · rw [z816, K2 0 (by decide)]; exact ⟨hy, hs⟩
        · rw [z816, a61, zo 868 (by decide) (by decide), zo 818 (by decide) (by decide), i12]; exact k2
        · rw [z816, a61, zo 868 (by decide) (by decide), i12]; exact k3
        · rw [zo 868 (by decide) (by decide)]; exact hcode
        · intro i hi
          rw [z816, a61] at hi
          rw [z872, zo 868 (by decide) (by decide)]
          unfold cpR
          rw [if_pos (by omega)]
          rfl
        · rw [z816, K2 49 (by decide)]; have := h.1.1.2.2; omega
        · rw [z816, K2 49 (by decide)]; have := h.1.1.2.2; omega
      · have q := i_nle q
        rw [e20] at q
        intro x38 e38 x40 e40
        have i38 := i_mul e38 (by rw [l20]; omega) (by rw [l20]; omega)
        rw [l20] at i38
        have i40 := i_add e40 (by omega) (by omega)
        refine ⟨in_of (by omega) (by omega), ?_⟩
        intro x41 e41
        refine ⟨in_of (by omega) (by omega), ?_⟩
        intro w2 hw2 x43 e43
        have i43 := i_add e43 (by omega) (by omega)
        have t3 := tn_of (x := a3) (by omega)
        have u3 : a3.toNatClampNeg = 0 + j := by omega
        have t40 := tn_of (x := x40) (by omega)
        have u40 : x40.toNatClampNeg = 20 * (U % 4096) + j := by omega
        rw [zo 868 (by decide) (by decide), u40] at e41
        have hv : w2 = up1 v2 872 (cpR (v 872) (fun i => v 868 (20 * (U % 4096) + i)) 0 (j + 1)) := by
          rw [hw2, u3, e41, ← cpR_s]
          funext a b
          simp only [up2, up1, upd]
          by_cases q1 : a = 872
          · by_cases q2 : b = 0 + j
            · simp [q1, q2]
            · simp [q1, q2]
          · simp [q1]
        rw [hv]
        exact ih (j + 1) x43 (by omega) (by omega) (by omega)
  have q := loop 30 0 0 (by omega) (by omega) (by decide)
  rw [cpR_0] at q
  have e2 : up1 v2 872 (v 872) = v2 := by
    funext a b
    by_cases q : a = 872
    · rw [q, h2]; simp [up1, up2]
    · rw [up1_of _ _ q]
  rw [e2] at q
  exact ⟨30, q⟩
end IM
