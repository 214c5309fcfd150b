def rE (p x : Int32) : Int32 := if p = 0 ∨ p = 1 then x else -1
theorem rE_y {p x : Int32} (h : p = 0 ∨ p = 1) : rE p x = x := if_pos h
theorem rE_n {p x : Int32} (h : ¬ (p = 0 ∨ p = 1)) : rE p x = -1 := if_neg h
theorem e01 {p : Int32} (h : p = 0 ∨ p = 1) : ∃ j : Nat, j < 2 ∧ p = nI j := by
  rcases h with rfl | rfl
  · exact ⟨0, by decide, rfl⟩
  · exact ⟨1, by decide, rfl⟩
def ugB (p b : Int32) : Prop := (p = 0 ∨ p = 1) ∧ ¬ b < 0 ∧ b ≤ 255
def flB (k n p m : Int32) : Prop := ¬ k < 1 ∧ k ≤ 4 ∧ ¬ n < 0 ∧ (k = 4 → ¬ p < 0 ∧ ¬ m < 1 ∧ m ≤ 255)
theorem up2_same {v : VV} {o k : Nat} {x : Int32} (h : v o k = x) : v = up2 v o k x := by
  funext a b
  simp only [up2]
  by_cases h1 : a = o
  · by_cases h2 : b = k
    · rw [if_pos h1, if_pos h2, h1, h2, h]
    · rw [if_pos h1, if_neg h2]
  · rw [if_neg h1]
theorem nle_lt {a b : Int32} (h : ¬ a ≤ b) : b < a := Int32.not_le.mp h
def tyB (n : Int32) : Prop := ¬ n < 1 ∧ n ≤ 8
def tkB (n : Int32) : Prop := ¬ n < 1 ∧ n ≤ 20
theorem m1_ (r : Nat) : nI (r + 1) - 1 + (-1) = nI r - 1 := by
  rw [nI_pred, Int32.sub_eq_add_neg]
set_option maxHeartbeats 4000000 in
set_option maxRecDepth 100000 in
/-- isNoEnd(end) -/
theorem c9_isNoEnd (l : Launch) (dC : Nat → ClassId) (dI : Nat → Nat → Nat) (base : Nat) (cy : Nat → ClassId) (v : VV) (p1 : Int32) : CI l yX9_isNoEnd (.code yX9_isNoEnd cX9_isNoEnd 1 (some .boolean) :: TB) { frames := 0, cells := 0, slots := 0, locals := 0 } dC dI base cy [.int p1] v (fun (x : Int32) (v' : VV) => v' = v ∧ x = (if p1 = 0 ∨ p1 = 1 then 0 else 1)) := by
  refine Met.ofW (cc := cX9_isNoEnd) (maxL := 1) (ret := (some .boolean)) (by decide) rfl ?_
  intro p e s m args below meth c s₁ B hml hv
  obtain ⟨rfl, hP, hK⟩ := hv
  have hx := B.exec
  have hb := B.bytes
  have hr := B.returns
  have hts0 := atoms_spec (ws := (.code yX9_isNoEnd cX9_isNoEnd 1 (some .boolean) :: TB)) B.pre
  have hts : ∀ w ∈ TB, w.before ([.int p1]).toArray s = true := fun w h => hts0 w (List.mem_cons_of_mem _ h)
  have hown : s.vm.findClass RX9 = some m.cls := findClass_of_methodNamed B.named
  have hlocks := B.notSynchronized
  have hS : va_S (fun q => base ≤ q) s.heap s.heap [] := va_S.rf
  have hl := lv_entry ([.int p1]) (n := 1) (Nat.le_of_ble_eq_true rfl)
  rw [lg_entry_eq]
  generalize (lg_sl ([.int p1]) ++ List.replicate (1 - (lg_sl ([.int p1])).length) Slot.unset).toArray = ls at hl ⊢
  have hl : lv_has ls 1 [(0, .int p1)] := hl
  refine lv_iload_n hx hb dX9_isNoEnd_0 rfl (lv_at hl 0 rfl) ?_
  refine lv_if_eq (tgt := 13) hx hb dX9_isNoEnd_1 (by decide) (fun c1 => ?_) (fun c1 => ?_)
  · refine lv_iconst (v := 0) hx hb dX9_isNoEnd_13 (by decide) ?_
    exact W.zret (v := 0) hx hb hr (rfl) (fun t ht hW => ⟨⟨0, v, rfl, ⟨rfl, by simp_all⟩, by rw [ht]; exact hP, va_K.moved hW.alike hK⟩, hS.F ht⟩) hS.2.2 dX9_isNoEnd_14
  · refine lv_iload_n hx hb dX9_isNoEnd_4 rfl (lv_at hl 0 rfl) ?_
    refine lv_iconst (v := 1) hx hb dX9_isNoEnd_5 (by decide) ?_
    refine lv_icmp_eq (tgt := 13) hx hb dX9_isNoEnd_6 (by decide) (fun c6 => ?_) (fun c6 => ?_)
    · refine lv_iconst (v := 0) hx hb dX9_isNoEnd_13 (by decide) ?_
      exact W.zret (v := 0) hx hb hr (rfl) (fun t ht hW => ⟨⟨0, v, rfl, ⟨rfl, by simp_all⟩, by rw [ht]; exact hP, va_K.moved hW.alike hK⟩, hS.F ht⟩) hS.2.2 dX9_isNoEnd_14
    · refine lv_iconst (v := 1) hx hb dX9_isNoEnd_9 (by decide) ?_
      refine lv_goto (tgt := 14) hx hb dX9_isNoEnd_10 (by decide) ?_
      exact W.zret (v := 1) hx hb hr (rfl) (fun t ht hW => ⟨⟨1, v, rfl, ⟨rfl, by simp_all⟩, by rw [ht]; exact hP, va_K.moved hW.alike hK⟩, hS.F ht⟩) hS.2.2 dX9_isNoEnd_14
set_option maxHeartbeats 4000000 in
set_option maxRecDepth 100000 in
/-- call(end) on a new object -/
theorem c9_call (l : Launch) (dC : Nat → ClassId) (dI : Nat → Nat → Nat) (base : Nat) (cy : Nat → ClassId) (v : VV) (hf : Fc v) (p1 : Int32) : CI l yX9_call (.code yX9_call cX9_call 2 (some .int) :: TB) { frames := 5, cells := 0, slots := 0, locals := 120 } dC dI base cy [.ref (base + 0), .int p1] v (fun (x : Int32) (v' : VV) => x = rE p1 1 ∧ Fr (fun a => a < 816) v v') := by
  refine Met.ofW (cc := cX9_call) (maxL := 2) (ret := (some .int)) (by decide) rfl ?_
  intro p e s m args below meth c s₁ B hml hv
  obtain ⟨rfl, hP, hK⟩ := hv
  have hx := B.exec
  have hb := B.bytes
  have hr := B.returns
  have hts0 := atoms_spec (ws := (.code yX9_call cX9_call 2 (some .int) :: TB)) B.pre
  have hts : ∀ w ∈ TB, w.before ([.ref (base + 0), .int p1]).toArray s = true := fun w h => hts0 w (List.mem_cons_of_mem _ h)
  have hown : s.vm.findClass RX9 = some m.cls := findClass_of_methodNamed B.named
  have hlocks := B.notSynchronized
  have hS : va_S (fun q => base ≤ q) s.heap s.heap [] := va_S.rf
  have hl := lv_entry ([.ref (base + 0), .int p1]) (n := 2) (Nat.le_of_ble_eq_true rfl)
  rw [lg_entry_eq]
  generalize (lg_sl ([.ref (base + 0), .int p1]) ++ List.replicate (2 - (lg_sl ([.ref (base + 0), .int p1])).length) Slot.unset).toArray = ls at hl ⊢
  have hl : lv_has ls 2 [(0, .ref (base + 0)), (1, .int p1)] := hl
  refine lv_iload_n hx hb dX9_call_0 rfl (lv_at hl 1 rfl) ?_
  refine kS_I (As := [.int p1]) (rest := []) ⟨hx, hb, hml, hown, hts⟩ (c9_isNoEnd l dC dI base cy v p1) (cwS 1 hts (gS ml_X9_29 mt_X9_isNoEnd mn_X9 mo_X9_isNoEnd) rfl rfl rfl (by decide +kernel) ⟨by decide, by decide⟩) hK hP hS rfl hl.1 rfl (Nat.le_of_ble_eq_true rfl) dX9_call_1 ⟨Nat.zero_le _, Nat.zero_le _⟩ (fun x1 v1 H locs hv1 hP hS => ?_)
  rw [hv1.1] at hP
  have ex1 := hv1.2
  refine lv_if_eq (tgt := 9) hx hb dX9_call_4 (by decide) (fun c4 => ?_) (fun c4 => ?_)
  · have hp : p1 = 0 ∨ p1 = 1 := by
      rw [ex1] at c4
      by_cases q : p1 = 0 ∨ p1 = 1
      · exact q
      · rw [if_neg q] at c4; exact absurd c4 (by decide)
    obtain ⟨j, hj2, hj⟩ := e01 hp
    have ho := (arE hj2).2
    have eb := endB _ ho.1 ho.2
    refine lv_aload_n hx hb dX9_call_9 rfl (lv_at hl 0 rfl) ?_
    have q2 := ch9_1 i9
    refine w_gR (C := RX9) (T := TX9) (N := 4) (ci := 9) hx hb hts in9 hown hK hP 1 i9.1 i9 rfl (by decide) q2.1 (hts _ mf_X9_21) dX9_call_10 ?_
    refine lv_iload_n hx hb dX9_call_13 rfl (lv_at hl 1 rfl) ?_
    have q3 := arE (i := j) (hj2)
    refine w_aa (q0 := 3) hx hb hK hP q2.2.1.1 q2.2.1 (by decide) rfl q2.2.2 (by rw [hj]; exact vp_in_nI hj2 (by decide)) (by rw [hj, nI_clamp (by omega)]; exact q3.1) dX9_call_14 ?_
    refine k_I (As := []) (rest := []) ⟨hx, hb, hml, hown, hts⟩ (c0_callPeer0 l dC dI base cy (523 + 146 * j) ho v hf) (cwV 0 hts (gV ml_X9_33 mi_X0_callPeer mx_X0_callPeer mn_X0 mo_X0_callPeer) rfl rfl rfl (by decide +kernel) ⟨by decide, by decide⟩) hK hP hS q3.2 (by decide) rfl rfl hl.1 rfl (Nat.le_of_ble_eq_true rfl) dX9_call_15 ⟨Nat.zero_le _, Nat.zero_le _⟩ (fun x15 v4 H locs hv4 hP hS => ?_)
    exact W.iret (v := x15) hx hb hr (fun t ht hW => ⟨⟨x15, v4, rfl, ⟨by rw [rE_y hp]; exact hv4.1, hv4.2⟩, by rw [ht]; exact hP, va_K.moved hW.alike hK⟩, hS.F ht⟩) hS.2.2 dX9_call_18
  · have hp : ¬ (p1 = 0 ∨ p1 = 1) := by
      intro q
      rw [ex1, if_pos q] at c4
      exact c4 rfl
    refine lv_iconst (v := -1) hx hb dX9_call_7 (by decide) ?_
    exact W.iret (v := (-1)) hx hb hr (fun t ht hW => ⟨⟨(-1), v, rfl, ⟨(rE_n hp).symm, Fr.rf⟩, by rw [ht]; exact hP, va_K.moved hW.alike hK⟩, hS.F ht⟩) hS.2.2 dX9_call_8
set_option maxHeartbeats 4000000 in
set_option maxRecDepth 100000 in
/-- end(end) on a new object -/
theorem c9_end (l : Launch) (dC : Nat → ClassId) (dI : Nat → Nat → Nat) (base : Nat) (cy : Nat → ClassId) (v : VV) (hf : Fc v) (p1 : Int32) : CI l yX9_end (.code yX9_end cX9_end 2 (some .int) :: TB) { frames := 1, cells := 0, slots := 0, locals := 22 } dC dI base cy [.ref (base + 0), .int p1] v (fun (x : Int32) (v' : VV) => x = rE p1 (-2) ∧ Fr (fun a => a < 816) v v') := by
  refine Met.ofW (cc := cX9_end) (maxL := 2) (ret := (some .int)) (by decide) rfl ?_
  intro p e s m args below meth c s₁ B hml hv
  obtain ⟨rfl, hP, hK⟩ := hv
  have hx := B.exec
  have hb := B.bytes
  have hr := B.returns
  have hts0 := atoms_spec (ws := (.code yX9_end cX9_end 2 (some .int) :: TB)) B.pre
  have hts : ∀ w ∈ TB, w.before ([.ref (base + 0), .int p1]).toArray s = true := fun w h => hts0 w (List.mem_cons_of_mem _ h)
  have hown : s.vm.findClass RX9 = some m.cls := findClass_of_methodNamed B.named
  have hlocks := B.notSynchronized
  have hS : va_S (fun q => base ≤ q) s.heap s.heap [] := va_S.rf
  have hl := lv_entry ([.ref (base + 0), .int p1]) (n := 2) (Nat.le_of_ble_eq_true rfl)
  rw [lg_entry_eq]
  generalize (lg_sl ([.ref (base + 0), .int p1]) ++ List.replicate (2 - (lg_sl ([.ref (base + 0), .int p1])).length) Slot.unset).toArray = ls at hl ⊢
  have hl : lv_has ls 2 [(0, .ref (base + 0)), (1, .int p1)] := hl
  refine lv_iload_n hx hb dX9_end_0 rfl (lv_at hl 1 rfl) ?_
  refine kS_I (As := [.int p1]) (rest := []) ⟨hx, hb, hml, hown, hts⟩ (c9_isNoEnd l dC dI base cy v p1) (cwS 1 hts (gS ml_X9_29 mt_X9_isNoEnd mn_X9 mo_X9_isNoEnd) rfl rfl rfl (by decide +kernel) ⟨by decide, by decide⟩) hK hP hS rfl hl.1 rfl (Nat.le_of_ble_eq_true rfl) dX9_end_1 ⟨Nat.zero_le _, Nat.zero_le _⟩ (fun x1 v1 H locs hv1 hP hS => ?_)
  rw [hv1.1] at hP
  have ex1 := hv1.2
  refine lv_if_eq (tgt := 9) hx hb dX9_end_4 (by decide) (fun c4 => ?_) (fun c4 => ?_)
  · have hp : p1 = 0 ∨ p1 = 1 := by
      rw [ex1] at c4
      by_cases q : p1 = 0 ∨ p1 = 1
      · exact q
      · rw [if_neg q] at c4; exact absurd c4 (by decide)
    obtain ⟨j, hj2, hj⟩ := e01 hp
    have ho := (arE hj2).2
    have eb := endB _ ho.1 ho.2
    refine lv_aload_n hx hb dX9_end_9 rfl (lv_at hl 0 rfl) ?_
    have q2 := ch9_1 i9
    refine w_gR (C := RX9) (T := TX9) (N := 4) (ci := 9) hx hb hts in9 hown hK hP 1 i9.1 i9 rfl (by decide) q2.1 (hts _ mf_X9_21) dX9_end_10 ?_
    refine lv_iload_n hx hb dX9_end_13 rfl (lv_at hl 1 rfl) ?_
    have q3 := arE (i := j) (hj2)
    refine w_aa (q0 := 3) hx hb hK hP q2.2.1.1 q2.2.1 (by decide) rfl q2.2.2 (by rw [hj]; exact vp_in_nI hj2 (by decide)) (by rw [hj, nI_clamp (by omega)]; exact q3.1) dX9_end_14 ?_
    refine k_I (As := []) (rest := []) ⟨hx, hb, hml, hown, hts⟩ (c0_endConnection0 l dC dI base cy (523 + 146 * j) ho v (hf.E ho 8 (by decide) (by decide))) (cwV 0 hts (gV ml_X9_49 mi_X0_endConnection mx_X0_endConnection mn_X0 mo_X0_endConnection) rfl rfl rfl (by decide +kernel) ⟨by decide, by decide⟩) hK hP hS q3.2 (by decide) rfl rfl hl.1 rfl (Nat.le_of_ble_eq_true rfl) dX9_end_15 ⟨Nat.zero_le _, Nat.zero_le _⟩ (fun x15 v4 H locs hv4 hP hS => ?_)
    rw [hv4.1] at hP
    have ex15 := hv4.2
    exact W.iret (v := x15) hx hb hr (fun t ht hW => ⟨⟨x15, v, rfl, ⟨by rw [rE_y hp]; exact ex15, Fr.rf⟩, by rw [ht]; exact hP, va_K.moved hW.alike hK⟩, hS.F ht⟩) hS.2.2 dX9_end_18
  · have hp : ¬ (p1 = 0 ∨ p1 = 1) := by
      intro q
      rw [ex1, if_pos q] at c4
      exact c4 rfl
    refine lv_iconst (v := -1) hx hb dX9_end_7 (by decide) ?_
    exact W.iret (v := (-1)) hx hb hr (fun t ht hW => ⟨⟨(-1), v, rfl, ⟨(rE_n hp).symm, Fr.rf⟩, by rw [ht]; exact hP, va_K.moved hW.alike hK⟩, hS.F ht⟩) hS.2.2 dX9_end_8
set_option maxHeartbeats 4000000 in
set_option maxRecDepth 100000 in
/-- take(end) on a new object -/
theorem c9_take (l : Launch) (dC : Nat → ClassId) (dI : Nat → Nat → Nat) (base : Nat) (cy : Nat → ClassId) (v : VV) (hf : Fc v) (p1 : Int32) : CI l yX9_take (.code yX9_take cX9_take 2 (some .int) :: TB) { frames := 3, cells := 0, slots := 0, locals := 64 } dC dI base cy [.ref (base + 0), .int p1] v (fun (x : Int32) (v' : VV) => x = rE p1 (-2) ∧ Fr (fun a => a < 816) v v') := by
  refine Met.ofW (cc := cX9_take) (maxL := 2) (ret := (some .int)) (by decide) rfl ?_
  intro p e s m args below meth c s₁ B hml hv
  obtain ⟨rfl, hP, hK⟩ := hv
  have hx := B.exec
  have hb := B.bytes
  have hr := B.returns
  have hts0 := atoms_spec (ws := (.code yX9_take cX9_take 2 (some .int) :: TB)) B.pre
  have hts : ∀ w ∈ TB, w.before ([.ref (base + 0), .int p1]).toArray s = true := fun w h => hts0 w (List.mem_cons_of_mem _ h)
  have hown : s.vm.findClass RX9 = some m.cls := findClass_of_methodNamed B.named
  have hlocks := B.notSynchronized
  have hS : va_S (fun q => base ≤ q) s.heap s.heap [] := va_S.rf
  have hl := lv_entry ([.ref (base + 0), .int p1]) (n := 2) (Nat.le_of_ble_eq_true rfl)
  rw [lg_entry_eq]
  generalize (lg_sl ([.ref (base + 0), .int p1]) ++ List.replicate (2 - (lg_sl ([.ref (base + 0), .int p1])).length) Slot.unset).toArray = ls at hl ⊢
  have hl : lv_has ls 2 [(0, .ref (base + 0)), (1, .int p1)] := hl
  refine lv_iload_n hx hb dX9_take_0 rfl (lv_at hl 1 rfl) ?_
  refine kS_I (As := [.int p1]) (rest := []) ⟨hx, hb, hml, hown, hts⟩ (c9_isNoEnd l dC dI base cy v p1) (cwS 1 hts (gS ml_X9_29 mt_X9_isNoEnd mn_X9 mo_X9_isNoEnd) rfl rfl rfl (by decide +kernel) ⟨by decide, by decide⟩) hK hP hS rfl hl.1 rfl (Nat.le_of_ble_eq_true rfl) dX9_take_1 ⟨Nat.zero_le _, Nat.zero_le _⟩ (fun x1 v1 H locs hv1 hP hS => ?_)
  rw [hv1.1] at hP
  have ex1 := hv1.2
  refine lv_if_eq (tgt := 9) hx hb dX9_take_4 (by decide) (fun c4 => ?_) (fun c4 => ?_)
  · have hp : p1 = 0 ∨ p1 = 1 := by
      rw [ex1] at c4
      by_cases q : p1 = 0 ∨ p1 = 1
      · exact q
      · rw [if_neg q] at c4; exact absurd c4 (by decide)
    obtain ⟨j, hj2, hj⟩ := e01 hp
    have ho := (arE hj2).2
    have eb := endB _ ho.1 ho.2
    refine lv_aload_n hx hb dX9_take_9 rfl (lv_at hl 0 rfl) ?_
    have q2 := ch9_1 i9
    refine w_gR (C := RX9) (T := TX9) (N := 4) (ci := 9) hx hb hts in9 hown hK hP 1 i9.1 i9 rfl (by decide) q2.1 (hts _ mf_X9_21) dX9_take_10 ?_
    refine lv_iload_n hx hb dX9_take_13 rfl (lv_at hl 1 rfl) ?_
    have q3 := arE (i := j) (hj2)
    refine w_aa (q0 := 3) hx hb hK hP q2.2.1.1 q2.2.1 (by decide) rfl q2.2.2 (by rw [hj]; exact vp_in_nI hj2 (by decide)) (by rw [hj, nI_clamp (by omega)]; exact q3.1) dX9_take_14 ?_
    refine k_I (As := []) (rest := []) ⟨hx, hb, hml, hown, hts⟩ (c0_takeMessage0 l dC dI base cy (523 + 146 * j) ho v (hf.z (ch0_3 ho).2 (by decide) (by omega) 10)) (cwV 0 hts (gV ml_X9_52 mi_X0_takeMessage mx_X0_takeMessage mn_X0 mo_X0_takeMessage) rfl rfl rfl (by decide +kernel) ⟨by decide, by decide⟩) hK hP hS q3.2 (by decide) rfl rfl hl.1 rfl (Nat.le_of_ble_eq_true rfl) dX9_take_15 ⟨Nat.zero_le _, Nat.zero_le _⟩ (fun x15 v4 H locs hv4 hP hS => ?_)
    rw [hv4.1] at hP
    have ex15 := hv4.2
    exact W.iret (v := x15) hx hb hr (fun t ht hW => ⟨⟨x15, v, rfl, ⟨by rw [rE_y hp]; exact ex15, Fr.rf⟩, by rw [ht]; exact hP, va_K.moved hW.alike hK⟩, hS.F ht⟩) hS.2.2 dX9_take_18
  · have hp : ¬ (p1 = 0 ∨ p1 = 1) := by
      intro q
      rw [ex1, if_pos q] at c4
      exact c4 rfl
    refine lv_iconst (v := -1) hx hb dX9_take_7 (by decide) ?_
    exact W.iret (v := (-1)) hx hb hr (fun t ht hW => ⟨⟨(-1), v, rfl, ⟨(rE_n hp).symm, Fr.rf⟩, by rw [ht]; exact hP, va_K.moved hW.alike hK⟩, hS.F ht⟩) hS.2.2 dX9_take_8
set_option maxHeartbeats 4000000 in
set_option maxRecDepth 100000 in
/-- send(end) on a new object -/
theorem c9_send (l : Launch) (dC : Nat → ClassId) (dI : Nat → Nat → Nat) (base : Nat) (cy : Nat → ClassId) (v : VV) (hf : Fc v) (p1 : Int32) : CI l yX9_send (.code yX9_send cX9_send 3 (some .int) :: TB) { frames := 1, cells := 0, slots := 0, locals := 24 } dC dI base cy [.ref (base + 0), .int p1] v (fun (x : Int32) (v' : VV) => x = rE p1 (-2) ∧ Fr (fun a => a < 816) v v') := by
  refine Met.ofW (cc := cX9_send) (maxL := 3) (ret := (some .int)) (by decide) rfl ?_
  intro p e s m args below meth c s₁ B hml hv
  obtain ⟨rfl, hP, hK⟩ := hv
  have hx := B.exec
  have hb := B.bytes
  have hr := B.returns
  have hts0 := atoms_spec (ws := (.code yX9_send cX9_send 3 (some .int) :: TB)) B.pre
  have hts : ∀ w ∈ TB, w.before ([.ref (base + 0), .int p1]).toArray s = true := fun w h => hts0 w (List.mem_cons_of_mem _ h)
  have hown : s.vm.findClass RX9 = some m.cls := findClass_of_methodNamed B.named
  have hlocks := B.notSynchronized
  have hS : va_S (fun q => base ≤ q) s.heap s.heap [] := va_S.rf
  have hl := lv_entry ([.ref (base + 0), .int p1]) (n := 3) (Nat.le_of_ble_eq_true rfl)
  rw [lg_entry_eq]
  generalize (lg_sl ([.ref (base + 0), .int p1]) ++ List.replicate (3 - (lg_sl ([.ref (base + 0), .int p1])).length) Slot.unset).toArray = ls at hl ⊢
  have hl : lv_has ls 3 [(0, .ref (base + 0)), (1, .int p1)] := hl
  refine lv_iload_n hx hb dX9_send_0 rfl (lv_at hl 1 rfl) ?_
  refine kS_I (As := [.int p1]) (rest := []) ⟨hx, hb, hml, hown, hts⟩ (c9_isNoEnd l dC dI base cy v p1) (cwS 1 hts (gS ml_X9_29 mt_X9_isNoEnd mn_X9 mo_X9_isNoEnd) rfl rfl rfl (by decide +kernel) ⟨by decide, by decide⟩) hK hP hS rfl hl.1 rfl (Nat.le_of_ble_eq_true rfl) dX9_send_1 ⟨Nat.zero_le _, Nat.zero_le _⟩ (fun x1 v1 H locs hv1 hP hS => ?_)
  rw [hv1.1] at hP
  have ex1 := hv1.2
  refine lv_if_eq (tgt := 9) hx hb dX9_send_4 (by decide) (fun c4 => ?_) (fun c4 => ?_)
  · have hp : p1 = 0 ∨ p1 = 1 := by
      rw [ex1] at c4
      by_cases q : p1 = 0 ∨ p1 = 1
      · exact q
      · rw [if_neg q] at c4; exact absurd c4 (by decide)
    obtain ⟨j, hj2, hj⟩ := e01 hp
    have ho := (arE hj2).2
    have eb := endB _ ho.1 ho.2
    refine lv_aload_n hx hb dX9_send_9 rfl (lv_at hl 0 rfl) ?_
    have q2 := ch9_1 i9
    refine w_gR (C := RX9) (T := TX9) (N := 4) (ci := 9) hx hb hts in9 hown hK hP 1 i9.1 i9 rfl (by decide) q2.1 (hts _ mf_X9_21) dX9_send_10 ?_
    refine lv_iload_n hx hb dX9_send_13 rfl (lv_at hl 1 rfl) ?_
    have q3 := arE (i := j) (hj2)
    refine w_aa (q0 := 3) hx hb hK hP q2.2.1.1 q2.2.1 (by decide) rfl q2.2.2 (by rw [hj]; exact vp_in_nI hj2 (by decide)) (by rw [hj, nI_clamp (by omega)]; exact q3.1) dX9_send_14 ?_
    refine lv_aload_n hx hb dX9_send_15 rfl (lv_at hl 0 rfl) ?_
    have q4 := ch9_2 i9
    refine w_gR (C := RX9) (T := TX9) (N := 4) (ci := 9) hx hb hts in9 hown hK hP 2 i9.1 i9 rfl (by decide) q4.1 (hts _ mf_X9_25) dX9_send_16 ?_
    refine lv_aload_n hx hb dX9_send_19 rfl (lv_at hl 0 rfl) ?_
    refine w_gI (C := RX9) (T := TX9) (N := 4) (ci := 9) hx hb hts in9 hown hK hP 3 i9.1 i9 rfl (by decide) (hts _ mf_X9_37) dX9_send_20 ?_
    refine lv_topi (fun x20 ex20 => ?_)
    refine k_I (As := [.ref (base + 815), .int x20]) (rest := []) ⟨hx, hb, hml, hown, hts⟩ (c0_sendMessage0 l dC dI base cy (523 + 146 * j) ho v 815 x20 (hf.E ho 8 (by decide) (by decide))) (cwV 2 hts (gV ml_X9_41 mi_X0_sendMessage mx_X0_sendMessage mn_X0 mo_X0_sendMessage) rfl rfl rfl (by decide +kernel) ⟨by decide, by decide⟩) hK hP hS q3.2 (by decide) rfl rfl hl.1 rfl (Nat.le_of_ble_eq_true rfl) dX9_send_23 ⟨Nat.zero_le _, Nat.zero_le _⟩ (fun x23 v5 H locs hv5 hP hS => ?_)
    rw [hv5.1] at hP
    have ex23 := hv5.2
    refine lv_istore_n (lv' := [(2, .int x23), (0, .ref (base + 0)), (1, .int p1)]) hx hb dX9_send_26 rfl hl (by decide) rfl (fun ls hl => ?_)
    refine lv_iload_n hx hb dX9_send_27 rfl (lv_at hl 0 rfl) ?_
    refine lv_if_lt (tgt := 36) hx hb dX9_send_28 (by decide) (fun c28 => ?_) (fun c28 => ?_)
    · refine lv_iload_n hx hb dX9_send_36 rfl (lv_at hl 0 rfl) ?_
      exact W.iret (v := x23) hx hb hr (fun t ht hW => ⟨⟨x23, v, rfl, ⟨by rw [rE_y hp]; exact ex23, Fr.rf⟩, by rw [ht]; exact hP, va_K.moved hW.alike hK⟩, hS.F ht⟩) hS.2.2 dX9_send_37
    · exact absurd (by rw [ex23]; decide) c28
  · have hp : ¬ (p1 = 0 ∨ p1 = 1) := by
      intro q
      rw [ex1, if_pos q] at c4
      exact c4 rfl
    refine lv_iconst (v := -1) hx hb dX9_send_7 (by decide) ?_
    exact W.iret (v := (-1)) hx hb hr (fun t ht hW => ⟨⟨(-1), v, rfl, ⟨(rE_n hp).symm, Fr.rf⟩, by rw [ht]; exact hP, va_K.moved hW.alike hK⟩, hS.F ht⟩) hS.2.2 dX9_send_8
set_option maxHeartbeats 4000000 in
set_option maxRecDepth 100000 in
/-- told(end, what) on a new object -/
theorem c9_told (l : Launch) (dC : Nat → ClassId) (dI : Nat → Nat → Nat) (base : Nat) (cy : Nat → ClassId) (v : VV) (hf : Fc v) (p1 : Int32) (p2 : Int32) : CI l yX9_told (.code yX9_told cX9_told 3 (some .int) :: TB) { frames := 3, cells := 0, slots := 0, locals := 64 } dC dI base cy [.ref (base + 0), .int p1, .int p2] v (fun (x : Int32) (v' : VV) => x = rE p1 (told0 p2) ∧ Fr (fun a => a < 816) v v') := by
  refine Met.ofW (cc := cX9_told) (maxL := 3) (ret := (some .int)) (by decide) rfl ?_
  intro p e s m args below meth c s₁ B hml hv
  obtain ⟨rfl, hP, hK⟩ := hv
  have hx := B.exec
  have hb := B.bytes
  have hr := B.returns
  have hts0 := atoms_spec (ws := (.code yX9_told cX9_told 3 (some .int) :: TB)) B.pre
  have hts : ∀ w ∈ TB, w.before ([.ref (base + 0), .int p1, .int p2]).toArray s = true := fun w h => hts0 w (List.mem_cons_of_mem _ h)
  have hown : s.vm.findClass RX9 = some m.cls := findClass_of_methodNamed B.named
  have hlocks := B.notSynchronized
  have hS : va_S (fun q => base ≤ q) s.heap s.heap [] := va_S.rf
  have hl := lv_entry ([.ref (base + 0), .int p1, .int p2]) (n := 3) (Nat.le_of_ble_eq_true rfl)
  rw [lg_entry_eq]
  generalize (lg_sl ([.ref (base + 0), .int p1, .int p2]) ++ List.replicate (3 - (lg_sl ([.ref (base + 0), .int p1, .int p2])).length) Slot.unset).toArray = ls at hl ⊢
  have hl : lv_has ls 3 [(0, .ref (base + 0)), (1, .int p1), (2, .int p2)] := hl
  refine lv_iload_n hx hb dX9_told_0 rfl (lv_at hl 1 rfl) ?_
  refine kS_I (As := [.int p1]) (rest := []) ⟨hx, hb, hml, hown, hts⟩ (c9_isNoEnd l dC dI base cy v p1) (cwS 1 hts (gS ml_X9_29 mt_X9_isNoEnd mn_X9 mo_X9_isNoEnd) rfl rfl rfl (by decide +kernel) ⟨by decide, by decide⟩) hK hP hS rfl hl.1 rfl (Nat.le_of_ble_eq_true rfl) dX9_told_1 ⟨Nat.zero_le _, Nat.zero_le _⟩ (fun x1 v1 H locs hv1 hP hS => ?_)
  rw [hv1.1] at hP
  have ex1 := hv1.2
  refine lv_if_eq (tgt := 9) hx hb dX9_told_4 (by decide) (fun c4 => ?_) (fun c4 => ?_)
  · have hp : p1 = 0 ∨ p1 = 1 := by
      rw [ex1] at c4
      by_cases q : p1 = 0 ∨ p1 = 1
      · exact q
      · rw [if_neg q] at c4; exact absurd c4 (by decide)
    obtain ⟨j, hj2, hj⟩ := e01 hp
    have ho := (arE hj2).2
    have eb := endB _ ho.1 ho.2
    refine lv_aload_n hx hb dX9_told_9 rfl (lv_at hl 0 rfl) ?_
    have q2 := ch9_1 i9
    refine w_gR (C := RX9) (T := TX9) (N := 4) (ci := 9) hx hb hts in9 hown hK hP 1 i9.1 i9 rfl (by decide) q2.1 (hts _ mf_X9_21) dX9_told_10 ?_
    refine lv_iload_n hx hb dX9_told_13 rfl (lv_at hl 1 rfl) ?_
    have q3 := arE (i := j) (hj2)
    refine w_aa (q0 := 3) hx hb hK hP q2.2.1.1 q2.2.1 (by decide) rfl q2.2.2 (by rw [hj]; exact vp_in_nI hj2 (by decide)) (by rw [hj, nI_clamp (by omega)]; exact q3.1) dX9_told_14 ?_
    refine lv_iload_n hx hb dX9_told_15 rfl (lv_at hl 2 rfl) ?_
    refine k_I (As := [.int p2]) (rest := []) ⟨hx, hb, hml, hown, hts⟩ (c0_tell0 l dC dI base cy (523 + 146 * j) ho v p2 hf) (cwV 1 hts (gV ml_X9_93 mi_X0_tell mx_X0_tell mn_X0 mo_X0_tell) rfl rfl rfl (by decide +kernel) ⟨by decide, by decide⟩) hK hP hS q3.2 (by decide) rfl rfl hl.1 rfl (Nat.le_of_ble_eq_true rfl) dX9_told_16 ⟨Nat.zero_le _, Nat.zero_le _⟩ (fun x16 v4 H locs hv4 hP hS => ?_)
    rw [hv4.1] at hP
    have ex16 := hv4.2
    exact W.iret (v := x16) hx hb hr (fun t ht hW => ⟨⟨x16, v, rfl, ⟨by rw [rE_y hp]; exact ex16, Fr.rf⟩, by rw [ht]; exact hP, va_K.moved hW.alike hK⟩, hS.F ht⟩) hS.2.2 dX9_told_19
  · have hp : ¬ (p1 = 0 ∨ p1 = 1) := by
      intro q
      rw [ex1, if_pos q] at c4
      exact c4 rfl
    refine lv_iconst (v := -1) hx hb dX9_told_7 (by decide) ?_
    exact W.iret (v := (-1)) hx hb hr (fun t ht hW => ⟨⟨(-1), v, rfl, ⟨(rE_n hp).symm, Fr.rf⟩, by rw [ht]; exact hP, va_K.moved hW.alike hK⟩, hS.F ht⟩) hS.2.2 dX9_told_8
set_option maxHeartbeats 4000000 in
set_option maxRecDepth 100000 in
/-- read(end, i) on a new object -/
theorem c9_read (l : Launch) (dC : Nat → ClassId) (dI : Nat → Nat → Nat) (base : Nat) (cy : Nat → ClassId) (v : VV) (hf : Fc v) (p1 : Int32) (p2 : Int32) : CI l yX9_read (.code yX9_read cX9_read 3 (some .int) :: TB) { frames := 1, cells := 0, slots := 0, locals := 22 } dC dI base cy [.ref (base + 0), .int p1, .int p2] v (fun (x : Int32) (v' : VV) => x = -1 ∧ Fr (fun a => a < 816) v v') := by
  refine Met.ofW (cc := cX9_read) (maxL := 3) (ret := (some .int)) (by decide) rfl ?_
  intro p e s m args below meth c s₁ B hml hv
  obtain ⟨rfl, hP, hK⟩ := hv
  have hx := B.exec
  have hb := B.bytes
  have hr := B.returns
  have hts0 := atoms_spec (ws := (.code yX9_read cX9_read 3 (some .int) :: TB)) B.pre
  have hts : ∀ w ∈ TB, w.before ([.ref (base + 0), .int p1, .int p2]).toArray s = true := fun w h => hts0 w (List.mem_cons_of_mem _ h)
  have hown : s.vm.findClass RX9 = some m.cls := findClass_of_methodNamed B.named
  have hlocks := B.notSynchronized
  have hS : va_S (fun q => base ≤ q) s.heap s.heap [] := va_S.rf
  have hl := lv_entry ([.ref (base + 0), .int p1, .int p2]) (n := 3) (Nat.le_of_ble_eq_true rfl)
  rw [lg_entry_eq]
  generalize (lg_sl ([.ref (base + 0), .int p1, .int p2]) ++ List.replicate (3 - (lg_sl ([.ref (base + 0), .int p1, .int p2])).length) Slot.unset).toArray = ls at hl ⊢
  have hl : lv_has ls 3 [(0, .ref (base + 0)), (1, .int p1), (2, .int p2)] := hl
  refine lv_iload_n hx hb dX9_read_0 rfl (lv_at hl 1 rfl) ?_
  refine kS_I (As := [.int p1]) (rest := []) ⟨hx, hb, hml, hown, hts⟩ (c9_isNoEnd l dC dI base cy v p1) (cwS 1 hts (gS ml_X9_29 mt_X9_isNoEnd mn_X9 mo_X9_isNoEnd) rfl rfl rfl (by decide +kernel) ⟨by decide, by decide⟩) hK hP hS rfl hl.1 rfl (Nat.le_of_ble_eq_true rfl) dX9_read_1 ⟨Nat.zero_le _, Nat.zero_le _⟩ (fun x1 v1 H locs hv1 hP hS => ?_)
  rw [hv1.1] at hP
  have ex1 := hv1.2
  refine lv_if_eq (tgt := 9) hx hb dX9_read_4 (by decide) (fun c4 => ?_) (fun c4 => ?_)
  · have hp : p1 = 0 ∨ p1 = 1 := by
      rw [ex1] at c4
      by_cases q : p1 = 0 ∨ p1 = 1
      · exact q
      · rw [if_neg q] at c4; exact absurd c4 (by decide)
    obtain ⟨j, hj2, hj⟩ := e01 hp
    have ho := (arE hj2).2
    have eb := endB _ ho.1 ho.2
    refine lv_aload_n hx hb dX9_read_9 rfl (lv_at hl 0 rfl) ?_
    have q2 := ch9_1 i9
    refine w_gR (C := RX9) (T := TX9) (N := 4) (ci := 9) hx hb hts in9 hown hK hP 1 i9.1 i9 rfl (by decide) q2.1 (hts _ mf_X9_21) dX9_read_10 ?_
    refine lv_iload_n hx hb dX9_read_13 rfl (lv_at hl 1 rfl) ?_
    have q3 := arE (i := j) (hj2)
    refine w_aa (q0 := 3) hx hb hK hP q2.2.1.1 q2.2.1 (by decide) rfl q2.2.2 (by rw [hj]; exact vp_in_nI hj2 (by decide)) (by rw [hj, nI_clamp (by omega)]; exact q3.1) dX9_read_14 ?_
    have q4 := ch0_3 q3.2
    refine w_gR (C := RX0) (T := TX0) (N := 15) (ci := 0) hx hb hts in0 hown hK hP 3 q3.2.1 q3.2 rfl (by decide) q4.1 (hts _ mf_X9_55) dX9_read_15 ?_
    refine lv_iload_n hx hb dX9_read_18 rfl (lv_at hl 2 rfl) ?_
    refine k_I (As := [.int p2]) (rest := []) ⟨hx, hb, hml, hown, hts⟩ (c1_takenByte0 l dC dI base cy (523 + 146 * j + 123) (ch0_3 ho).2 v p2 (hf.z (ch0_3 ho).2 (by decide) (by omega) 14)) (cwV 1 hts (gV ml_X9_59 mi_X1_takenByte mx_X1_takenByte mn_X1 mo_X1_takenByte) rfl rfl rfl (by decide +kernel) ⟨by decide, by decide⟩) hK hP hS q4.2 (by decide) rfl rfl hl.1 rfl (Nat.le_of_ble_eq_true rfl) dX9_read_19 ⟨Nat.zero_le _, Nat.zero_le _⟩ (fun x19 v5 H locs hv5 hP hS => ?_)
    rw [hv5.1] at hP
    have ex19 := hv5.2
    exact W.iret (v := x19) hx hb hr (fun t ht hW => ⟨⟨x19, v, rfl, ⟨ex19, Fr.rf⟩, by rw [ht]; exact hP, va_K.moved hW.alike hK⟩, hS.F ht⟩) hS.2.2 dX9_read_22
  · have hp : ¬ (p1 = 0 ∨ p1 = 1) := by
      intro q
      rw [ex1, if_pos q] at c4
      exact c4 rfl
    refine lv_iconst (v := -1) hx hb dX9_read_7 (by decide) ?_
    exact W.iret (v := (-1)) hx hb hr (fun t ht hW => ⟨⟨(-1), v, rfl, ⟨rfl, Fr.rf⟩, by rw [ht]; exact hP, va_K.moved hW.alike hK⟩, hS.F ht⟩) hS.2.2 dX9_read_8
set_option maxHeartbeats 4000000 in
set_option maxRecDepth 100000 in
/-- urgent(end) on a new object -/
theorem c9_urgent (l : Launch) (dC : Nat → ClassId) (dI : Nat → Nat → Nat) (base : Nat) (cy : Nat → ClassId) (v : VV) (hf : Fc v) (p1 : Int32) : CI l yX9_urgent (.code yX9_urgent cX9_urgent 2 (some .int) :: TB) { frames := 1, cells := 0, slots := 0, locals := 22 } dC dI base cy [.ref (base + 0), .int p1] v (fun (x : Int32) (v' : VV) => x = rE p1 (-2) ∧ Fr (fun a => a < 816) v v') := by
  refine Met.ofW (cc := cX9_urgent) (maxL := 2) (ret := (some .int)) (by decide) rfl ?_
  intro p e s m args below meth c s₁ B hml hv
  obtain ⟨rfl, hP, hK⟩ := hv
  have hx := B.exec
  have hb := B.bytes
  have hr := B.returns
  have hts0 := atoms_spec (ws := (.code yX9_urgent cX9_urgent 2 (some .int) :: TB)) B.pre
  have hts : ∀ w ∈ TB, w.before ([.ref (base + 0), .int p1]).toArray s = true := fun w h => hts0 w (List.mem_cons_of_mem _ h)
  have hown : s.vm.findClass RX9 = some m.cls := findClass_of_methodNamed B.named
  have hlocks := B.notSynchronized
  have hS : va_S (fun q => base ≤ q) s.heap s.heap [] := va_S.rf
  have hl := lv_entry ([.ref (base + 0), .int p1]) (n := 2) (Nat.le_of_ble_eq_true rfl)
  rw [lg_entry_eq]
  generalize (lg_sl ([.ref (base + 0), .int p1]) ++ List.replicate (2 - (lg_sl ([.ref (base + 0), .int p1])).length) Slot.unset).toArray = ls at hl ⊢
  have hl : lv_has ls 2 [(0, .ref (base + 0)), (1, .int p1)] := hl
  refine lv_iload_n hx hb dX9_urgent_0 rfl (lv_at hl 1 rfl) ?_
  refine kS_I (As := [.int p1]) (rest := []) ⟨hx, hb, hml, hown, hts⟩ (c9_isNoEnd l dC dI base cy v p1) (cwS 1 hts (gS ml_X9_29 mt_X9_isNoEnd mn_X9 mo_X9_isNoEnd) rfl rfl rfl (by decide +kernel) ⟨by decide, by decide⟩) hK hP hS rfl hl.1 rfl (Nat.le_of_ble_eq_true rfl) dX9_urgent_1 ⟨Nat.zero_le _, Nat.zero_le _⟩ (fun x1 v1 H locs hv1 hP hS => ?_)
  rw [hv1.1] at hP
  have ex1 := hv1.2
  refine lv_if_eq (tgt := 9) hx hb dX9_urgent_4 (by decide) (fun c4 => ?_) (fun c4 => ?_)
  · have hp : p1 = 0 ∨ p1 = 1 := by
      rw [ex1] at c4
      by_cases q : p1 = 0 ∨ p1 = 1
      · exact q
      · rw [if_neg q] at c4; exact absurd c4 (by decide)
    obtain ⟨j, hj2, hj⟩ := e01 hp
    have ho := (arE hj2).2
    have eb := endB _ ho.1 ho.2
    refine lv_aload_n hx hb dX9_urgent_9 rfl (lv_at hl 0 rfl) ?_
    have q2 := ch9_1 i9
    refine w_gR (C := RX9) (T := TX9) (N := 4) (ci := 9) hx hb hts in9 hown hK hP 1 i9.1 i9 rfl (by decide) q2.1 (hts _ mf_X9_21) dX9_urgent_10 ?_
    refine lv_iload_n hx hb dX9_urgent_13 rfl (lv_at hl 1 rfl) ?_
    have q3 := arE (i := j) (hj2)
    refine w_aa (q0 := 3) hx hb hK hP q2.2.1.1 q2.2.1 (by decide) rfl q2.2.2 (by rw [hj]; exact vp_in_nI hj2 (by decide)) (by rw [hj, nI_clamp (by omega)]; exact q3.1) dX9_urgent_14 ?_
    have q4 := ch0_5 q3.2
    refine w_gR (C := RX0) (T := TX0) (N := 15) (ci := 0) hx hb hts in0 hown hK hP 5 q3.2.1 q3.2 rfl (by decide) q4.1 (hts _ mf_X9_64) dX9_urgent_15 ?_
    refine k_I (As := []) (rest := []) ⟨hx, hb, hml, hown, hts⟩ (c6_takeByte0 l dC dI base cy (523 + 146 * j + 143) (ch0_5 ho).2 v (hf.z (ch0_5 ho).2 (by decide) (by omega) 2)) (cwV 0 hts (gV ml_X9_68 mi_X6_takeByte mx_X6_takeByte mn_X6 mo_X6_takeByte) rfl rfl rfl (by decide +kernel) ⟨by decide, by decide⟩) hK hP hS q4.2 (by decide) rfl rfl hl.1 rfl (Nat.le_of_ble_eq_true rfl) dX9_urgent_18 ⟨Nat.zero_le _, Nat.zero_le _⟩ (fun x18 v5 H locs hv5 hP hS => ?_)
    rw [hv5.1] at hP
    have ex18 := hv5.2
    exact W.iret (v := x18) hx hb hr (fun t ht hW => ⟨⟨x18, v, rfl, ⟨by rw [rE_y hp]; exact ex18, Fr.rf⟩, by rw [ht]; exact hP, va_K.moved hW.alike hK⟩, hS.F ht⟩) hS.2.2 dX9_urgent_21
  · have hp : ¬ (p1 = 0 ∨ p1 = 1) := by
      intro q
      rw [ex1, if_pos q] at c4
      exact c4 rfl
    refine lv_iconst (v := -1) hx hb dX9_urgent_7 (by decide) ?_
    exact W.iret (v := (-1)) hx hb hr (fun t ht hW => ⟨⟨(-1), v, rfl, ⟨(rE_n hp).symm, Fr.rf⟩, by rw [ht]; exact hP, va_K.moved hW.alike hK⟩, hS.F ht⟩) hS.2.2 dX9_urgent_8
set_option maxHeartbeats 4000000 in
set_option maxRecDepth 100000 in
/-- urge(end, b) on a new object -/
theorem c9_urge (l : Launch) (dC : Nat → ClassId) (dI : Nat → Nat → Nat) (base : Nat) (cy : Nat → ClassId) (v : VV) (hf : Fc v) (p1 p2 : Int32) : CI l yX9_urge (.code yX9_urge cX9_urge 3 (some .int) :: TB) { frames := 1, cells := 0, slots := 0, locals := 24 } dC dI base cy [.ref (base + 0), .int p1, .int p2] v (fun (x : Int32) (v' : VV) => (ugB p1 p2 ∧ x = -2 ∨ ¬ ugB p1 p2 ∧ x = -1) ∧ Fr (fun a => a < 816) v v') := by
  refine Met.ofW (cc := cX9_urge) (maxL := 3) (ret := (some .int)) (by decide) rfl ?_
  intro p e s m args below meth c s₁ B hml hv
  obtain ⟨rfl, hP, hK⟩ := hv
  have hx := B.exec
  have hb := B.bytes
  have hr := B.returns
  have hts0 := atoms_spec (ws := (.code yX9_urge cX9_urge 3 (some .int) :: TB)) B.pre
  have hts : ∀ w ∈ TB, w.before ([.ref (base + 0), .int p1, .int p2]).toArray s = true := fun w h => hts0 w (List.mem_cons_of_mem _ h)
  have hown : s.vm.findClass RX9 = some m.cls := findClass_of_methodNamed B.named
  have hlocks := B.notSynchronized
  have hS : va_S (fun q => base ≤ q) s.heap s.heap [] := va_S.rf
  have hl := lv_entry ([.ref (base + 0), .int p1, .int p2]) (n := 3) (Nat.le_of_ble_eq_true rfl)
  rw [lg_entry_eq]
  generalize (lg_sl ([.ref (base + 0), .int p1, .int p2]) ++ List.replicate (3 - (lg_sl ([.ref (base + 0), .int p1, .int p2])).length) Slot.unset).toArray = ls at hl ⊢
  have hl : lv_has ls 3 [(0, .ref (base + 0)), (1, .int p1), (2, .int p2)] := hl
  refine lv_iload_n hx hb dX9_urge_0 rfl (lv_at hl 1 rfl) ?_
  refine kS_I (As := [.int p1]) (rest := []) ⟨hx, hb, hml, hown, hts⟩ (c9_isNoEnd l dC dI base cy v p1) (cwS 1 hts (gS ml_X9_29 mt_X9_isNoEnd mn_X9 mo_X9_isNoEnd) rfl rfl rfl (by decide +kernel) ⟨by decide, by decide⟩) hK hP hS rfl hl.1 rfl (Nat.le_of_ble_eq_true rfl) dX9_urge_1 ⟨Nat.zero_le _, Nat.zero_le _⟩ (fun x1 v1 H locs hv1 hP hS => ?_)
  rw [hv1.1] at hP
  have ex1 := hv1.2
  refine lv_if_ne (tgt := 18) hx hb dX9_urge_4 (by decide) (fun c4 => ?_) (fun c4 => ?_)
  · have hp : ¬ (p1 = 0 ∨ p1 = 1) := by
      intro q
      rw [ex1, if_pos q] at c4
      exact c4 rfl
    refine lv_iconst (v := -1) hx hb dX9_urge_18 (by decide) ?_
    exact W.iret (v := (-1)) hx hb hr (fun t ht hW => ⟨⟨(-1), v, rfl, ⟨Or.inr ⟨fun q => by first | exact hp q.1 | exact q.2.1 c8 | exact c15 q.2.2, rfl⟩, Fr.rf⟩, by rw [ht]; exact hP, va_K.moved hW.alike hK⟩, hS.F ht⟩) hS.2.2 dX9_urge_19
  · have hp : p1 = 0 ∨ p1 = 1 := by
      rw [ex1] at c4
      by_cases q : p1 = 0 ∨ p1 = 1
      · exact q
      · rw [if_neg q] at c4; exact absurd c4 (by decide)
    obtain ⟨j, hj2, hj⟩ := e01 hp
    have ho := (arE hj2).2
    have eb := endB _ ho.1 ho.2
    refine lv_iload_n hx hb dX9_urge_7 rfl (lv_at hl 2 rfl) ?_
    refine lv_if_lt (tgt := 18) hx hb dX9_urge_8 (by decide) (fun c8 => ?_) (fun c8 => ?_)
    · refine lv_iconst (v := -1) hx hb dX9_urge_18 (by decide) ?_
      exact W.iret (v := (-1)) hx hb hr (fun t ht hW => ⟨⟨(-1), v, rfl, ⟨Or.inr ⟨fun q => by first | exact hp q.1 | exact q.2.1 c8 | exact c15 q.2.2, rfl⟩, Fr.rf⟩, by rw [ht]; exact hP, va_K.moved hW.alike hK⟩, hS.F ht⟩) hS.2.2 dX9_urge_19
    · refine lv_iload_n hx hb dX9_urge_11 rfl (lv_at hl 2 rfl) ?_
      refine lv_sipush (v := 255) hx hb dX9_urge_12 (by decide) ?_
      refine lv_icmp_le (tgt := 20) hx hb dX9_urge_15 (by decide) (fun c15 => ?_) (fun c15 => ?_)
      · refine lv_aload_n hx hb dX9_urge_20 rfl (lv_at hl 0 rfl) ?_
        have q2 := ch9_1 i9
        refine w_gR (C := RX9) (T := TX9) (N := 4) (ci := 9) hx hb hts in9 hown hK hP 1 i9.1 i9 rfl (by decide) q2.1 (hts _ mf_X9_21) dX9_urge_21 ?_
        refine lv_iload_n hx hb dX9_urge_24 rfl (lv_at hl 1 rfl) ?_
        have q3 := arE (i := j) (hj2)
        refine w_aa (q0 := 3) hx hb hK hP q2.2.1.1 q2.2.1 (by decide) rfl q2.2.2 (by rw [hj]; exact vp_in_nI hj2 (by decide)) (by rw [hj, nI_clamp (by omega)]; exact q3.1) dX9_urge_25 ?_
        refine lv_iload_n hx hb dX9_urge_26 rfl (lv_at hl 2 rfl) ?_
        refine k_I (As := [.int p2]) (rest := []) ⟨hx, hb, hml, hown, hts⟩ (c0_sendUrgent0 l dC dI base cy (523 + 146 * j) ho v p2 (hf.E ho 8 (by decide) (by decide))) (cwV 1 hts (gV ml_X9_45 mi_X0_sendUrgentByte mx_X0_sendUrgentByte mn_X0 mo_X0_sendUrgentByte) rfl rfl rfl (by decide +kernel) ⟨by decide, by decide⟩) hK hP hS q3.2 (by decide) rfl rfl hl.1 rfl (Nat.le_of_ble_eq_true rfl) dX9_urge_27 ⟨Nat.zero_le _, Nat.zero_le _⟩ (fun x27 v4 H locs hv4 hP hS => ?_)
        rw [hv4.1] at hP
        have ex27 := hv4.2
        exact W.iret (v := x27) hx hb hr (fun t ht hW => ⟨⟨x27, v, rfl, ⟨Or.inl ⟨⟨hp, c8, c15⟩, ex27⟩, Fr.rf⟩, by rw [ht]; exact hP, va_K.moved hW.alike hK⟩, hS.F ht⟩) hS.2.2 dX9_urge_30
      · refine lv_iconst (v := -1) hx hb dX9_urge_18 (by decide) ?_
        exact W.iret (v := (-1)) hx hb hr (fun t ht hW => ⟨⟨(-1), v, rfl, ⟨Or.inr ⟨fun q => by first | exact hp q.1 | exact q.2.1 c8 | exact c15 q.2.2, rfl⟩, Fr.rf⟩, by rw [ht]; exact hP, va_K.moved hW.alike hK⟩, hS.F ht⟩) hS.2.2 dX9_urge_19
set_option maxHeartbeats 4000000 in
set_option maxRecDepth 100000 in
/-- sent() on a new object -/
theorem c9_sent (l : Launch) (dC : Nat → ClassId) (dI : Nat → Nat → Nat) (base : Nat) (cy : Nat → ClassId) (v : VV) (hf : Fc v) : CI l yX9_sent (.code yX9_sent cX9_sent 1 (some .int) :: TB) { frames := 0, cells := 0, slots := 0, locals := 0 } dC dI base cy [.ref (base + 0)] v (fun (x : Int32) (v' : VV) => x = 0 ∧ Fr (fun a => a < 816) v v') := by
  refine Met.ofW (cc := cX9_sent) (maxL := 1) (ret := (some .int)) (by decide) rfl ?_
  intro p e s m args below meth c s₁ B hml hv
  obtain ⟨rfl, hP, hK⟩ := hv
  have hx := B.exec
  have hb := B.bytes
  have hr := B.returns
  have hts0 := atoms_spec (ws := (.code yX9_sent cX9_sent 1 (some .int) :: TB)) B.pre
  have hts : ∀ w ∈ TB, w.before ([.ref (base + 0)]).toArray s = true := fun w h => hts0 w (List.mem_cons_of_mem _ h)
  have hown : s.vm.findClass RX9 = some m.cls := findClass_of_methodNamed B.named
  have hlocks := B.notSynchronized
  have hS : va_S (fun q => base ≤ q) s.heap s.heap [] := va_S.rf
  have hl := lv_entry ([.ref (base + 0)]) (n := 1) (Nat.le_of_ble_eq_true rfl)
  rw [lg_entry_eq]
  generalize (lg_sl ([.ref (base + 0)]) ++ List.replicate (1 - (lg_sl ([.ref (base + 0)])).length) Slot.unset).toArray = ls at hl ⊢
  have hl : lv_has ls 1 [(0, .ref (base + 0))] := hl
  refine lv_aload_n hx hb dX9_sent_0 rfl (lv_at hl 0 rfl) ?_
  have q1 := ch9_0 i9
  refine w_gR (C := RX9) (T := TX9) (N := 4) (ci := 9) hx hb hts in9 hown hK hP 0 i9.1 i9 rfl (by decide) q1.1 (hts _ mf_X9_10) dX9_sent_1 ?_
  refine w_gI (C := RX2) (T := TX2) (N := 11) (ci := 2) hx hb hts in2 hown hK hP 8 q1.2.1 q1.2 rfl (by decide) (hts _ mf_X9_73) dX9_sent_4 ?_
  refine lv_topi (fun x4 ex4 => ?_)
  exact W.iret (v := x4) hx hb hr (fun t ht hW => ⟨⟨x4, v, rfl, ⟨by rw [ex4]; exact hf.z i2 (by decide) (by decide) 8, Fr.rf⟩, by rw [ht]; exact hP, va_K.moved hW.alike hK⟩, hS.F ht⟩) hS.2.2 dX9_sent_7
set_option maxHeartbeats 4000000 in
set_option maxRecDepth 100000 in
/-- clock() on a new object -/
theorem c9_clock (l : Launch) (dC : Nat → ClassId) (dI : Nat → Nat → Nat) (base : Nat) (cy : Nat → ClassId) (v : VV) (hf : Fc v) : CI l yX9_clock (.code yX9_clock cX9_clock 1 (some .int) :: TB) { frames := 0, cells := 0, slots := 0, locals := 0 } dC dI base cy [.ref (base + 0)] v (fun (x : Int32) (v' : VV) => x = 0 ∧ Fr (fun a => a < 816) v v') := by
  refine Met.ofW (cc := cX9_clock) (maxL := 1) (ret := (some .int)) (by decide) rfl ?_
  intro p e s m args below meth c s₁ B hml hv
  obtain ⟨rfl, hP, hK⟩ := hv
  have hx := B.exec
  have hb := B.bytes
  have hr := B.returns
  have hts0 := atoms_spec (ws := (.code yX9_clock cX9_clock 1 (some .int) :: TB)) B.pre
  have hts : ∀ w ∈ TB, w.before ([.ref (base + 0)]).toArray s = true := fun w h => hts0 w (List.mem_cons_of_mem _ h)
  have hown : s.vm.findClass RX9 = some m.cls := findClass_of_methodNamed B.named
  have hlocks := B.notSynchronized
  have hS : va_S (fun q => base ≤ q) s.heap s.heap [] := va_S.rf
  have hl := lv_entry ([.ref (base + 0)]) (n := 1) (Nat.le_of_ble_eq_true rfl)
  rw [lg_entry_eq]
  generalize (lg_sl ([.ref (base + 0)]) ++ List.replicate (1 - (lg_sl ([.ref (base + 0)])).length) Slot.unset).toArray = ls at hl ⊢
  have hl : lv_has ls 1 [(0, .ref (base + 0))] := hl
  refine lv_aload_n hx hb dX9_clock_0 rfl (lv_at hl 0 rfl) ?_
  have q1 := ch9_0 i9
  refine w_gR (C := RX9) (T := TX9) (N := 4) (ci := 9) hx hb hts in9 hown hK hP 0 i9.1 i9 rfl (by decide) q1.1 (hts _ mf_X9_10) dX9_clock_1 ?_
  refine w_gI (C := RX2) (T := TX2) (N := 11) (ci := 2) hx hb hts in2 hown hK hP 10 q1.2.1 q1.2 rfl (by decide) (hts _ mf_X9_80) dX9_clock_4 ?_
  refine lv_topi (fun x4 ex4 => ?_)
  exact W.iret (v := x4) hx hb hr (fun t ht hW => ⟨⟨x4, v, rfl, ⟨by rw [ex4]; exact hf.z i2 (by decide) (by decide) 10, Fr.rf⟩, by rw [ht]; exact hP, va_K.moved hW.alike hK⟩, hS.F ht⟩) hS.2.2 dX9_clock_7
set_option maxHeartbeats 4000000 in
set_option maxRecDepth 100000 in
/-- byteOf(number, i) on a new object -/
theorem c9_byteOf (l : Launch) (dC : Nat → ClassId) (dI : Nat → Nat → Nat) (base : Nat) (cy : Nat → ClassId) (v : VV) (hf : Fc v) (p1 p2 : Int32) : CI l yX9_byteOf (.code yX9_byteOf cX9_byteOf 3 (some .int) :: TB) { frames := 1, cells := 0, slots := 0, locals := 23 } dC dI base cy [.ref (base + 0), .int p1, .int p2] v (fun (x : Int32) (v' : VV) => x = -1 ∧ Fr (fun a => a < 816) v v') := by
  refine Met.ofW (cc := cX9_byteOf) (maxL := 3) (ret := (some .int)) (by decide) rfl ?_
  intro p e s m args below meth c s₁ B hml hv
  obtain ⟨rfl, hP, hK⟩ := hv
  have hx := B.exec
  have hb := B.bytes
  have hr := B.returns
  have hts0 := atoms_spec (ws := (.code yX9_byteOf cX9_byteOf 3 (some .int) :: TB)) B.pre
  have hts : ∀ w ∈ TB, w.before ([.ref (base + 0), .int p1, .int p2]).toArray s = true := fun w h => hts0 w (List.mem_cons_of_mem _ h)
  have hown : s.vm.findClass RX9 = some m.cls := findClass_of_methodNamed B.named
  have hlocks := B.notSynchronized
  have hS : va_S (fun q => base ≤ q) s.heap s.heap [] := va_S.rf
  have hl := lv_entry ([.ref (base + 0), .int p1, .int p2]) (n := 3) (Nat.le_of_ble_eq_true rfl)
  rw [lg_entry_eq]
  generalize (lg_sl ([.ref (base + 0), .int p1, .int p2]) ++ List.replicate (3 - (lg_sl ([.ref (base + 0), .int p1, .int p2])).length) Slot.unset).toArray = ls at hl ⊢
  have hl : lv_has ls 3 [(0, .ref (base + 0)), (1, .int p1), (2, .int p2)] := hl
  refine lv_aload_n hx hb dX9_byteOf_0 rfl (lv_at hl 0 rfl) ?_
  have q1 := ch9_0 i9
  refine w_gR (C := RX9) (T := TX9) (N := 4) (ci := 9) hx hb hts in9 hown hK hP 0 i9.1 i9 rfl (by decide) q1.1 (hts _ mf_X9_10) dX9_byteOf_1 ?_
  refine lv_iload_n hx hb dX9_byteOf_4 rfl (lv_at hl 1 rfl) ?_
  refine lv_iload_n hx hb dX9_byteOf_5 rfl (lv_at hl 2 rfl) ?_
  refine k_I (As := [.int p1, .int p2]) (rest := []) ⟨hx, hb, hml, hown, hts⟩ (c2_recorded0 l dC dI base cy v p1 p2 (hf.z i2 (by decide) (by decide) 8)) (cwV 2 hts (gV ml_X9_96 mi_X2_recordedByte mx_X2_recordedByte mn_X2 mo_X2_recordedByte) rfl rfl rfl (by decide +kernel) ⟨by decide, by decide⟩) hK hP hS q1.2 (by decide) rfl rfl hl.1 rfl (Nat.le_of_ble_eq_true rfl) dX9_byteOf_6 ⟨Nat.zero_le _, Nat.zero_le _⟩ (fun x6 v2 H locs hv2 hP hS => ?_)
  rw [hv2.1] at hP
  have ex6 := hv2.2
  exact W.iret (v := x6) hx hb hr (fun t ht hW => ⟨⟨x6, v, rfl, ⟨ex6, Fr.rf⟩, by rw [ht]; exact hP, va_K.moved hW.alike hK⟩, hS.F ht⟩) hS.2.2 dX9_byteOf_9
set_option maxHeartbeats 4000000 in
set_option maxRecDepth 100000 in
/-- fault(kind, number, place, mask) on a new object -/
theorem c9_fault (l : Launch) (dC : Nat → ClassId) (dI : Nat → Nat → Nat) (base : Nat) (cy : Nat → ClassId) (v : VV) (hf : Fc v) (p1 p2 p3 p4 : Int32) : CI l yX9_fault (.code yX9_fault cX9_fault 5 (some .int) :: TB) { frames := 1, cells := 0, slots := 0, locals := 24 } dC dI base cy [.ref (base + 0), .int p1, .int p2, .int p3, .int p4] v (fun (x : Int32) (v' : VV) => (flB p1 p2 p3 p4 ∧ x = 1 ∨ ¬ flB p1 p2 p3 p4 ∧ x = -1) ∧ Fr (fun a => a < 816) v v') := by
  refine Met.ofW (cc := cX9_fault) (maxL := 5) (ret := (some .int)) (by decide) rfl ?_
  intro p e s m args below meth c s₁ B hml hv
  obtain ⟨rfl, hP, hK⟩ := hv
  have hx := B.exec
  have hb := B.bytes
  have hr := B.returns
  have hts0 := atoms_spec (ws := (.code yX9_fault cX9_fault 5 (some .int) :: TB)) B.pre
  have hts : ∀ w ∈ TB, w.before ([.ref (base + 0), .int p1, .int p2, .int p3, .int p4]).toArray s = true := fun w h => hts0 w (List.mem_cons_of_mem _ h)
  have hown : s.vm.findClass RX9 = some m.cls := findClass_of_methodNamed B.named
  have hlocks := B.notSynchronized
  have hS : va_S (fun q => base ≤ q) s.heap s.heap [] := va_S.rf
  have hl := lv_entry ([.ref (base + 0), .int p1, .int p2, .int p3, .int p4]) (n := 5) (Nat.le_of_ble_eq_true rfl)
  rw [lg_entry_eq]
  generalize (lg_sl ([.ref (base + 0), .int p1, .int p2, .int p3, .int p4]) ++ List.replicate (5 - (lg_sl ([.ref (base + 0), .int p1, .int p2, .int p3, .int p4])).length) Slot.unset).toArray = ls at hl ⊢
  have hl : lv_has ls 5 [(0, .ref (base + 0)), (1, .int p1), (2, .int p2), (3, .int p3), (4, .int p4)] := hl
  refine lv_iload_n hx hb dX9_fault_0 rfl (lv_at hl 1 rfl) ?_
  refine lv_iconst (v := 1) hx hb dX9_fault_1 (by decide) ?_
  refine lv_icmp_lt (tgt := 21) hx hb dX9_fault_2 (by decide) (fun c2 => ?_) (fun c2 => ?_)
  · refine lv_iconst (v := -1) hx hb dX9_fault_21 (by decide) ?_
    exact W.iret (v := (-1)) hx hb hr (fun t ht hW => ⟨⟨(-1), v, rfl, ⟨Or.inr ⟨fun q => by first | exact q.1 c2 | exact absurd q.2.1 (Int32.not_le.mpr c7) | exact q.2.2.1 (by have w := nle_lt c18; rw [ex15, hf.z i2 (by decide) (by decide) 8] at w; exact w) | exact (q.2.2.2 c25).1 c29 | exact (q.2.2.2 c25).2.1 c35 | exact c43 (q.2.2.2 c25).2.2, rfl⟩, Fr.rf⟩, by rw [ht]; exact hP, va_K.moved hW.alike hK⟩, hS.F ht⟩) hS.2.2 dX9_fault_22
  · refine lv_iload_n hx hb dX9_fault_5 rfl (lv_at hl 1 rfl) ?_
    refine lv_iconst (v := 4) hx hb dX9_fault_6 (by decide) ?_
    refine lv_icmp_gt (tgt := 21) hx hb dX9_fault_7 (by decide) (fun c7 => ?_) (fun c7 => ?_)
    · refine lv_iconst (v := -1) hx hb dX9_fault_21 (by decide) ?_
      exact W.iret (v := (-1)) hx hb hr (fun t ht hW => ⟨⟨(-1), v, rfl, ⟨Or.inr ⟨fun q => by first | exact q.1 c2 | exact absurd q.2.1 (Int32.not_le.mpr c7) | exact q.2.2.1 (by have w := nle_lt c18; rw [ex15, hf.z i2 (by decide) (by decide) 8] at w; exact w) | exact (q.2.2.2 c25).1 c29 | exact (q.2.2.2 c25).2.1 c35 | exact c43 (q.2.2.2 c25).2.2, rfl⟩, Fr.rf⟩, by rw [ht]; exact hP, va_K.moved hW.alike hK⟩, hS.F ht⟩) hS.2.2 dX9_fault_22
    · refine lv_iload_n hx hb dX9_fault_10 rfl (lv_at hl 2 rfl) ?_
      refine lv_aload_n hx hb dX9_fault_11 rfl (lv_at hl 0 rfl) ?_
      have q1 := ch9_0 i9
      refine w_gR (C := RX9) (T := TX9) (N := 4) (ci := 9) hx hb hts in9 hown hK hP 0 i9.1 i9 rfl (by decide) q1.1 (hts _ mf_X9_10) dX9_fault_12 ?_
      refine w_gI (C := RX2) (T := TX2) (N := 11) (ci := 2) hx hb hts in2 hown hK hP 8 q1.2.1 q1.2 rfl (by decide) (hts _ mf_X9_73) dX9_fault_15 ?_
      refine lv_topi (fun x15 ex15 => ?_)
      refine lv_icmp_ge (tgt := 23) hx hb dX9_fault_18 (by decide) (fun c18 => ?_) (fun c18 => ?_)
      · refine lv_iload_n hx hb dX9_fault_23 rfl (lv_at hl 1 rfl) ?_
        refine lv_iconst (v := 4) hx hb dX9_fault_24 (by decide) ?_
        refine lv_icmp_ne (tgt := 48) hx hb dX9_fault_25 (by decide) (fun c25 => ?_) (fun c25 => ?_)
        · refine lv_aload_n hx hb dX9_fault_48 rfl (lv_at hl 0 rfl) ?_
          have q2 := ch9_0 i9
          refine w_gR (C := RX9) (T := TX9) (N := 4) (ci := 9) hx hb hts in9 hown hK hP 0 i9.1 i9 rfl (by decide) q2.1 (hts _ mf_X9_10) dX9_fault_49 ?_
          refine lv_iload_n hx hb dX9_fault_52 rfl (lv_at hl 1 rfl) ?_
          refine lv_iload_n hx hb dX9_fault_53 rfl (lv_at hl 2 rfl) ?_
          refine lv_iload_n hx hb dX9_fault_54 rfl (lv_at hl 3 rfl) ?_
          refine lv_iload hx hb dX9_fault_55 (lv_at hl 4 rfl) ?_
          have hok : flB p1 p2 p3 p4 := ⟨c2, Int32.not_lt.mp c7, by have w := c18; rw [ex15, hf.z i2 (by decide) (by decide) 8] at w; exact Int32.not_lt.mpr w, fun q => by first | exact absurd q c25 | exact ⟨c29, c35, c43⟩⟩
          refine k_I (As := [.int p1, .int p2, .int p3, .int p4]) (rest := []) ⟨hx, hb, hml, hown, hts⟩ (c2_addFault0 l dC dI base cy v p1 p2 p3 p4 (hf.z i2 (by decide) (by decide) 7)) (cwV 4 hts (gV ml_X9_76 mi_X2_addFault mx_X2_addFault mn_X2 mo_X2_addFault) rfl rfl rfl (by decide +kernel) ⟨by decide, by decide⟩) hK hP hS q2.2 (by decide) rfl rfl hl.1 rfl (Nat.le_of_ble_eq_true rfl) dX9_fault_57 ⟨Nat.zero_le _, Nat.zero_le _⟩ (fun x57 v3 H locs hv3 hP hS => ?_)
          exact W.iret (v := x57) hx hb hr (fun t ht hW => ⟨⟨x57, v3, rfl, ⟨Or.inl ⟨hok, hv3.1⟩, hv3.2⟩, by rw [ht]; exact hP, va_K.moved hW.alike hK⟩, hS.F ht⟩) hS.2.2 dX9_fault_60
        · refine lv_iload_n hx hb dX9_fault_28 rfl (lv_at hl 3 rfl) ?_
          refine lv_if_lt (tgt := 46) hx hb dX9_fault_29 (by decide) (fun c29 => ?_) (fun c29 => ?_)
          · refine lv_iconst (v := -1) hx hb dX9_fault_46 (by decide) ?_
            exact W.iret (v := (-1)) hx hb hr (fun t ht hW => ⟨⟨(-1), v, rfl, ⟨Or.inr ⟨fun q => by first | exact q.1 c2 | exact absurd q.2.1 (Int32.not_le.mpr c7) | exact q.2.2.1 (by have w := nle_lt c18; rw [ex15, hf.z i2 (by decide) (by decide) 8] at w; exact w) | exact (q.2.2.2 c25).1 c29 | exact (q.2.2.2 c25).2.1 c35 | exact c43 (q.2.2.2 c25).2.2, rfl⟩, Fr.rf⟩, by rw [ht]; exact hP, va_K.moved hW.alike hK⟩, hS.F ht⟩) hS.2.2 dX9_fault_47
          · refine lv_iload hx hb dX9_fault_32 (lv_at hl 4 rfl) ?_
            refine lv_iconst (v := 1) hx hb dX9_fault_34 (by decide) ?_
            refine lv_icmp_lt (tgt := 46) hx hb dX9_fault_35 (by decide) (fun c35 => ?_) (fun c35 => ?_)
            · refine lv_iconst (v := -1) hx hb dX9_fault_46 (by decide) ?_
              exact W.iret (v := (-1)) hx hb hr (fun t ht hW => ⟨⟨(-1), v, rfl, ⟨Or.inr ⟨fun q => by first | exact q.1 c2 | exact absurd q.2.1 (Int32.not_le.mpr c7) | exact q.2.2.1 (by have w := nle_lt c18; rw [ex15, hf.z i2 (by decide) (by decide) 8] at w; exact w) | exact (q.2.2.2 c25).1 c29 | exact (q.2.2.2 c25).2.1 c35 | exact c43 (q.2.2.2 c25).2.2, rfl⟩, Fr.rf⟩, by rw [ht]; exact hP, va_K.moved hW.alike hK⟩, hS.F ht⟩) hS.2.2 dX9_fault_47
            · refine lv_iload hx hb dX9_fault_38 (lv_at hl 4 rfl) ?_
              refine lv_sipush (v := 255) hx hb dX9_fault_40 (by decide) ?_
              refine lv_icmp_le (tgt := 48) hx hb dX9_fault_43 (by decide) (fun c43 => ?_) (fun c43 => ?_)
              · refine lv_aload_n hx hb dX9_fault_48 rfl (lv_at hl 0 rfl) ?_
                have q4 := ch9_0 i9
                refine w_gR (C := RX9) (T := TX9) (N := 4) (ci := 9) hx hb hts in9 hown hK hP 0 i9.1 i9 rfl (by decide) q4.1 (hts _ mf_X9_10) dX9_fault_49 ?_
                refine lv_iload_n hx hb dX9_fault_52 rfl (lv_at hl 1 rfl) ?_
                refine lv_iload_n hx hb dX9_fault_53 rfl (lv_at hl 2 rfl) ?_
                refine lv_iload_n hx hb dX9_fault_54 rfl (lv_at hl 3 rfl) ?_
                refine lv_iload hx hb dX9_fault_55 (lv_at hl 4 rfl) ?_
                have hok : flB p1 p2 p3 p4 := ⟨c2, Int32.not_lt.mp c7, by have w := c18; rw [ex15, hf.z i2 (by decide) (by decide) 8] at w; exact Int32.not_lt.mpr w, fun q => by first | exact absurd q c25 | exact ⟨c29, c35, c43⟩⟩
                refine k_I (As := [.int p1, .int p2, .int p3, .int p4]) (rest := []) ⟨hx, hb, hml, hown, hts⟩ (c2_addFault0 l dC dI base cy v p1 p2 p3 p4 (hf.z i2 (by decide) (by decide) 7)) (cwV 4 hts (gV ml_X9_76 mi_X2_addFault mx_X2_addFault mn_X2 mo_X2_addFault) rfl rfl rfl (by decide +kernel) ⟨by decide, by decide⟩) hK hP hS q4.2 (by decide) rfl rfl hl.1 rfl (Nat.le_of_ble_eq_true rfl) dX9_fault_57 ⟨Nat.zero_le _, Nat.zero_le _⟩ (fun x57 v5 H locs hv5 hP hS => ?_)
                exact W.iret (v := x57) hx hb hr (fun t ht hW => ⟨⟨x57, v5, rfl, ⟨Or.inl ⟨hok, hv5.1⟩, hv5.2⟩, by rw [ht]; exact hP, va_K.moved hW.alike hK⟩, hS.F ht⟩) hS.2.2 dX9_fault_60
              · refine lv_iconst (v := -1) hx hb dX9_fault_46 (by decide) ?_
                exact W.iret (v := (-1)) hx hb hr (fun t ht hW => ⟨⟨(-1), v, rfl, ⟨Or.inr ⟨fun q => by first | exact q.1 c2 | exact absurd q.2.1 (Int32.not_le.mpr c7) | exact q.2.2.1 (by have w := nle_lt c18; rw [ex15, hf.z i2 (by decide) (by decide) 8] at w; exact w) | exact (q.2.2.2 c25).1 c29 | exact (q.2.2.2 c25).2.1 c35 | exact c43 (q.2.2.2 c25).2.2, rfl⟩, Fr.rf⟩, by rw [ht]; exact hP, va_K.moved hW.alike hK⟩, hS.F ht⟩) hS.2.2 dX9_fault_47
      · refine lv_iconst (v := -1) hx hb dX9_fault_21 (by decide) ?_
        exact W.iret (v := (-1)) hx hb hr (fun t ht hW => ⟨⟨(-1), v, rfl, ⟨Or.inr ⟨fun q => by first | exact q.1 c2 | exact absurd q.2.1 (Int32.not_le.mpr c7) | exact q.2.2.1 (by have w := nle_lt c18; rw [ex15, hf.z i2 (by decide) (by decide) 8] at w; exact w) | exact (q.2.2.2 c25).1 c29 | exact (q.2.2.2 c25).2.1 c35 | exact c43 (q.2.2.2 c25).2.2, rfl⟩, Fr.rf⟩, by rw [ht]; exact hP, va_K.moved hW.alike hK⟩, hS.F ht⟩) hS.2.2 dX9_fault_22
set_option maxHeartbeats 4000000 in
set_option maxRecDepth 100000 in
/-- deliver(second) where nothing was sent -/
theorem c9_deliver0 (l : Launch) (dC : Nat → ClassId) (dI : Nat → Nat → Nat) (base : Nat) (cy : Nat → ClassId) (v : VV) (p1 : Int32) (h8 : v 1 8 = 0) (h9 : v 1 9 = 0) : CV l yX9_deliver (.code yX9_deliver cX9_deliver 5 none :: TB) { frames := 0, cells := 0, slots := 0, locals := 0 } dC dI base cy [.ref (base + 0), .int p1] v (fun v' : VV => v' = v) := by
  refine Met.ofW (cc := cX9_deliver) (maxL := 5) (ret := none) (by decide) rfl ?_
  intro p e s m args below meth c s₁ B hml hv
  obtain ⟨rfl, hP, hK⟩ := hv
  have hx := B.exec
  have hb := B.bytes
  have hr := B.returns
  have hts0 := atoms_spec (ws := (.code yX9_deliver cX9_deliver 5 none :: TB)) B.pre
  have hts : ∀ w ∈ TB, w.before ([.ref (base + 0), .int p1]).toArray s = true := fun w h => hts0 w (List.mem_cons_of_mem _ h)
  have hown : s.vm.findClass RX9 = some m.cls := findClass_of_methodNamed B.named
  have hlocks := B.notSynchronized
  have hS : va_S (fun q => base ≤ q) s.heap s.heap [] := va_S.rf
  have hl := lv_entry ([.ref (base + 0), .int p1]) (n := 5) (Nat.le_of_ble_eq_true rfl)
  rw [lg_entry_eq]
  generalize (lg_sl ([.ref (base + 0), .int p1]) ++ List.replicate (5 - (lg_sl ([.ref (base + 0), .int p1])).length) Slot.unset).toArray = ls at hl ⊢
  have hl : lv_has ls 5 [(0, .ref (base + 0)), (1, .int p1)] := hl
  refine lv_aload_n hx hb dX9_deliver_0 rfl (lv_at hl 0 rfl) ?_
  have q1 := ch9_0 i9
  refine w_gR (C := RX9) (T := TX9) (N := 4) (ci := 9) hx hb hts in9 hown hK hP 0 i9.1 i9 rfl (by decide) q1.1 (hts _ mf_X9_10) dX9_deliver_1 ?_
  refine w_gI (C := RX2) (T := TX2) (N := 11) (ci := 2) hx hb hts in2 hown hK hP 8 q1.2.1 q1.2 rfl (by decide) (hts _ mf_X9_73) dX9_deliver_4 ?_
  refine lv_topi (fun x4 ex4 => ?_)
  refine lv_istore_n (lv' := [(2, .int x4), (0, .ref (base + 0)), (1, .int p1)]) hx hb dX9_deliver_7 rfl hl (by decide) rfl (fun ls hl => ?_)
  refine lv_aload_n hx hb dX9_deliver_8 rfl (lv_at hl 1 rfl) ?_
  have q2 := ch9_0 i9
  refine w_gR (C := RX9) (T := TX9) (N := 4) (ci := 9) hx hb hts in9 hown hK hP 0 i9.1 i9 rfl (by decide) q2.1 (hts _ mf_X9_10) dX9_deliver_9 ?_
  refine w_gI (C := RX2) (T := TX2) (N := 11) (ci := 2) hx hb hts in2 hown hK hP 9 q2.2.1 q2.2 rfl (by decide) (hts _ mf_X9_100) dX9_deliver_12 ?_
  refine lv_topi (fun x12 ex12 => ?_)
  refine lv_istore_n (lv' := [(3, .int x12), (2, .int x4), (0, .ref (base + 0)), (1, .int p1)]) hx hb dX9_deliver_15 rfl hl (by decide) rfl (fun ls hl => ?_)
  refine lv_iload_n hx hb dX9_deliver_16 rfl (lv_at hl 0 rfl) ?_
  refine lv_iload_n hx hb dX9_deliver_17 rfl (lv_at hl 1 rfl) ?_
  refine lv_icmp_ge (tgt := 74) hx hb dX9_deliver_18 (by decide) (fun c18 => ?_) (fun c18 => ?_)
  · exact W.vret hx hb hr (fun t ht hW => ⟨⟨v, rfl, by trivial, by rw [ht]; exact hP, va_K.moved hW.alike hK⟩, hS.F ht⟩) hS.2.2 dX9_deliver_74
  · exact absurd (by rw [ex4, ex12, h8, h9]; decide) c18
set_option maxHeartbeats 4000000 in
set_option maxRecDepth 100000 in
/-- the loop of type -/
theorem lp9_type {p : Program} {l : Launch} {e : Env} {R : Room} {s : State} {m : MethodId} {args : Array Value} {below : List Frame} {meth : Method} {c : Code} {cells slots : Nat} {Q : State → Prop} {dC : Nat → ClassId} {dI : Nat → Nat → Nat} {base : Nat} {cy : Nat → ClassId} {H0 : Heap} (hx : p.tables.exec = Jvm.exec) (hb : c.code = cX9_type) (hml : c.maxLocals = 5) (hown : s.vm.findClass RX9 = some m.cls) (hts : ∀ w ∈ TB, w.before args s = true) (hK : va_K (dC, dI) vwCl (tyL cy) s) (hcs : cells ≤ R.cells ∧ slots ≤ R.slots) {v0 : VV} {pb : Int64} {pn : Int32} {n : Nat} (hn : n ≤ 8) (hex : ∀ (v : VV) (H : Heap) (locs : List Loc) (ls : Array Slot), Fr (fun a => a < 816) v0 v → v 0 3 = nI n → lv_has ls 5 [(0, .ref (base + 0))] → va_P (dC, dI) vwCl (Wd base cy rf v 874) H → va_S (fun q => base ≤ q) H0 H locs → W p l e R s m args below meth c H locs cells slots Q (F0 m 74 ls [])) : ∀ (k : Nat) (d r : Nat) (v : VV) (H : Heap) (locs : List Loc) (ls : Array Slot), d + r = n → n + 1 ≤ d + k → v 0 3 = nI d → Fr (fun a => a < 816) v0 v → lv_has ls 5 [(4, .int (nI r - 1)), (0, .ref (base + 0)), (1, .long pb), (3, .int pn)] → va_P (dC, dI) vwCl (Wd base cy rf v 874) H → va_S (fun q => base ≤ q) H0 H locs → W p l e R s m args below meth c H locs cells slots Q (F0 m 32 ls []) := by
  intro k
  induction k with
  | zero =>
    intro d r v H locs ls h1 hk hd hF hl hP hS
    omega
  | succ k ih =>
    intro d r v H locs ls h1 hk hd hF hl hP hS
    refine lv_iload hx hb dX9_type_32 (lv_at hl 0 rfl) ?_
    refine lv_if_lt (tgt := 74) hx hb dX9_type_34 (by decide) (fun c34 => ?_) (fun c34 => ?_)
    · have r0 : r = 0 := by
        cases r with
        | zero => rfl
        | succ q => exact absurd (by rw [nI_pred] at c34; exact c34) (nI_pos (by omega))
      subst r0
      exact hex _ _ _ _ hF (by rw [hd]; congr 1) (lv_sub hl [1] rfl) hP hS
    · obtain ⟨z, hz1⟩ : ∃ q, r = q + 1 := by
        rcases Nat.eq_zero_or_pos r with q | q
        · rw [q] at c34; exact absurd (by decide) c34
        · exact ⟨r - 1, by omega⟩
      refine lv_aload_n hx hb dX9_type_37 rfl (lv_at hl 1 rfl) ?_
      have q1 := ch9_2 i9
      refine w_gR (C := RX9) (T := TX9) (N := 4) (ci := 9) hx hb hts in9 hown hK hP 2 i9.1 i9 rfl (by decide) q1.1 (hts _ mf_X9_25) dX9_type_38 ?_
      refine lv_aload_n hx hb dX9_type_41 rfl (lv_at hl 1 rfl) ?_
      refine w_gI (C := RX9) (T := TX9) (N := 4) (ci := 9) hx hb hts in9 hown hK hP 3 i9.1 i9 rfl (by decide) (hts _ mf_X9_37) dX9_type_42 ?_
      refine lv_topi (fun x42 ex42 => ?_)
      refine lv_lload_n hx hb dX9_type_45 rfl (lv_at hl 2 rfl) ?_
      refine lv_bipush (v := 8) hx hb dX9_type_46 (by decide) ?_
      refine lv_iload hx hb dX9_type_48 (lv_at hl 0 rfl) ?_
      refine lv_imul hx hb dX9_type_50 ?_
      refine lv_topi (fun x50 ex50 => ?_)
      refine lv_lshr hx hb dX9_type_51 rfl ?_
      refine lv_topl (fun x51 ex51 => ?_)
      refine lv_l2i hx hb dX9_type_52 rfl ?_
      refine lv_topi (fun x52 ex52 => ?_)
      refine lv_sipush (v := 255) hx hb dX9_type_53 (by decide) ?_
      refine lv_iand hx hb dX9_type_56 ?_
      refine lv_topi (fun x56 ex56 => ?_)
      refine w_is (N := 64) hx hb hK hP hS q1.2.1.1 (q1.2.1) (q1.2.2) (by rw [ex42, hd]; exact vp_in_nI (by omega) (by decide)) dX9_type_57 (fun v2 H locs hv2 hP hz hS => ?_)
      refine lv_aload_n hx hb dX9_type_58 rfl (lv_at hl 1 rfl) ?_
      refine lv_dup hx hb dX9_type_59 rfl ?_
      refine w_gI (C := RX9) (T := TX9) (N := 4) (ci := 9) hx hb hts in9 hown hK hP 3 i9.1 i9 rfl (by decide) (hts _ mf_X9_37) dX9_type_60 ?_
      refine lv_topi (fun x60 ex60 => ?_)
      refine lv_iconst (v := 1) hx hb dX9_type_63 (by decide) ?_
      refine lv_iadd hx hb dX9_type_64 ?_
      refine lv_topi (fun x64 ex64 => ?_)
      refine w_pI (C := RX9) (T := TX9) (N := 4) (ci := 9) hx hb hts in9 tyX9 tyX9_ok nmX9 hown hK hP hS 3 i9.1 i9 rfl (by decide) (hts _ mf_X9_37) rfl (ty := .int) (by decide +kernel) rfl rfl dX9_type_65 (fun v3 H locs hv3 hP hz hS => ?_)
      obtain ⟨x68, ex68⟩ : ∃ y : Int32, y = (nI r - 1) + (-1) := ⟨_, rfl⟩
      refine lv_iinc (v := x68) (lv' := [(4, .int x68), (0, .ref (base + 0)), (1, .long pb), (3, .int pn)]) hx hb dX9_type_68 hl (k := 0) rfl (by rw [ex68]; first | rfl | (rw [show Int32.ofInt (-1) = (-1 : Int32) from by decide])) (by decide) rfl (fun ls hl => ?_)
      refine lv_goto (tgt := 32) hx hb dX9_type_71 (by decide) ?_
      exact ih (d + 1) z v3 _ _ _ (by omega) (by omega) (by rw [hv3, up2_s, ex64, ex60, hv2, up2_o _ _ _ _ _ (by decide), hd, nI_1]) (by rw [hv3, hv2]; exact (hF.up _ _ _ (by decide)).up _ _ _ (by decide)) (by rw [← m1_ z, ← hz1, ← ex68]; exact lv_sub hl [0, 1, 2, 3] rfl) hP hS
set_option maxHeartbeats 4000000 in
set_option maxRecDepth 100000 in
/-- type(bytes, n) on a new object -/
theorem c9_type (l : Launch) (dC : Nat → ClassId) (dI : Nat → Nat → Nat) (base : Nat) (cy : Nat → ClassId) (v : VV) (hf : Fc v) (pb : Int64) (pn : Int32) : CI l yX9_type (.code yX9_type cX9_type 5 (some .int) :: TB) { frames := 0, cells := 0, slots := 0, locals := 0 } dC dI base cy [.ref (base + 0), .long pb, .int pn] v (fun (x : Int32) (v' : VV) => (tyB pn ∧ x = pn ∨ ¬ tyB pn ∧ x = -1) ∧ Fr (fun a => a < 816) v v') := by
  refine Met.ofW (cc := cX9_type) (maxL := 5) (ret := (some .int)) (by decide) rfl ?_
  intro p e s m args below meth c s₁ B hml hv
  obtain ⟨rfl, hP, hK⟩ := hv
  have hx := B.exec
  have hb := B.bytes
  have hr := B.returns
  have hts0 := atoms_spec (ws := (.code yX9_type cX9_type 5 (some .int) :: TB)) B.pre
  have hts : ∀ w ∈ TB, w.before ([.ref (base + 0), .long pb, .int pn]).toArray s = true := fun w h => hts0 w (List.mem_cons_of_mem _ h)
  have hown : s.vm.findClass RX9 = some m.cls := findClass_of_methodNamed B.named
  have hlocks := B.notSynchronized
  have hS : va_S (fun q => base ≤ q) s.heap s.heap [] := va_S.rf
  have hl := lv_entry ([.ref (base + 0), .long pb, .int pn]) (n := 5) (Nat.le_of_ble_eq_true rfl)
  rw [lg_entry_eq]
  generalize (lg_sl ([.ref (base + 0), .long pb, .int pn]) ++ List.replicate (5 - (lg_sl ([.ref (base + 0), .long pb, .int pn])).length) Slot.unset).toArray = ls at hl ⊢
  have hl : lv_has ls 5 [(0, .ref (base + 0)), (1, .long pb), (3, .int pn)] := hl
  refine lv_iload_n hx hb dX9_type_0 rfl (lv_at hl 2 rfl) ?_
  refine lv_iconst (v := 1) hx hb dX9_type_1 (by decide) ?_
  refine lv_icmp_lt (tgt := 11) hx hb dX9_type_2 (by decide) (fun c2 => ?_) (fun c2 => ?_)
  · refine lv_iconst (v := -1) hx hb dX9_type_11 (by decide) ?_
    exact W.iret (v := (-1)) hx hb hr (fun t ht hW => ⟨⟨(-1), v, rfl, ⟨Or.inr ⟨fun q => by first | exact q.1 c2 | exact absurd q.2 c8, rfl⟩, Fr.rf⟩, by rw [ht]; exact hP, va_K.moved hW.alike hK⟩, hS.F ht⟩) hS.2.2 dX9_type_12
  · refine lv_iload_n hx hb dX9_type_5 rfl (lv_at hl 2 rfl) ?_
    refine lv_bipush (v := 8) hx hb dX9_type_6 (by decide) ?_
    refine lv_icmp_le (tgt := 13) hx hb dX9_type_8 (by decide) (fun c8 => ?_) (fun c8 => ?_)
    · obtain ⟨n, hn, hn8⟩ : ∃ n : Nat, pn = nI (n + 1) ∧ n + 1 ≤ 8 := by
        obtain ⟨q, q1, q2⟩ := btw (x := pn) (L := 9) c2 (fun w => absurd (Int32.le_iff_toInt_le.mp c8) (by have := Int32.le_iff_toInt_le.mp w; rw [nI_toInt (by decide)] at this; have : (8 : Int32).toInt = 8 := rfl; omega)) (by decide)
        exact ⟨q, q2, by omega⟩
      refine lv_aload_n hx hb dX9_type_13 rfl (lv_at hl 0 rfl) ?_
      refine w_gI (C := RX9) (T := TX9) (N := 4) (ci := 9) hx hb hts in9 hown hK hP 3 i9.1 i9 rfl (by decide) (hts _ mf_X9_37) dX9_type_14 ?_
      refine lv_topi (fun x14 ex14 => ?_)
      refine lv_iload_n hx hb dX9_type_17 rfl (lv_at hl 2 rfl) ?_
      refine lv_iadd hx hb dX9_type_18 ?_
      refine lv_topi (fun x18 ex18 => ?_)
      refine lv_bipush (v := 64) hx hb dX9_type_19 (by decide) ?_
      refine lv_icmp_le (tgt := 27) hx hb dX9_type_21 (by decide) (fun c21 => ?_) (fun c21 => ?_)
      · refine lv_iload_n hx hb dX9_type_27 rfl (lv_at hl 2 rfl) ?_
        refine lv_iconst (v := 1) hx hb dX9_type_28 (by decide) ?_
        refine lv_isub hx hb dX9_type_29 ?_
        refine lv_topi (fun x29 ex29 => ?_)
        refine lv_istore (lv' := [(4, .int x29), (0, .ref (base + 0)), (1, .long pb), (3, .int pn)]) hx hb dX9_type_30 hl (by decide) rfl (fun ls hl => ?_)
        refine lp9_type hx hb hml hown hts hK ⟨Nat.zero_le _, Nat.zero_le _⟩ hn8 (fun w H locs ls hF hd hl hP hS => ?_) (n + 2) 0 (n + 1) v _ _ _ (by omega) (by omega) (hf.z i9 (by decide) (by decide) 3) Fr.rf (by rw [← hn, ← ex29]; exact lv_sub hl [0, 1, 2, 3] rfl) hP hS
        refine lv_aload_n hx hb dX9_type_74 rfl (lv_at hl 0 rfl) ?_
        refine w_gI (C := RX9) (T := TX9) (N := 4) (ci := 9) hx hb hts in9 hown hK hP 3 i9.1 i9 rfl (by decide) (hts _ mf_X9_37) dX9_type_75 ?_
        refine lv_topi (fun x75 ex75 => ?_)
        exact W.iret (v := x75) hx hb hr (fun t ht hW => ⟨⟨x75, w, rfl, ⟨Or.inl ⟨⟨c2, c8⟩, by rw [ex75, hd, hn]⟩, hF⟩, by rw [ht]; exact hP, va_K.moved hW.alike hK⟩, hS.F ht⟩) hS.2.2 dX9_type_78
      · exact absurd (by
            rw [ex18, ex14, hf.z i9 (by decide) (by decide) 3, hn, show (0 : Int32) = nI 0 from rfl, nI_add]
            exact nI_le (b := 64) (by omega) (by decide)) c21
    · refine lv_iconst (v := -1) hx hb dX9_type_11 (by decide) ?_
      exact W.iret (v := (-1)) hx hb hr (fun t ht hW => ⟨⟨(-1), v, rfl, ⟨Or.inr ⟨fun q => by first | exact q.1 c2 | exact absurd q.2 c8, rfl⟩, Fr.rf⟩, by rw [ht]; exact hP, va_K.moved hW.alike hK⟩, hS.F ht⟩) hS.2.2 dX9_type_12
set_option maxHeartbeats 4000000 in
set_option maxRecDepth 100000 in
/-- the loop of tick, nothing sent -/
theorem lp9_tick {p : Program} {l : Launch} {e : Env} {R : Room} {s : State} {m : MethodId} {args : Array Value} {below : List Frame} {meth : Method} {c : Code} {cells slots : Nat} {Q : State → Prop} {dC : Nat → ClassId} {dI : Nat → Nat → Nat} {base : Nat} {cy : Nat → ClassId} {H0 : Heap} (hx : p.tables.exec = Jvm.exec) (hb : c.code = cX9_tick) (hml : c.maxLocals = 3) (hown : s.vm.findClass RX9 = some m.cls) (hts : ∀ w ∈ TB, w.before args s = true) (hK : va_K (dC, dI) vwCl (tyL cy) s) (hcs : cells ≤ R.cells ∧ slots ≤ R.slots) (hR : 4 ≤ R.frames ∧ 90 ≤ R.locals) {v0 : VV} (hf : Fc v0) {n : Nat} (hn : n ≤ 20) (hex : ∀ (v : VV) (H : Heap) (locs : List Loc) (ls : Array Slot), v = up2 v0 1 10 (nI n) → lv_has ls 3 [(0, .ref (base + 0))] → va_P (dC, dI) vwCl (Wd base cy rf v 874) H → va_S (fun q => base ≤ q) H0 H locs → W p l e R s m args below meth c H locs cells slots Q (F0 m 92 ls [])) : ∀ (k : Nat) (i : Nat) (v : VV) (H : Heap) (locs : List Loc) (ls : Array Slot), i ≤ n → n + 1 ≤ i + k → v = up2 v0 1 10 (nI i) → lv_has ls 3 [(2, .int (nI i)), (0, .ref (base + 0)), (1, .int (nI n))] → va_P (dC, dI) vwCl (Wd base cy rf v 874) H → va_S (fun q => base ≤ q) H0 H locs → W p l e R s m args below meth c H locs cells slots Q (F0 m 33 ls []) := by
  intro k
  induction k with
  | zero =>
    intro i v H locs ls hi hk hv hl hP hS
    omega
  | succ k ih =>
    intro i v H locs ls hi hk hv hl hP hS
    refine lv_iload_n hx hb dX9_tick_33 rfl (lv_at hl 0 rfl) ?_
    refine lv_iload_n hx hb dX9_tick_34 rfl (lv_at hl 2 rfl) ?_
    refine lv_icmp_ge (tgt := 92) hx hb dX9_tick_35 (by decide) (fun c35 => ?_) (fun c35 => ?_)
    · have r0 : i = n := by
        have := (nI_leI (by omega) (by omega)).mp c35
        omega
      subst r0
      exact hex _ _ _ _ hv (lv_sub hl [1] rfl) hP hS
    · have hi2 : i < n := Nat.lt_of_not_le (fun q => c35 (nI_le q (by omega)))
      have q8 : v 1 8 = 0 := by rw [hv, up2_k _ _ _ _ (by decide)]; exact hf.z i2 (by decide) (by decide) 8
      have q9 : v 1 9 = 0 := by rw [hv, up2_k _ _ _ _ (by decide)]; exact hf.z i2 (by decide) (by decide) 9
      refine lv_aload_n hx hb dX9_tick_38 rfl (lv_at hl 1 rfl) ?_
      have q1 := ch9_0 i9
      refine w_gR (C := RX9) (T := TX9) (N := 4) (ci := 9) hx hb hts in9 hown hK hP 0 i9.1 i9 rfl (by decide) q1.1 (hts _ mf_X9_10) dX9_tick_39 ?_
      refine lv_dup hx hb dX9_tick_42 rfl ?_
      refine w_gI (C := RX2) (T := TX2) (N := 11) (ci := 2) hx hb hts in2 hown hK hP 10 q1.2.1 q1.2 rfl (by decide) (hts _ mf_X9_80) dX9_tick_43 ?_
      refine lv_topi (fun x43 ex43 => ?_)
      refine lv_iconst (v := 1) hx hb dX9_tick_46 (by decide) ?_
      refine lv_iadd hx hb dX9_tick_47 ?_
      refine lv_topi (fun x47 ex47 => ?_)
      refine w_pI (C := RX2) (T := TX2) (N := 11) (ci := 2) hx hb hts in2 tyX2 tyX2_ok nmX2 hown hK hP hS 10 q1.2.1 q1.2 rfl (by decide) (hts _ mf_X9_80) rfl (ty := .int) (by decide +kernel) rfl rfl dX9_tick_48 (fun v2 H locs hv2 hP hz hS => ?_)
      refine lv_aload_n hx hb dX9_tick_51 rfl (lv_at hl 1 rfl) ?_
      refine lv_iconst (v := 0) hx hb dX9_tick_52 (by decide) ?_
      have w8 : v2 1 8 = 0 := by rw [hv2, up2_k _ _ _ _ (by decide)]; exact q8
      have w9 : v2 1 9 = 0 := by rw [hv2, up2_k _ _ _ _ (by decide)]; exact q9
      have wE : ∀ o, isO 0 o → v2 o 8 = 0 := fun o ho => by
        have eb := endB o ho.1 ho.2
        rw [hv2, up2_o _ _ _ _ _ (by omega), hv, up2_o _ _ _ _ _ (by omega)]
        exact hf.E ho 8 (by decide) (by decide)
      refine k_V (As := [.int 0]) (rest := []) ⟨hx, hb, hml, hown, hts⟩ (c9_deliver0 l dC dI base cy v2 0 w8 w9) (cwV 1 hts (gV ml_X9_83 mi_X9_deliver mx_X9_deliver mn_X9 mo_X9_deliver) rfl rfl rfl (by decide +kernel) ⟨Nat.le_trans (by decide) hR.1, Nat.le_trans (by decide) hR.2⟩) hK hP hS i9 (by decide) rfl rfl hl.1 rfl (Nat.le_of_ble_eq_true rfl) dX9_tick_53 hcs (fun v3 H locs hv3 hP hS => ?_)
      rw [hv3] at hP
      refine lv_aload_n hx hb dX9_tick_56 rfl (lv_at hl 1 rfl) ?_
      refine lv_iconst (v := 1) hx hb dX9_tick_57 (by decide) ?_
      refine k_V (As := [.int 1]) (rest := []) ⟨hx, hb, hml, hown, hts⟩ (c9_deliver0 l dC dI base cy v2 1 w8 w9) (cwV 1 hts (gV ml_X9_83 mi_X9_deliver mx_X9_deliver mn_X9 mo_X9_deliver) rfl rfl rfl (by decide +kernel) ⟨Nat.le_trans (by decide) hR.1, Nat.le_trans (by decide) hR.2⟩) hK hP hS i9 (by decide) rfl rfl hl.1 rfl (Nat.le_of_ble_eq_true rfl) dX9_tick_58 hcs (fun v4 H locs hv4 hP hS => ?_)
      rw [hv4] at hP
      refine lv_aload_n hx hb dX9_tick_61 rfl (lv_at hl 1 rfl) ?_
      have q5 := ch9_0 i9
      refine w_gR (C := RX9) (T := TX9) (N := 4) (ci := 9) hx hb hts in9 hown hK hP 0 i9.1 i9 rfl (by decide) q5.1 (hts _ mf_X9_10) dX9_tick_62 ?_
      refine k_V (As := []) (rest := []) ⟨hx, hb, hml, hown, hts⟩ (c2_forget0 l dC dI base cy v2 w8 w9) (cwV 0 hts (gV ml_X9_87 mi_X2_forgetArrived mx_X2_forgetArrived mn_X2 mo_X2_forgetArrived) rfl rfl rfl (by decide +kernel) ⟨Nat.le_trans (by decide) hR.1, Nat.le_trans (by decide) hR.2⟩) hK hP hS q5.2 (by decide) rfl rfl hl.1 rfl (Nat.le_of_ble_eq_true rfl) dX9_tick_65 hcs (fun v6 H locs hv6 hP hS => ?_)
      rw [hv6] at hP
      refine lv_aload_n hx hb dX9_tick_68 rfl (lv_at hl 1 rfl) ?_
      have q7 := ch9_1 i9
      refine w_gR (C := RX9) (T := TX9) (N := 4) (ci := 9) hx hb hts in9 hown hK hP 1 i9.1 i9 rfl (by decide) q7.1 (hts _ mf_X9_21) dX9_tick_69 ?_
      refine lv_iconst (v := 0) hx hb dX9_tick_72 (by decide) ?_
      have q8 := arE (i := 0) (by decide)
      refine w_aa (q0 := 3) hx hb hK hP q7.2.1.1 q7.2.1 (by decide) rfl q7.2.2 (vp_in_nI (n := 0) (by decide) (by decide)) (by rw [show ((0 : Int32)).toNatClampNeg = 0 from rfl]; exact q8.1) dX9_tick_73 ?_
      refine k_V (As := []) (rest := []) ⟨hx, hb, hml, hown, hts⟩ (c0_passTick0 l dC dI base cy (523 + 146 * 0) (arE (by decide)).2 v2 (wE _ (arE (by decide)).2)) (cwV 0 hts (gV ml_X9_90 mi_X0_passTick mx_X0_passTick mn_X0 mo_X0_passTick) rfl rfl rfl (by decide +kernel) ⟨Nat.le_trans (by decide) hR.1, Nat.le_trans (by decide) hR.2⟩) hK hP hS q8.2 (by decide) rfl rfl hl.1 rfl (Nat.le_of_ble_eq_true rfl) dX9_tick_74 hcs (fun v9 H locs hv9 hP hS => ?_)
      rw [hv9] at hP
      refine lv_aload_n hx hb dX9_tick_77 rfl (lv_at hl 1 rfl) ?_
      have q10 := ch9_1 i9
      refine w_gR (C := RX9) (T := TX9) (N := 4) (ci := 9) hx hb hts in9 hown hK hP 1 i9.1 i9 rfl (by decide) q10.1 (hts _ mf_X9_21) dX9_tick_78 ?_
      refine lv_iconst (v := 1) hx hb dX9_tick_81 (by decide) ?_
      have q11 := arE (i := 1) (by decide)
      refine w_aa (q0 := 3) hx hb hK hP q10.2.1.1 q10.2.1 (by decide) rfl q10.2.2 (vp_in_nI (n := 1) (by decide) (by decide)) (by rw [show ((1 : Int32)).toNatClampNeg = 1 from rfl]; exact q11.1) dX9_tick_82 ?_
      refine k_V (As := []) (rest := []) ⟨hx, hb, hml, hown, hts⟩ (c0_passTick0 l dC dI base cy (523 + 146 * 1) (arE (by decide)).2 v2 (wE _ (arE (by decide)).2)) (cwV 0 hts (gV ml_X9_90 mi_X0_passTick mx_X0_passTick mn_X0 mo_X0_passTick) rfl rfl rfl (by decide +kernel) ⟨Nat.le_trans (by decide) hR.1, Nat.le_trans (by decide) hR.2⟩) hK hP hS q11.2 (by decide) rfl rfl hl.1 rfl (Nat.le_of_ble_eq_true rfl) dX9_tick_83 hcs (fun v12 H locs hv12 hP hS => ?_)
      rw [hv12] at hP
      obtain ⟨x86, ex86⟩ : ∃ y : Int32, y = (nI i) + 1 := ⟨_, rfl⟩
      refine lv_iinc (v := x86) (lv' := [(2, .int x86), (0, .ref (base + 0)), (1, .int (nI n))]) hx hb dX9_tick_86 hl (k := 0) rfl (by rw [ex86]; first | rfl | (rw [show Int32.ofInt (-1) = (-1 : Int32) from by decide])) (by decide) rfl (fun ls hl => ?_)
      refine lv_goto (tgt := 33) hx hb dX9_tick_89 (by decide) ?_
      exact ih (i + 1) v2 _ _ _ (by omega) (by omega) (by rw [hv2, ex47, ex43, hv, up2_s, nI_1]; funext a b; simp only [up2]; split <;> (try split) <;> simp_all) (by rw [← nI_1 i, ← ex86]; exact lv_sub hl [0, 1, 2] rfl) hP hS
set_option maxHeartbeats 4000000 in
set_option maxRecDepth 100000 in
/-- tick(many) on a new object -/
theorem c9_tick (l : Launch) (dC : Nat → ClassId) (dI : Nat → Nat → Nat) (base : Nat) (cy : Nat → ClassId) (v : VV) (hf : Fc v) (p1 : Int32) : CI l yX9_tick (.code yX9_tick cX9_tick 3 (some .int) :: TB) { frames := 4, cells := 0, slots := 0, locals := 90 } dC dI base cy [.ref (base + 0), .int p1] v (fun (x : Int32) (v' : VV) => (tkB p1 ∧ x = p1 ∨ ¬ tkB p1 ∧ x = -1) ∧ Fr (fun a => a < 816) v v') := by
  refine Met.ofW (cc := cX9_tick) (maxL := 3) (ret := (some .int)) (by decide) rfl ?_
  intro p e s m args below meth c s₁ B hml hv
  obtain ⟨rfl, hP, hK⟩ := hv
  have hx := B.exec
  have hb := B.bytes
  have hr := B.returns
  have hts0 := atoms_spec (ws := (.code yX9_tick cX9_tick 3 (some .int) :: TB)) B.pre
  have hts : ∀ w ∈ TB, w.before ([.ref (base + 0), .int p1]).toArray s = true := fun w h => hts0 w (List.mem_cons_of_mem _ h)
  have hown : s.vm.findClass RX9 = some m.cls := findClass_of_methodNamed B.named
  have hlocks := B.notSynchronized
  have hS : va_S (fun q => base ≤ q) s.heap s.heap [] := va_S.rf
  have hl := lv_entry ([.ref (base + 0), .int p1]) (n := 3) (Nat.le_of_ble_eq_true rfl)
  rw [lg_entry_eq]
  generalize (lg_sl ([.ref (base + 0), .int p1]) ++ List.replicate (3 - (lg_sl ([.ref (base + 0), .int p1])).length) Slot.unset).toArray = ls at hl ⊢
  have hl : lv_has ls 3 [(0, .ref (base + 0)), (1, .int p1)] := hl
  refine lv_iload_n hx hb dX9_tick_0 rfl (lv_at hl 1 rfl) ?_
  refine lv_iconst (v := 1) hx hb dX9_tick_1 (by decide) ?_
  refine lv_icmp_lt (tgt := 11) hx hb dX9_tick_2 (by decide) (fun c2 => ?_) (fun c2 => ?_)
  · refine lv_iconst (v := -1) hx hb dX9_tick_11 (by decide) ?_
    exact W.iret (v := (-1)) hx hb hr (fun t ht hW => ⟨⟨(-1), v, rfl, ⟨Or.inr ⟨fun q => by first | exact q.1 c2 | exact absurd q.2 c8, rfl⟩, Fr.rf⟩, by rw [ht]; exact hP, va_K.moved hW.alike hK⟩, hS.F ht⟩) hS.2.2 dX9_tick_12
  · refine lv_iload_n hx hb dX9_tick_5 rfl (lv_at hl 1 rfl) ?_
    refine lv_bipush (v := 20) hx hb dX9_tick_6 (by decide) ?_
    refine lv_icmp_le (tgt := 13) hx hb dX9_tick_8 (by decide) (fun c8 => ?_) (fun c8 => ?_)
    · obtain ⟨n, hn, hn8⟩ : ∃ n : Nat, p1 = nI n ∧ n ≤ 20 := by
        obtain ⟨q, q1, q2⟩ := btw (x := p1) (L := 21) c2 (fun w => absurd (Int32.le_iff_toInt_le.mp c8) (by have := Int32.le_iff_toInt_le.mp w; rw [nI_toInt (by decide)] at this; have : (20 : Int32).toInt = 20 := rfl; omega)) (by decide)
        exact ⟨q + 1, q2, by omega⟩
      refine lv_aload_n hx hb dX9_tick_13 rfl (lv_at hl 0 rfl) ?_
      have q1 := ch9_0 i9
      refine w_gR (C := RX9) (T := TX9) (N := 4) (ci := 9) hx hb hts in9 hown hK hP 0 i9.1 i9 rfl (by decide) q1.1 (hts _ mf_X9_10) dX9_tick_14 ?_
      refine w_gI (C := RX2) (T := TX2) (N := 11) (ci := 2) hx hb hts in2 hown hK hP 10 q1.2.1 q1.2 rfl (by decide) (hts _ mf_X9_80) dX9_tick_17 ?_
      refine lv_topi (fun x17 ex17 => ?_)
      refine lv_iload_n hx hb dX9_tick_20 rfl (lv_at hl 1 rfl) ?_
      refine lv_iadd hx hb dX9_tick_21 ?_
      refine lv_topi (fun x21 ex21 => ?_)
      refine lv_sipush (v := 3000) hx hb dX9_tick_22 (by decide) ?_
      refine lv_icmp_le (tgt := 31) hx hb dX9_tick_25 (by decide) (fun c25 => ?_) (fun c25 => ?_)
      · refine lv_iconst (v := 0) hx hb dX9_tick_31 (by decide) ?_
        refine lv_istore_n (lv' := [(2, .int 0), (0, .ref (base + 0)), (1, .int p1)]) hx hb dX9_tick_32 rfl hl (by decide) rfl (fun ls hl => ?_)
        refine lp9_tick hx hb hml hown hts hK ⟨Nat.zero_le _, Nat.zero_le _⟩ ⟨by decide, by decide⟩ hf hn8 (fun w H locs ls hw hl hP hS => ?_) (n + 1) 0 v _ _ _ (by omega) (by omega) (up2_same ((hf.z i2 (by decide) (by decide) 10).trans nI_0.symm)) (by rw [← hn]; exact lv_sub hl [0, 1, 2] rfl) hP hS
        refine lv_aload_n hx hb dX9_tick_92 rfl (lv_at hl 0 rfl) ?_
        have q2 := ch9_0 i9
        refine w_gR (C := RX9) (T := TX9) (N := 4) (ci := 9) hx hb hts in9 hown hK hP 0 i9.1 i9 rfl (by decide) q2.1 (hts _ mf_X9_10) dX9_tick_93 ?_
        refine w_gI (C := RX2) (T := TX2) (N := 11) (ci := 2) hx hb hts in2 hown hK hP 10 q2.2.1 q2.2 rfl (by decide) (hts _ mf_X9_80) dX9_tick_96 ?_
        refine lv_topi (fun x96 ex96 => ?_)
        exact W.iret (v := x96) hx hb hr (fun t ht hW => ⟨⟨x96, w, rfl, ⟨Or.inl ⟨⟨c2, c8⟩, by rw [ex96, hw, up2_s, hn]⟩, by rw [hw]; exact Fr.rf.up _ _ _ (by decide)⟩, by rw [ht]; exact hP, va_K.moved hW.alike hK⟩, hS.F ht⟩) hS.2.2 dX9_tick_99
      · exact absurd (by
            rw [ex21, ex17, hf.z i2 (by decide) (by decide) 10, hn, show (0 : Int32) = nI 0 from rfl, nI_add]
            exact nI_le (b := 3000) (by omega) (by decide)) c25
    · refine lv_iconst (v := -1) hx hb dX9_tick_11 (by decide) ?_
      exact W.iret (v := (-1)) hx hb hr (fun t ht hW => ⟨⟨(-1), v, rfl, ⟨Or.inr ⟨fun q => by first | exact q.1 c2 | exact absurd q.2 c8, rfl⟩, Fr.rf⟩, by rw [ht]; exact hP, va_K.moved hW.alike hK⟩, hS.F ht⟩) hS.2.2 dX9_tick_12
