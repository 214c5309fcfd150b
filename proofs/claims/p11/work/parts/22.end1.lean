/-- what a new object holds -/
def iv (a k : Nat) : Int32 := if kd a = 0 then (if k = 11 then -1 else if k = 0 ∧ a = 669 then 1 else 0) else if a = 821 ∧ k < 2 then -1 else if a = 859 ∧ k < 2 then -1 else if a = 848 ∧ k < 256 then -1 else 0
theorem endB : ∀ o, o < 874 → kd o = 0 → 523 ≤ o ∧ o + 146 ≤ 816 := by decide +kernel
theorem iv_E {o : Nat} (h : isO 0 o) (k : Nat) (h1 : k ≠ 11) (h2 : k ≠ 0) : iv o k = 0 := by
  simp [iv, h.2, h1, h2]
theorem iv_11 {o : Nat} (h : isO 0 o) : iv o 11 = -1 := by
  simp [iv, h.2]
theorem iv_0 {a : Nat} (h : a < 816) (hk : kd a ≠ 0) (k : Nat) : iv a k = 0 := by
  simp [iv, hk, show a ≠ 821 by omega, show a ≠ 859 by omega, show a ≠ 848 by omega]
/-- the system's part is as it was made -/
def Fc (v : VV) : Prop := ∀ a, a < 816 → v a = iv a
theorem Fc.E {v : VV} (h : Fc v) {o : Nat} (ho : isO 0 o) (k : Nat) (h1 : k ≠ 11) (h2 : k ≠ 0) : v o k = 0 := by
  rw [h o (by have := endB o ho.1 ho.2; omega), iv_E ho k h1 h2]
theorem Fc.e11 {v : VV} (h : Fc v) {o : Nat} (ho : isO 0 o) : v o 11 = -1 := by
  rw [h o (by have := endB o ho.1 ho.2; omega), iv_11 ho]
theorem Fc.z {v : VV} (h : Fc v) {a c : Nat} (ha : isO c a) (hc : c ≠ 0) (hl : a < 816) (k : Nat) : v a k = 0 := by
  rw [h a hl, iv_0 hl (by rw [ha.2]; exact hc)]
theorem Fc.idx {v : VV} (h : Fc v) {o : Nat} (ho : isO 0 o) : v o 0 = 0 ∨ v o 0 = 1 := by
  rw [h o (by have := endB o ho.1 ho.2; omega)]
  have hh : ∀ o, o < 874 → kd o = 0 → iv o 0 = 0 ∨ iv o 0 = 1 := by decide +kernel
  exact hh o ho.1 ho.2
def told0 (w : Int32) : Int32 := if w = 0 ∨ w = 1 ∨ w = 2 ∨ w = 3 ∨ w = 4 ∨ w = 6 ∨ w = 7 ∨ w = 8 then 0 else if w = 5 then 6 else -1
set_option maxHeartbeats 4000000 in
set_option maxRecDepth 100000 in
/-- Net.addFault where none was told -/
theorem c2_addFault0 (l : Launch) (dC : Nat → ClassId) (dI : Nat → Nat → Nat) (base : Nat) (cy : Nat → ClassId) (v : VV) (p1 p2 p3 p4 : Int32) (h0 : v 1 7 = 0) : CI l yX2_addFault (.code yX2_addFault cX2_addFault 5 (some .int) :: TB) { frames := 0, cells := 0, slots := 0, locals := 0 } dC dI base cy [.ref (base + 1), .int p1, .int p2, .int p3, .int p4] v (fun (x : Int32) (v' : VV) => x = 1 ∧ Fr (fun a => a < 816) v v') := by
  refine Met.ofW (cc := cX2_addFault) (maxL := 5) (ret := (some .int)) (by decide) rfl ?_
  intro p e s m args below meth c s₁ B hml hv
  obtain ⟨rfl, hP, hK⟩ := hv
  have hx := B.exec
  have hb := B.bytes
  have hr := B.returns
  have hts0 := atoms_spec (ws := (.code yX2_addFault cX2_addFault 5 (some .int) :: TB)) B.pre
  have hts : ∀ w ∈ TB, w.before ([.ref (base + 1), .int p1, .int p2, .int p3, .int p4]).toArray s = true := fun w h => hts0 w (List.mem_cons_of_mem _ h)
  have hown : s.vm.findClass RX2 = some m.cls := findClass_of_methodNamed B.named
  have hlocks := B.notSynchronized
  have hS : va_S (fun q => base ≤ q) s.heap s.heap [] := va_S.rf
  have hl := lv_entry ([.ref (base + 1), .int p1, .int p2, .int p3, .int p4]) (n := 5) (Nat.le_of_ble_eq_true rfl)
  rw [lg_entry_eq]
  generalize (lg_sl ([.ref (base + 1), .int p1, .int p2, .int p3, .int p4]) ++ List.replicate (5 - (lg_sl ([.ref (base + 1), .int p1, .int p2, .int p3, .int p4])).length) Slot.unset).toArray = ls at hl ⊢
  have hl : lv_has ls 5 [(0, .ref (base + 1)), (1, .int p1), (2, .int p2), (3, .int p3), (4, .int p4)] := hl
  refine lv_aload_n hx hb dX2_addFault_0 rfl (lv_at hl 0 rfl) ?_
  refine w_gI (C := RX2) (T := TX2) (N := 11) (ci := 2) hx hb hts in2 hown hK hP 7 i2.1 i2 rfl (by decide) (hts _ mf_X2_38) dX2_addFault_1 ?_
  refine lv_topi (fun x1 ex1 => ?_)
  refine lv_bipush (v := 60) hx hb dX2_addFault_4 (by decide) ?_
  refine lv_icmp_lt (tgt := 12) hx hb dX2_addFault_6 (by decide) (fun c6 => ?_) (fun c6 => ?_)
  · refine lv_aload_n hx hb dX2_addFault_12 rfl (lv_at hl 0 rfl) ?_
    have q1 := ch2_2 i2
    refine w_gR (C := RX2) (T := TX2) (N := 11) (ci := 2) hx hb hts in2 hown hK hP 2 i2.1 i2 rfl (by decide) q1.1 (hts _ mf_X2_22) dX2_addFault_13 ?_
    refine lv_aload_n hx hb dX2_addFault_16 rfl (lv_at hl 0 rfl) ?_
    refine w_gI (C := RX2) (T := TX2) (N := 11) (ci := 2) hx hb hts in2 hown hK hP 7 i2.1 i2 rfl (by decide) (hts _ mf_X2_38) dX2_addFault_17 ?_
    refine lv_topi (fun x17 ex17 => ?_)
    refine lv_iload_n hx hb dX2_addFault_20 rfl (lv_at hl 1 rfl) ?_
    refine w_is (N := 60) hx hb hK hP hS q1.2.1.1 (q1.2.1) (q1.2.2) (by rw [ex17, h0]; exact vp_in_nI (n := 0) (by decide) (by decide)) dX2_addFault_21 (fun v2 H locs hv2 hP hz hS => ?_)
    refine lv_aload_n hx hb dX2_addFault_22 rfl (lv_at hl 0 rfl) ?_
    have q3 := ch2_3 i2
    refine w_gR (C := RX2) (T := TX2) (N := 11) (ci := 2) hx hb hts in2 hown hK hP 3 i2.1 i2 rfl (by decide) q3.1 (hts _ mf_X2_26) dX2_addFault_23 ?_
    refine lv_aload_n hx hb dX2_addFault_26 rfl (lv_at hl 0 rfl) ?_
    refine w_gI (C := RX2) (T := TX2) (N := 11) (ci := 2) hx hb hts in2 hown hK hP 7 i2.1 i2 rfl (by decide) (hts _ mf_X2_38) dX2_addFault_27 ?_
    refine lv_topi (fun x27 ex27 => ?_)
    refine lv_iload_n hx hb dX2_addFault_30 rfl (lv_at hl 2 rfl) ?_
    refine w_is (N := 60) hx hb hK hP hS q3.2.1.1 (q3.2.1) (q3.2.2) (by rw [ex27, hv2, up2_o _ _ _ _ _ (by decide), h0]; exact vp_in_nI (n := 0) (by decide) (by decide)) dX2_addFault_31 (fun v4 H locs hv4 hP hz hS => ?_)
    refine lv_aload_n hx hb dX2_addFault_32 rfl (lv_at hl 0 rfl) ?_
    have q5 := ch2_4 i2
    refine w_gR (C := RX2) (T := TX2) (N := 11) (ci := 2) hx hb hts in2 hown hK hP 4 i2.1 i2 rfl (by decide) q5.1 (hts _ mf_X2_29) dX2_addFault_33 ?_
    refine lv_aload_n hx hb dX2_addFault_36 rfl (lv_at hl 0 rfl) ?_
    refine w_gI (C := RX2) (T := TX2) (N := 11) (ci := 2) hx hb hts in2 hown hK hP 7 i2.1 i2 rfl (by decide) (hts _ mf_X2_38) dX2_addFault_37 ?_
    refine lv_topi (fun x37 ex37 => ?_)
    refine lv_iload_n hx hb dX2_addFault_40 rfl (lv_at hl 3 rfl) ?_
    refine w_is (N := 60) hx hb hK hP hS q5.2.1.1 (q5.2.1) (q5.2.2) (by rw [ex37, hv4, hv2, up2_o _ _ _ _ _ (by decide), up2_o _ _ _ _ _ (by decide), h0]; exact vp_in_nI (n := 0) (by decide) (by decide)) dX2_addFault_41 (fun v6 H locs hv6 hP hz hS => ?_)
    refine lv_aload_n hx hb dX2_addFault_42 rfl (lv_at hl 0 rfl) ?_
    have q7 := ch2_5 i2
    refine w_gR (C := RX2) (T := TX2) (N := 11) (ci := 2) hx hb hts in2 hown hK hP 5 i2.1 i2 rfl (by decide) q7.1 (hts _ mf_X2_32) dX2_addFault_43 ?_
    refine lv_aload_n hx hb dX2_addFault_46 rfl (lv_at hl 0 rfl) ?_
    refine w_gI (C := RX2) (T := TX2) (N := 11) (ci := 2) hx hb hts in2 hown hK hP 7 i2.1 i2 rfl (by decide) (hts _ mf_X2_38) dX2_addFault_47 ?_
    refine lv_topi (fun x47 ex47 => ?_)
    refine lv_iload hx hb dX2_addFault_50 (lv_at hl 4 rfl) ?_
    refine w_is (N := 60) hx hb hK hP hS q7.2.1.1 (q7.2.1) (q7.2.2) (by rw [ex47, hv6, hv4, hv2, up2_o _ _ _ _ _ (by decide), up2_o _ _ _ _ _ (by decide), up2_o _ _ _ _ _ (by decide), h0]; exact vp_in_nI (n := 0) (by decide) (by decide)) dX2_addFault_52 (fun v8 H locs hv8 hP hz hS => ?_)
    refine lv_aload_n hx hb dX2_addFault_53 rfl (lv_at hl 0 rfl) ?_
    refine lv_dup hx hb dX2_addFault_54 rfl ?_
    refine w_gI (C := RX2) (T := TX2) (N := 11) (ci := 2) hx hb hts in2 hown hK hP 7 i2.1 i2 rfl (by decide) (hts _ mf_X2_38) dX2_addFault_55 ?_
    refine lv_topi (fun x55 ex55 => ?_)
    refine lv_iconst (v := 1) hx hb dX2_addFault_58 (by decide) ?_
    refine lv_iadd hx hb dX2_addFault_59 ?_
    refine lv_topi (fun x59 ex59 => ?_)
    refine w_pI (C := RX2) (T := TX2) (N := 11) (ci := 2) hx hb hts in2 tyX2 tyX2_ok nmX2 hown hK hP hS 7 i2.1 i2 rfl (by decide) (hts _ mf_X2_38) rfl (ty := .int) (by decide +kernel) rfl rfl dX2_addFault_60 (fun v9 H locs hv9 hP hz hS => ?_)
    refine lv_aload_n hx hb dX2_addFault_63 rfl (lv_at hl 0 rfl) ?_
    refine w_gI (C := RX2) (T := TX2) (N := 11) (ci := 2) hx hb hts in2 hown hK hP 7 i2.1 i2 rfl (by decide) (hts _ mf_X2_38) dX2_addFault_64 ?_
    refine lv_topi (fun x64 ex64 => ?_)
    exact W.iret (v := x64) hx hb hr (fun t ht hW => ⟨⟨x64, v9, rfl, ⟨by rw [ex64, hv9, up2_s, ex59, ex55, hv8, hv6, hv4, hv2, up2_o _ _ _ _ _ (by decide), up2_o _ _ _ _ _ (by decide), up2_o _ _ _ _ _ (by decide), up2_o _ _ _ _ _ (by decide), h0]; rfl, by
        subst hv9 hv8 hv6 hv4 hv2
        repeat (first | exact Fr.rf | refine Fr.up ?_ _ _ _ (by omega))⟩, by rw [ht]; exact hP, va_K.moved hW.alike hK⟩, hS.F ht⟩) hS.2.2 dX2_addFault_67
  · exact absurd (by rw [ex1, h0]; decide) c6
set_option maxHeartbeats 4000000 in
set_option maxRecDepth 100000 in
/-- Net.forgetArrived where nothing was sent -/
theorem c2_forget0 (l : Launch) (dC : Nat → ClassId) (dI : Nat → Nat → Nat) (base : Nat) (cy : Nat → ClassId) (v : VV) (h8 : v 1 8 = 0) (h9 : v 1 9 = 0) : CV l yX2_forgetArrived (.code yX2_forgetArrived cX2_forgetArrived 1 none :: TB) { frames := 0, cells := 0, slots := 0, locals := 0 } dC dI base cy [.ref (base + 1)] v (fun v' : VV => v' = v) := by
  refine Met.ofW (cc := cX2_forgetArrived) (maxL := 1) (ret := none) (by decide) rfl ?_
  intro p e s m args below meth c s₁ B hml hv
  obtain ⟨rfl, hP, hK⟩ := hv
  have hx := B.exec
  have hb := B.bytes
  have hr := B.returns
  have hts0 := atoms_spec (ws := (.code yX2_forgetArrived cX2_forgetArrived 1 none :: TB)) B.pre
  have hts : ∀ w ∈ TB, w.before ([.ref (base + 1)]).toArray s = true := fun w h => hts0 w (List.mem_cons_of_mem _ h)
  have hown : s.vm.findClass RX2 = some m.cls := findClass_of_methodNamed B.named
  have hlocks := B.notSynchronized
  have hS : va_S (fun q => base ≤ q) s.heap s.heap [] := va_S.rf
  have hl := lv_entry ([.ref (base + 1)]) (n := 1) (Nat.le_of_ble_eq_true rfl)
  rw [lg_entry_eq]
  generalize (lg_sl ([.ref (base + 1)]) ++ List.replicate (1 - (lg_sl ([.ref (base + 1)])).length) Slot.unset).toArray = ls at hl ⊢
  have hl : lv_has ls 1 [(0, .ref (base + 1))] := hl
  refine lv_aload_n hx hb dX2_forgetArrived_0 rfl (lv_at hl 0 rfl) ?_
  refine w_gI (C := RX2) (T := TX2) (N := 11) (ci := 2) hx hb hts in2 hown hK hP 9 i2.1 i2 rfl (by decide) (hts _ mf_X2_79) dX2_forgetArrived_1 ?_
  refine lv_topi (fun x1 ex1 => ?_)
  refine lv_aload_n hx hb dX2_forgetArrived_4 rfl (lv_at hl 0 rfl) ?_
  refine w_gI (C := RX2) (T := TX2) (N := 11) (ci := 2) hx hb hts in2 hown hK hP 8 i2.1 i2 rfl (by decide) (hts _ mf_X2_42) dX2_forgetArrived_5 ?_
  refine lv_topi (fun x5 ex5 => ?_)
  refine lv_icmp_ge (tgt := 60) hx hb dX2_forgetArrived_8 (by decide) (fun c8 => ?_) (fun c8 => ?_)
  · exact W.vret hx hb hr (fun t ht hW => ⟨⟨v, rfl, by trivial, by rw [ht]; exact hP, va_K.moved hW.alike hK⟩, hS.F ht⟩) hS.2.2 dX2_forgetArrived_60
  · exact absurd (by rw [ex1, ex5, h8, h9]; decide) c8
set_option maxHeartbeats 4000000 in
set_option maxRecDepth 100000 in
/-- Net.recordedByte where nothing was sent -/
theorem c2_recorded0 (l : Launch) (dC : Nat → ClassId) (dI : Nat → Nat → Nat) (base : Nat) (cy : Nat → ClassId) (v : VV) (p1 p2 : Int32) (h8 : v 1 8 = 0) : CI l yX2_recordedByte (.code yX2_recordedByte cX2_recordedByte 4 (some .int) :: TB) { frames := 0, cells := 0, slots := 0, locals := 0 } dC dI base cy [.ref (base + 1), .int p1, .int p2] v (fun (x : Int32) (v' : VV) => v' = v ∧ x = -1) := by
  refine Met.ofW (cc := cX2_recordedByte) (maxL := 4) (ret := (some .int)) (by decide) rfl ?_
  intro p e s m args below meth c s₁ B hml hv
  obtain ⟨rfl, hP, hK⟩ := hv
  have hx := B.exec
  have hb := B.bytes
  have hr := B.returns
  have hts0 := atoms_spec (ws := (.code yX2_recordedByte cX2_recordedByte 4 (some .int) :: TB)) B.pre
  have hts : ∀ w ∈ TB, w.before ([.ref (base + 1), .int p1, .int p2]).toArray s = true := fun w h => hts0 w (List.mem_cons_of_mem _ h)
  have hown : s.vm.findClass RX2 = some m.cls := findClass_of_methodNamed B.named
  have hlocks := B.notSynchronized
  have hS : va_S (fun q => base ≤ q) s.heap s.heap [] := va_S.rf
  have hl := lv_entry ([.ref (base + 1), .int p1, .int p2]) (n := 4) (Nat.le_of_ble_eq_true rfl)
  rw [lg_entry_eq]
  generalize (lg_sl ([.ref (base + 1), .int p1, .int p2]) ++ List.replicate (4 - (lg_sl ([.ref (base + 1), .int p1, .int p2])).length) Slot.unset).toArray = ls at hl ⊢
  have hl : lv_has ls 4 [(0, .ref (base + 1)), (1, .int p1), (2, .int p2)] := hl
  refine lv_iload_n hx hb dX2_recordedByte_0 rfl (lv_at hl 1 rfl) ?_
  refine lv_if_lt (tgt := 23) hx hb dX2_recordedByte_1 (by decide) (fun c1 => ?_) (fun c1 => ?_)
  · refine lv_iconst (v := -1) hx hb dX2_recordedByte_23 (by decide) ?_
    exact W.iret (v := (-1)) hx hb hr (fun t ht hW => ⟨⟨(-1), v, rfl, by trivial, by rw [ht]; exact hP, va_K.moved hW.alike hK⟩, hS.F ht⟩) hS.2.2 dX2_recordedByte_24
  · refine lv_iload_n hx hb dX2_recordedByte_4 rfl (lv_at hl 1 rfl) ?_
    refine lv_aload_n hx hb dX2_recordedByte_5 rfl (lv_at hl 0 rfl) ?_
    refine w_gI (C := RX2) (T := TX2) (N := 11) (ci := 2) hx hb hts in2 hown hK hP 8 i2.1 i2 rfl (by decide) (hts _ mf_X2_42) dX2_recordedByte_6 ?_
    refine lv_topi (fun x6 ex6 => ?_)
    refine lv_icmp_ge (tgt := 23) hx hb dX2_recordedByte_9 (by decide) (fun c9 => ?_) (fun c9 => ?_)
    · refine lv_iconst (v := -1) hx hb dX2_recordedByte_23 (by decide) ?_
      exact W.iret (v := (-1)) hx hb hr (fun t ht hW => ⟨⟨(-1), v, rfl, by trivial, by rw [ht]; exact hP, va_K.moved hW.alike hK⟩, hS.F ht⟩) hS.2.2 dX2_recordedByte_24
    · exact absurd (by
          rw [ex6, h8]
          exact Int32.not_lt.mp c1) c9
set_option maxHeartbeats 4000000 in
set_option maxRecDepth 100000 in
/-- End.awaitLink(code) -/
theorem c0_awaitLink (l : Launch) (dC : Nat → ClassId) (dI : Nat → Nat → Nat) (base : Nat) (cy : Nat → ClassId) (o : Nat) (ho : isO 0 o) (v : VV) (p1 : Int32) : CV l yX0_awaitLink (.code yX0_awaitLink cX0_awaitLink 2 none :: TB) { frames := 1, cells := 0, slots := 0, locals := 20 } dC dI base cy [.ref (base + o), .int p1] v (fun v' : VV => v' = up2 (up2 v o 7 p1) (o + 145) 0 0) := by
  refine Met.ofW (cc := cX0_awaitLink) (maxL := 2) (ret := none) (by decide) rfl ?_
  intro p e s m args below meth c s₁ B hml hv
  obtain ⟨rfl, hP, hK⟩ := hv
  have hx := B.exec
  have hb := B.bytes
  have hr := B.returns
  have hts0 := atoms_spec (ws := (.code yX0_awaitLink cX0_awaitLink 2 none :: TB)) B.pre
  have hts : ∀ w ∈ TB, w.before ([.ref (base + o), .int p1]).toArray s = true := fun w h => hts0 w (List.mem_cons_of_mem _ h)
  have hown : s.vm.findClass RX0 = some m.cls := findClass_of_methodNamed B.named
  have hlocks := B.notSynchronized
  have hS : va_S (fun q => base ≤ q) s.heap s.heap [] := va_S.rf
  have hl := lv_entry ([.ref (base + o), .int p1]) (n := 2) (Nat.le_of_ble_eq_true rfl)
  rw [lg_entry_eq]
  generalize (lg_sl ([.ref (base + o), .int p1]) ++ List.replicate (2 - (lg_sl ([.ref (base + o), .int p1])).length) Slot.unset).toArray = ls at hl ⊢
  have hl : lv_has ls 2 [(0, .ref (base + o)), (1, .int p1)] := hl
  refine lv_aload_n hx hb dX0_awaitLink_0 rfl (lv_at hl 0 rfl) ?_
  refine lv_iload_n hx hb dX0_awaitLink_1 rfl (lv_at hl 1 rfl) ?_
  refine w_pI (C := RX0) (T := TX0) (N := 15) (ci := 0) hx hb hts in0 tyX0 tyX0_ok nmX0 hown hK hP hS 7 ho.1 ho rfl (by decide) (hts _ mf_X0_257) rfl (ty := .int) (by decide +kernel) rfl rfl dX0_awaitLink_2 (fun v1 H locs hv1 hP hz hS => ?_)
  refine lv_aload_n hx hb dX0_awaitLink_5 rfl (lv_at hl 0 rfl) ?_
  have q2 := ch0_6 ho
  refine w_gR (C := RX0) (T := TX0) (N := 15) (ci := 0) hx hb hts in0 hown hK hP 6 ho.1 ho rfl (by decide) q2.1 (hts _ mf_X0_42) dX0_awaitLink_6 ?_
  refine k_V (As := []) (rest := []) ⟨hx, hb, hml, hown, hts⟩ (c8_clear l dC dI base cy (o + 145) (ch0_6 ho).2 v1) (cwV 0 hts (gV ml_X0_260 mi_X8_clear mx_X8_clear mn_X8 mo_X8_clear) rfl rfl rfl (by decide +kernel) ⟨by decide, by decide⟩) hK hP hS q2.2 (by decide) rfl rfl hl.1 rfl (Nat.le_of_ble_eq_true rfl) dX0_awaitLink_9 ⟨Nat.zero_le _, Nat.zero_le _⟩ (fun v3 H locs hv3 hP hS => ?_)
  exact W.vret hx hb hr (fun t ht hW => ⟨⟨v3, rfl, by rw [hv3]; subst hv1; rfl, by rw [ht]; exact hP, va_K.moved hW.alike hK⟩, hS.F ht⟩) hS.2.2 dX0_awaitLink_12
set_option maxHeartbeats 4000000 in
set_option maxRecDepth 100000 in
/-- End.sendLink where no fault was told -/
theorem c0_sendLink0 (l : Launch) (dC : Nat → ClassId) (dI : Nat → Nat → Nat) (base : Nat) (cy : Nat → ClassId) (o : Nat) (ho : isO 0 o) (v : VV) (p1 p2 p3 p4 : Int32) (hi : v o 0 = 0 ∨ v o 0 = 1) (j : Nat) (hj : v 1 8 &&& 255 = nI j) (hj2 : j < 256) (h0 : v 1 7 = 0) : CV l yX0_sendLink (.code yX0_sendLink cX0_sendLink 5 none :: TB) { frames := 2, cells := 0, slots := 0, locals := 50 } dC dI base cy [.ref (base + o), .int p1, .int p2, .int p3, .int p4] v (fun v' : VV => Fr (fun a => a < 522) v v') := by
  refine Met.ofW (cc := cX0_sendLink) (maxL := 5) (ret := none) (by decide) rfl ?_
  intro p e s m args below meth c s₁ B hml hv
  obtain ⟨rfl, hP, hK⟩ := hv
  have hx := B.exec
  have hb := B.bytes
  have hr := B.returns
  have hts0 := atoms_spec (ws := (.code yX0_sendLink cX0_sendLink 5 none :: TB)) B.pre
  have hts : ∀ w ∈ TB, w.before ([.ref (base + o), .int p1, .int p2, .int p3, .int p4]).toArray s = true := fun w h => hts0 w (List.mem_cons_of_mem _ h)
  have hown : s.vm.findClass RX0 = some m.cls := findClass_of_methodNamed B.named
  have hlocks := B.notSynchronized
  have hS : va_S (fun q => base ≤ q) s.heap s.heap [] := va_S.rf
  have hl := lv_entry ([.ref (base + o), .int p1, .int p2, .int p3, .int p4]) (n := 5) (Nat.le_of_ble_eq_true rfl)
  rw [lg_entry_eq]
  generalize (lg_sl ([.ref (base + o), .int p1, .int p2, .int p3, .int p4]) ++ List.replicate (5 - (lg_sl ([.ref (base + o), .int p1, .int p2, .int p3, .int p4])).length) Slot.unset).toArray = ls at hl ⊢
  have hl : lv_has ls 5 [(0, .ref (base + o)), (1, .int p1), (2, .int p2), (3, .int p3), (4, .int p4)] := hl
  refine lv_aload_n hx hb dX0_sendLink_0 rfl (lv_at hl 0 rfl) ?_
  have q1 := ch0_1 ho
  refine w_gR (C := RX0) (T := TX0) (N := 15) (ci := 0) hx hb hts in0 hown hK hP 1 ho.1 ho rfl (by decide) q1.1 (hts _ mf_X0_53) dX0_sendLink_1 ?_
  refine k_R (As := []) (rest := []) ⟨hx, hb, hml, hown, hts⟩ (c2_nextUnit l dC dI base cy v j hj hj2) (cwV 0 hts (gV ml_X0_264 mi_X2_nextUnit mx_X2_nextUnit mn_X2 mo_X2_nextUnit) rfl rfl rfl (by decide +kernel) ⟨by decide, by decide⟩) hK hP hS q1.2 (by decide) rfl rfl hl.1 rfl (Nat.le_of_ble_eq_true rfl) dX0_sendLink_4 ⟨Nat.zero_le _, Nat.zero_le _⟩ (fun H locs hP hS => ?_)
  refine lv_iload_n hx hb dX0_sendLink_7 rfl (lv_at hl 1 rfl) ?_
  refine lv_iload_n hx hb dX0_sendLink_8 rfl (lv_at hl 2 rfl) ?_
  refine lv_iload_n hx hb dX0_sendLink_9 rfl (lv_at hl 3 rfl) ?_
  refine lv_iload hx hb dX0_sendLink_10 (lv_at hl 4 rfl) ?_
  refine k_V (As := [.int p1, .int p2, .int p3, .int p4]) (rest := []) ⟨hx, hb, hml, hown, hts⟩ (c5_writeLink l dC dI base cy (10 + 2 * j) (arU hj2).2 v p1 p2 p3 p4) (cwV 4 hts (gV ml_X0_268 mi_X5_writeLink mx_X5_writeLink mn_X5 mo_X5_writeLink) rfl rfl rfl (by decide +kernel) ⟨by decide, by decide⟩) hK hP hS (arU hj2).2 (by decide) rfl rfl hl.1 rfl (Nat.le_of_ble_eq_true rfl) dX0_sendLink_12 ⟨Nat.zero_le _, Nat.zero_le _⟩ (fun v2 H locs hv2 hP hS => ?_)
  have f1 := hv2.1
  have eb := endB o ho.1 ho.2
  obtain ⟨L, hL, hL2⟩ : ∃ L : Nat, v2 (10 + 2 * j) 1 = nI L ∧ L ≤ 17 := by
    rcases hv2.2 with q | q
    · exact ⟨10, q, by decide⟩
    · exact ⟨11, q, by decide⟩
  refine lv_aload_n hx hb dX0_sendLink_15 rfl (lv_at hl 0 rfl) ?_
  have q3 := ch0_1 ho
  refine w_gR (C := RX0) (T := TX0) (N := 15) (ci := 0) hx hb hts in0 hown hK hP 1 ho.1 ho rfl (by decide) q3.1 (hts _ mf_X0_53) dX0_sendLink_16 ?_
  refine lv_aload_n hx hb dX0_sendLink_19 rfl (lv_at hl 0 rfl) ?_
  refine w_gI (C := RX0) (T := TX0) (N := 15) (ci := 0) hx hb hts in0 hown hK hP 0 ho.1 ho rfl (by decide) (hts _ mf_X0_50) dX0_sendLink_20 ?_
  refine lv_topi (fun x20 ex20 => ?_)
  refine k_V (As := [.int x20]) (rest := []) ⟨hx, hb, hml, hown, hts⟩ (c2_dispatch0 l dC dI base cy v2 x20 (by rw [ex20, f1 o (by omega)]; exact hi) j (by rw [f1 1 (by omega)]; exact hj) hj2 L hL hL2 (by rw [f1 1 (by omega)]; exact h0)) (cwV 1 hts (gV ml_X0_271 mi_X2_dispatch mx_X2_dispatch mn_X2 mo_X2_dispatch) rfl rfl rfl (by decide +kernel) ⟨by decide, by decide⟩) hK hP hS q3.2 (by decide) rfl rfl hl.1 rfl (Nat.le_of_ble_eq_true rfl) dX0_sendLink_23 ⟨Nat.zero_le _, Nat.zero_le _⟩ (fun v4 H locs hv4 hP hS => ?_)
  exact W.vret hx hb hr (fun t ht hW => ⟨⟨v4, rfl, Fr.tr (f1.w (fun a h => by omega)) hv4, by rw [ht]; exact hP, va_K.moved hW.alike hK⟩, hS.F ht⟩) hS.2.2 dX0_sendLink_26
set_option maxHeartbeats 4000000 in
set_option maxRecDepth 100000 in
/-- End.sendAwaitedLink where no fault was told -/
theorem c0_sendAwaited0 (l : Launch) (dC : Nat → ClassId) (dI : Nat → Nat → Nat) (base : Nat) (cy : Nat → ClassId) (o : Nat) (ho : isO 0 o) (v : VV) (hi : v o 0 = 0 ∨ v o 0 = 1) (j : Nat) (hj : v 1 8 &&& 255 = nI j) (hj2 : j < 256) (h0 : v 1 7 = 0) : CV l yX0_sendAwaitedLink (.code yX0_sendAwaitedLink cX0_sendAwaitedLink 1 none :: TB) { frames := 3, cells := 0, slots := 0, locals := 74 } dC dI base cy [.ref (base + o)] v (fun v' : VV => Fr (fun a => a < 522 ∨ a = o + 145) v v') := by
  refine Met.ofW (cc := cX0_sendAwaitedLink) (maxL := 1) (ret := none) (by decide) rfl ?_
  intro p e s m args below meth c s₁ B hml hv
  obtain ⟨rfl, hP, hK⟩ := hv
  have hx := B.exec
  have hb := B.bytes
  have hr := B.returns
  have hts0 := atoms_spec (ws := (.code yX0_sendAwaitedLink cX0_sendAwaitedLink 1 none :: TB)) B.pre
  have hts : ∀ w ∈ TB, w.before ([.ref (base + o)]).toArray s = true := fun w h => hts0 w (List.mem_cons_of_mem _ h)
  have hown : s.vm.findClass RX0 = some m.cls := findClass_of_methodNamed B.named
  have hlocks := B.notSynchronized
  have hS : va_S (fun q => base ≤ q) s.heap s.heap [] := va_S.rf
  have hl := lv_entry ([.ref (base + o)]) (n := 1) (Nat.le_of_ble_eq_true rfl)
  rw [lg_entry_eq]
  generalize (lg_sl ([.ref (base + o)]) ++ List.replicate (1 - (lg_sl ([.ref (base + o)])).length) Slot.unset).toArray = ls at hl ⊢
  have hl : lv_has ls 1 [(0, .ref (base + o))] := hl
  refine lv_aload_n hx hb dX0_sendAwaitedLink_0 rfl (lv_at hl 0 rfl) ?_
  have q1 := ch0_6 ho
  refine w_gR (C := RX0) (T := TX0) (N := 15) (ci := 0) hx hb hts in0 hown hK hP 6 ho.1 ho rfl (by decide) q1.1 (hts _ mf_X0_42) dX0_sendAwaitedLink_1 ?_
  refine lv_aload_n hx hb dX0_sendAwaitedLink_4 rfl (lv_at hl 0 rfl) ?_
  have q2 := ch0_1 ho
  refine w_gR (C := RX0) (T := TX0) (N := 15) (ci := 0) hx hb hts in0 hown hK hP 1 ho.1 ho rfl (by decide) q2.1 (hts _ mf_X0_53) dX0_sendAwaitedLink_5 ?_
  refine w_gI (C := RX2) (T := TX2) (N := 11) (ci := 2) hx hb hts in2 hown hK hP 10 q2.2.1 q2.2 rfl (by decide) (hts _ mf_X0_88) dX0_sendAwaitedLink_8 ?_
  refine lv_topi (fun x8 ex8 => ?_)
  refine k_V (As := [.int x8]) (rest := []) ⟨hx, hb, hml, hown, hts⟩ (c8_count l dC dI base cy (o + 145) (ch0_6 ho).2 v x8) (cwV 1 hts (gV ml_X0_261 mi_X8_count mx_X8_count mn_X8 mo_X8_count) rfl rfl rfl (by decide +kernel) ⟨by decide, by decide⟩) hK hP hS q1.2 (by decide) rfl rfl hl.1 rfl (Nat.le_of_ble_eq_true rfl) dX0_sendAwaitedLink_11 ⟨Nat.zero_le _, Nat.zero_le _⟩ (fun v3 H locs hv3 hP hS => ?_)
  have eb := endB o ho.1 ho.2
  have hc := hv3
  refine lv_aload_n hx hb dX0_sendAwaitedLink_14 rfl (lv_at hl 0 rfl) ?_
  refine lv_aload_n hx hb dX0_sendAwaitedLink_15 rfl (lv_at hl 0 rfl) ?_
  refine w_gI (C := RX0) (T := TX0) (N := 15) (ci := 0) hx hb hts in0 hown hK hP 7 ho.1 ho rfl (by decide) (hts _ mf_X0_257) dX0_sendAwaitedLink_16 ?_
  refine lv_topi (fun x16 ex16 => ?_)
  refine lv_aload_n hx hb dX0_sendAwaitedLink_19 rfl (lv_at hl 0 rfl) ?_
  refine w_gI (C := RX0) (T := TX0) (N := 15) (ci := 0) hx hb hts in0 hown hK hP 10 ho.1 ho rfl (by decide) (hts _ mf_X0_81) dX0_sendAwaitedLink_20 ?_
  refine lv_topi (fun x20 ex20 => ?_)
  refine lv_aload_n hx hb dX0_sendAwaitedLink_23 rfl (lv_at hl 0 rfl) ?_
  refine w_gI (C := RX0) (T := TX0) (N := 15) (ci := 0) hx hb hts in0 hown hK hP 9 ho.1 ho rfl (by decide) (hts _ mf_X0_71) dX0_sendAwaitedLink_24 ?_
  refine lv_topi (fun x24 ex24 => ?_)
  refine lv_aload_n hx hb dX0_sendAwaitedLink_27 rfl (lv_at hl 0 rfl) ?_
  refine w_gI (C := RX0) (T := TX0) (N := 15) (ci := 0) hx hb hts in0 hown hK hP 7 ho.1 ho rfl (by decide) (hts _ mf_X0_257) dX0_sendAwaitedLink_28 ?_
  refine lv_topi (fun x28 ex28 => ?_)
  refine lv_sipush (v := 128) hx hb dX0_sendAwaitedLink_31 (by decide) ?_
  refine lv_icmp_ne (tgt := 41) hx hb dX0_sendAwaitedLink_34 (by decide) (fun c34 => ?_) (fun c34 => ?_)
  · refine lv_bipush (v := 64) hx hb dX0_sendAwaitedLink_41 (by decide) ?_
    refine k_V (As := [.int x16, .int x20, .int x24, .int 64]) (rest := []) ⟨hx, hb, hml, hown, hts⟩ (c0_sendLink0 l dC dI base cy o ho v3 x16 x20 x24 _ (by rw [hc, up2_o _ _ _ _ _ (by omega), up2_o _ _ _ _ _ (by omega)]; exact hi) j (by rw [hc, up2_o _ _ _ _ _ (by omega), up2_o _ _ _ _ _ (by omega)]; exact hj) hj2 (by rw [hc, up2_o _ _ _ _ _ (by omega), up2_o _ _ _ _ _ (by omega)]; exact h0)) (cwV 4 hts (gV ml_X0_181 mi_X0_sendLink mx_X0_sendLink mn_X0 mo_X0_sendLink) rfl rfl rfl (by decide +kernel) ⟨by decide, by decide⟩) hK hP hS ho (by decide) rfl rfl hl.1 rfl (Nat.le_of_ble_eq_true rfl) dX0_sendAwaitedLink_43 ⟨Nat.zero_le _, Nat.zero_le _⟩ (fun v4 H locs hv4 hP hS => ?_)
    exact W.vret hx hb hr (fun t ht hW => ⟨⟨v4, rfl, by
        refine Fr.tr ?_ (hv4.w (fun a h => Or.inl h))
        rw [hc]
        exact (Fr.rf.up _ _ _ (Or.inr rfl)).up _ _ _ (Or.inr rfl), by rw [ht]; exact hP, va_K.moved hW.alike hK⟩, hS.F ht⟩) hS.2.2 dX0_sendAwaitedLink_46
  · refine lv_iconst (v := 0) hx hb dX0_sendAwaitedLink_37 (by decide) ?_
    refine lv_goto (tgt := 43) hx hb dX0_sendAwaitedLink_38 (by decide) ?_
    refine k_V (As := [.int x16, .int x20, .int x24, .int 0]) (rest := []) ⟨hx, hb, hml, hown, hts⟩ (c0_sendLink0 l dC dI base cy o ho v3 x16 x20 x24 _ (by rw [hc, up2_o _ _ _ _ _ (by omega), up2_o _ _ _ _ _ (by omega)]; exact hi) j (by rw [hc, up2_o _ _ _ _ _ (by omega), up2_o _ _ _ _ _ (by omega)]; exact hj) hj2 (by rw [hc, up2_o _ _ _ _ _ (by omega), up2_o _ _ _ _ _ (by omega)]; exact h0)) (cwV 4 hts (gV ml_X0_181 mi_X0_sendLink mx_X0_sendLink mn_X0 mo_X0_sendLink) rfl rfl rfl (by decide +kernel) ⟨by decide, by decide⟩) hK hP hS ho (by decide) rfl rfl hl.1 rfl (Nat.le_of_ble_eq_true rfl) dX0_sendAwaitedLink_43 ⟨Nat.zero_le _, Nat.zero_le _⟩ (fun v5 H locs hv5 hP hS => ?_)
    exact W.vret hx hb hr (fun t ht hW => ⟨⟨v5, rfl, by
        refine Fr.tr ?_ (hv5.w (fun a h => Or.inl h))
        rw [hc]
        exact (Fr.rf.up _ _ _ (Or.inr rfl)).up _ _ _ (Or.inr rfl), by rw [ht]; exact hP, va_K.moved hW.alike hK⟩, hS.F ht⟩) hS.2.2 dX0_sendAwaitedLink_46
