set_option maxHeartbeats 4000000 in
set_option maxRecDepth 100000 in
/-- Wait.clear(): times is 0 -/
theorem c8_clear (l : Launch) (dC : Nat → ClassId) (dI : Nat → Nat → Nat) (base : Nat) (cy : Nat → ClassId) (o : Nat) (ho : isO 8 o) (v : VV) : CV l yX8_clear (.code yX8_clear cX8_clear 1 none :: TB) { frames := 0, cells := 0, slots := 0, locals := 0 } dC dI base cy [.ref (base + o)] v (fun v' : VV => v' = up2 v o 0 0) := by
  refine Met.ofW (cc := cX8_clear) (maxL := 1) (ret := none) (by decide) rfl ?_
  intro p e s m args below meth c s₁ B hml hv
  obtain ⟨rfl, hP, hK⟩ := hv
  have hx := B.exec
  have hb := B.bytes
  have hr := B.returns
  have hts0 := atoms_spec (ws := (.code yX8_clear cX8_clear 1 none :: TB)) B.pre
  have hts : ∀ w ∈ TB, w.before ([.ref (base + o)]).toArray s = true := fun w h => hts0 w (List.mem_cons_of_mem _ h)
  have hown : s.vm.findClass RX8 = some m.cls := findClass_of_methodNamed B.named
  have hlocks := B.notSynchronized
  have hS : va_S (fun q => base ≤ q) s.heap s.heap [] := va_S.rf
  have hl := lv_entry ([.ref (base + o)]) (n := 1) (Nat.le_of_ble_eq_true rfl)
  rw [lg_entry_eq]
  generalize (lg_sl ([.ref (base + o)]) ++ List.replicate (1 - (lg_sl ([.ref (base + o)])).length) Slot.unset).toArray = ls at hl ⊢
  have hl : lv_has ls 1 [(0, .ref (base + o))] := hl
  refine lv_aload_n hx hb dX8_clear_0 rfl (lv_at hl 0 rfl) ?_
  refine lv_iconst (v := 0) hx hb dX8_clear_1 (by decide) ?_
  refine w_pI (C := RX8) (T := TX8) (N := 2) (ci := 8) hx hb hts in8 tyX8 tyX8_ok nmX8 hown hK hP hS 0 ho.1 ho rfl (by decide) (hts _ mf_X8_9) rfl (ty := .int) (by decide +kernel) rfl rfl dX8_clear_2 (fun v1 H locs hv1 hP hz hS => ?_)
  exact W.vret hx hb hr (fun t ht hW => ⟨⟨v1, rfl, by subst hv1; rfl, by rw [ht]; exact hP, va_K.moved hW.alike hK⟩, hS.F ht⟩) hS.2.2 dX8_clear_5
set_option maxHeartbeats 4000000 in
set_option maxRecDepth 100000 in
/-- Wait.count(now) -/
theorem c8_count (l : Launch) (dC : Nat → ClassId) (dI : Nat → Nat → Nat) (base : Nat) (cy : Nat → ClassId) (o : Nat) (ho : isO 8 o) (v : VV) (p1 : Int32) : CV l yX8_count (.code yX8_count cX8_count 2 none :: TB) { frames := 0, cells := 0, slots := 0, locals := 0 } dC dI base cy [.ref (base + o), .int p1] v (fun v' : VV => v' = up2 (up2 v o 0 (v o 0 + 1)) o 1 p1) := by
  refine Met.ofW (cc := cX8_count) (maxL := 2) (ret := none) (by decide) rfl ?_
  intro p e s m args below meth c s₁ B hml hv
  obtain ⟨rfl, hP, hK⟩ := hv
  have hx := B.exec
  have hb := B.bytes
  have hr := B.returns
  have hts0 := atoms_spec (ws := (.code yX8_count cX8_count 2 none :: TB)) B.pre
  have hts : ∀ w ∈ TB, w.before ([.ref (base + o), .int p1]).toArray s = true := fun w h => hts0 w (List.mem_cons_of_mem _ h)
  have hown : s.vm.findClass RX8 = some m.cls := findClass_of_methodNamed B.named
  have hlocks := B.notSynchronized
  have hS : va_S (fun q => base ≤ q) s.heap s.heap [] := va_S.rf
  have hl := lv_entry ([.ref (base + o), .int p1]) (n := 2) (Nat.le_of_ble_eq_true rfl)
  rw [lg_entry_eq]
  generalize (lg_sl ([.ref (base + o), .int p1]) ++ List.replicate (2 - (lg_sl ([.ref (base + o), .int p1])).length) Slot.unset).toArray = ls at hl ⊢
  have hl : lv_has ls 2 [(0, .ref (base + o)), (1, .int p1)] := hl
  refine lv_aload_n hx hb dX8_count_0 rfl (lv_at hl 0 rfl) ?_
  refine lv_dup hx hb dX8_count_1 rfl ?_
  refine w_gI (C := RX8) (T := TX8) (N := 2) (ci := 8) hx hb hts in8 hown hK hP 0 ho.1 ho rfl (by decide) (hts _ mf_X8_9) dX8_count_2 ?_
  refine lv_topi (fun x2 ex2 => ?_)
  refine lv_iconst (v := 1) hx hb dX8_count_5 (by decide) ?_
  refine lv_iadd hx hb dX8_count_6 ?_
  refine lv_topi (fun x6 ex6 => ?_)
  refine w_pI (C := RX8) (T := TX8) (N := 2) (ci := 8) hx hb hts in8 tyX8 tyX8_ok nmX8 hown hK hP hS 0 ho.1 ho rfl (by decide) (hts _ mf_X8_9) rfl (ty := .int) (by decide +kernel) rfl rfl dX8_count_7 (fun v1 H locs hv1 hP hz hS => ?_)
  refine lv_aload_n hx hb dX8_count_10 rfl (lv_at hl 0 rfl) ?_
  refine lv_iload_n hx hb dX8_count_11 rfl (lv_at hl 1 rfl) ?_
  refine w_pI (C := RX8) (T := TX8) (N := 2) (ci := 8) hx hb hts in8 tyX8 tyX8_ok nmX8 hown hK hP hS 1 ho.1 ho rfl (by decide) (hts _ mf_X8_15) rfl (ty := .int) (by decide +kernel) rfl rfl dX8_count_12 (fun v2 H locs hv2 hP hz hS => ?_)
  exact W.vret hx hb hr (fun t ht hW => ⟨⟨v2, rfl, by subst hv2 hv1 ex6 ex2; rfl, by rw [ht]; exact hP, va_K.moved hW.alike hK⟩, hS.F ht⟩) hS.2.2 dX8_count_15
set_option maxHeartbeats 4000000 in
set_option maxRecDepth 100000 in
/-- UrgentIn.clear() -/
theorem c6_clear (l : Launch) (dC : Nat → ClassId) (dI : Nat → Nat → Nat) (base : Nat) (cy : Nat → ClassId) (o : Nat) (ho : isO 6 o) (v : VV) : CV l yX6_clear (.code yX6_clear cX6_clear 1 none :: TB) { frames := 0, cells := 0, slots := 0, locals := 0 } dC dI base cy [.ref (base + o)] v (fun v' : VV => v' = up2 (up2 v o 2 0) o 3 0) := by
  refine Met.ofW (cc := cX6_clear) (maxL := 1) (ret := none) (by decide) rfl ?_
  intro p e s m args below meth c s₁ B hml hv
  obtain ⟨rfl, hP, hK⟩ := hv
  have hx := B.exec
  have hb := B.bytes
  have hr := B.returns
  have hts0 := atoms_spec (ws := (.code yX6_clear cX6_clear 1 none :: TB)) B.pre
  have hts : ∀ w ∈ TB, w.before ([.ref (base + o)]).toArray s = true := fun w h => hts0 w (List.mem_cons_of_mem _ h)
  have hown : s.vm.findClass RX6 = some m.cls := findClass_of_methodNamed B.named
  have hlocks := B.notSynchronized
  have hS : va_S (fun q => base ≤ q) s.heap s.heap [] := va_S.rf
  have hl := lv_entry ([.ref (base + o)]) (n := 1) (Nat.le_of_ble_eq_true rfl)
  rw [lg_entry_eq]
  generalize (lg_sl ([.ref (base + o)]) ++ List.replicate (1 - (lg_sl ([.ref (base + o)])).length) Slot.unset).toArray = ls at hl ⊢
  have hl : lv_has ls 1 [(0, .ref (base + o))] := hl
  refine lv_aload_n hx hb dX6_clear_0 rfl (lv_at hl 0 rfl) ?_
  refine lv_iconst (v := 0) hx hb dX6_clear_1 (by decide) ?_
  refine w_pI (C := RX6) (T := TX6) (N := 4) (ci := 6) hx hb hts in6 tyX6 tyX6_ok nmX6 hown hK hP hS 2 ho.1 ho rfl (by decide) (hts _ mf_X6_15) rfl (ty := .int) (by decide +kernel) rfl rfl dX6_clear_2 (fun v1 H locs hv1 hP hz hS => ?_)
  refine lv_aload_n hx hb dX6_clear_5 rfl (lv_at hl 0 rfl) ?_
  refine lv_iconst (v := 0) hx hb dX6_clear_6 (by decide) ?_
  refine w_pI (C := RX6) (T := TX6) (N := 4) (ci := 6) hx hb hts in6 tyX6 tyX6_ok nmX6 hown hK hP hS 3 ho.1 ho rfl (by decide) (hts _ mf_X6_19) rfl (ty := .int) (by decide +kernel) rfl rfl dX6_clear_7 (fun v2 H locs hv2 hP hz hS => ?_)
  exact W.vret hx hb hr (fun t ht hW => ⟨⟨v2, rfl, by subst hv2 hv1; rfl, by rw [ht]; exact hP, va_K.moved hW.alike hK⟩, hS.F ht⟩) hS.2.2 dX6_clear_10
set_option maxHeartbeats 4000000 in
set_option maxRecDepth 100000 in
/-- Outbox.clear() -/
theorem c3_clear (l : Launch) (dC : Nat → ClassId) (dI : Nat → Nat → Nat) (base : Nat) (cy : Nat → ClassId) (o : Nat) (ho : isO 3 o) (v : VV) : CV l yX3_clear (.code yX3_clear cX3_clear 1 none :: TB) { frames := 0, cells := 0, slots := 0, locals := 0 } dC dI base cy [.ref (base + o)] v (fun v' : VV => v' = up2 (up2 (up2 (up2 v o 2 0) o 3 0) o 4 0) o 5 0) := by
  refine Met.ofW (cc := cX3_clear) (maxL := 1) (ret := none) (by decide) rfl ?_
  intro p e s m args below meth c s₁ B hml hv
  obtain ⟨rfl, hP, hK⟩ := hv
  have hx := B.exec
  have hb := B.bytes
  have hr := B.returns
  have hts0 := atoms_spec (ws := (.code yX3_clear cX3_clear 1 none :: TB)) B.pre
  have hts : ∀ w ∈ TB, w.before ([.ref (base + o)]).toArray s = true := fun w h => hts0 w (List.mem_cons_of_mem _ h)
  have hown : s.vm.findClass RX3 = some m.cls := findClass_of_methodNamed B.named
  have hlocks := B.notSynchronized
  have hS : va_S (fun q => base ≤ q) s.heap s.heap [] := va_S.rf
  have hl := lv_entry ([.ref (base + o)]) (n := 1) (Nat.le_of_ble_eq_true rfl)
  rw [lg_entry_eq]
  generalize (lg_sl ([.ref (base + o)]) ++ List.replicate (1 - (lg_sl ([.ref (base + o)])).length) Slot.unset).toArray = ls at hl ⊢
  have hl : lv_has ls 1 [(0, .ref (base + o))] := hl
  refine lv_aload_n hx hb dX3_clear_0 rfl (lv_at hl 0 rfl) ?_
  refine lv_iconst (v := 0) hx hb dX3_clear_1 (by decide) ?_
  refine w_pI (C := RX3) (T := TX3) (N := 6) (ci := 3) hx hb hts in3 tyX3 tyX3_ok nmX3 hown hK hP hS 2 ho.1 ho rfl (by decide) (hts _ mf_X3_18) rfl (ty := .int) (by decide +kernel) rfl rfl dX3_clear_2 (fun v1 H locs hv1 hP hz hS => ?_)
  refine lv_aload_n hx hb dX3_clear_5 rfl (lv_at hl 0 rfl) ?_
  refine lv_iconst (v := 0) hx hb dX3_clear_6 (by decide) ?_
  refine w_pI (C := RX3) (T := TX3) (N := 6) (ci := 3) hx hb hts in3 tyX3 tyX3_ok nmX3 hown hK hP hS 3 ho.1 ho rfl (by decide) (hts _ mf_X3_22) rfl (ty := .int) (by decide +kernel) rfl rfl dX3_clear_7 (fun v2 H locs hv2 hP hz hS => ?_)
  refine lv_aload_n hx hb dX3_clear_10 rfl (lv_at hl 0 rfl) ?_
  refine lv_iconst (v := 0) hx hb dX3_clear_11 (by decide) ?_
  refine w_pI (C := RX3) (T := TX3) (N := 6) (ci := 3) hx hb hts in3 tyX3 tyX3_ok nmX3 hown hK hP hS 4 ho.1 ho rfl (by decide) (hts _ mf_X3_25) rfl (ty := .int) (by decide +kernel) rfl rfl dX3_clear_12 (fun v3 H locs hv3 hP hz hS => ?_)
  refine lv_aload_n hx hb dX3_clear_15 rfl (lv_at hl 0 rfl) ?_
  refine lv_iconst (v := 0) hx hb dX3_clear_16 (by decide) ?_
  refine w_pI (C := RX3) (T := TX3) (N := 6) (ci := 3) hx hb hts in3 tyX3 tyX3_ok nmX3 hown hK hP hS 5 ho.1 ho rfl (by decide) (hts _ mf_X3_28) rfl (ty := .int) (by decide +kernel) rfl rfl dX3_clear_17 (fun v4 H locs hv4 hP hz hS => ?_)
  exact W.vret hx hb hr (fun t ht hW => ⟨⟨v4, rfl, by subst hv4 hv3 hv2 hv1; rfl, by rw [ht]; exact hP, va_K.moved hW.alike hK⟩, hS.F ht⟩) hS.2.2 dX3_clear_20
set_option maxHeartbeats 4000000 in
set_option maxRecDepth 100000 in
/-- UrgentOut.clear() -/
theorem c7_clear (l : Launch) (dC : Nat → ClassId) (dI : Nat → Nat → Nat) (base : Nat) (cy : Nat → ClassId) (o : Nat) (ho : isO 7 o) (v : VV) : CV l yX7_clear (.code yX7_clear cX7_clear 1 none :: TB) { frames := 1, cells := 0, slots := 0, locals := 20 } dC dI base cy [.ref (base + o)] v (fun v' : VV => v' = up2 (up2 (up2 v o 2 0) o 3 0) (o + 2) 0 0) := by
  refine Met.ofW (cc := cX7_clear) (maxL := 1) (ret := none) (by decide) rfl ?_
  intro p e s m args below meth c s₁ B hml hv
  obtain ⟨rfl, hP, hK⟩ := hv
  have hx := B.exec
  have hb := B.bytes
  have hr := B.returns
  have hts0 := atoms_spec (ws := (.code yX7_clear cX7_clear 1 none :: TB)) B.pre
  have hts : ∀ w ∈ TB, w.before ([.ref (base + o)]).toArray s = true := fun w h => hts0 w (List.mem_cons_of_mem _ h)
  have hown : s.vm.findClass RX7 = some m.cls := findClass_of_methodNamed B.named
  have hlocks := B.notSynchronized
  have hS : va_S (fun q => base ≤ q) s.heap s.heap [] := va_S.rf
  have hl := lv_entry ([.ref (base + o)]) (n := 1) (Nat.le_of_ble_eq_true rfl)
  rw [lg_entry_eq]
  generalize (lg_sl ([.ref (base + o)]) ++ List.replicate (1 - (lg_sl ([.ref (base + o)])).length) Slot.unset).toArray = ls at hl ⊢
  have hl : lv_has ls 1 [(0, .ref (base + o))] := hl
  refine lv_aload_n hx hb dX7_clear_0 rfl (lv_at hl 0 rfl) ?_
  refine lv_iconst (v := 0) hx hb dX7_clear_1 (by decide) ?_
  refine w_pI (C := RX7) (T := TX7) (N := 4) (ci := 7) hx hb hts in7 tyX7 tyX7_ok nmX7 hown hK hP hS 2 ho.1 ho rfl (by decide) (hts _ mf_X7_22) rfl (ty := .int) (by decide +kernel) rfl rfl dX7_clear_2 (fun v1 H locs hv1 hP hz hS => ?_)
  refine lv_aload_n hx hb dX7_clear_5 rfl (lv_at hl 0 rfl) ?_
  refine lv_iconst (v := 0) hx hb dX7_clear_6 (by decide) ?_
  refine w_pI (C := RX7) (T := TX7) (N := 4) (ci := 7) hx hb hts in7 tyX7 tyX7_ok nmX7 hown hK hP hS 3 ho.1 ho rfl (by decide) (hts _ mf_X7_26) rfl (ty := .int) (by decide +kernel) rfl rfl dX7_clear_7 (fun v2 H locs hv2 hP hz hS => ?_)
  refine lv_aload_n hx hb dX7_clear_10 rfl (lv_at hl 0 rfl) ?_
  have q3 := ch7_1 ho
  refine w_gR (C := RX7) (T := TX7) (N := 4) (ci := 7) hx hb hts in7 hown hK hP 1 ho.1 ho rfl (by decide) q3.1 (hts _ mf_X7_18) dX7_clear_11 ?_
  refine k_V (As := []) (rest := []) ⟨hx, hb, hml, hown, hts⟩ (c8_clear l dC dI base cy (o + 2) (ch7_1 ho).2 v2) (cwV 0 hts (gV ml_X7_29 mi_X8_clear mx_X8_clear mn_X8 mo_X8_clear) rfl rfl rfl (by decide +kernel) ⟨by decide, by decide⟩) hK hP hS q3.2 (by decide) rfl rfl hl.1 rfl (Nat.le_of_ble_eq_true rfl) dX7_clear_14 ⟨Nat.zero_le _, Nat.zero_le _⟩ (fun v4 H locs hv4 hP hS => ?_)
  exact W.vret hx hb hr (fun t ht hW => ⟨⟨v4, rfl, by rw [hv4]; subst hv2 hv1; rfl, by rw [ht]; exact hP, va_K.moved hW.alike hK⟩, hS.F ht⟩) hS.2.2 dX7_clear_17
