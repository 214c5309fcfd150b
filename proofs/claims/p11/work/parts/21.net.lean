set_option maxHeartbeats 4000000 in
set_option maxRecDepth 100000 in
/-- Net.unitOf(number) -/
theorem c2_unitOf (l : Launch) (dC : Nat → ClassId) (dI : Nat → Nat → Nat) (base : Nat) (cy : Nat → ClassId) (v : VV) (p1 : Int32) (j : Nat) (hj : p1 &&& 255 = nI j) (hj2 : j < 256) : CR l yX2_unitOf (.code yX2_unitOf cX2_unitOf 2 (some (.object "TransportFour$Unit")) :: TB) { frames := 0, cells := 0, slots := 0, locals := 0 } dC dI base cy [.ref (base + 1), .int p1] v (10 + 2 * j) := by
  refine Met.ofW (cc := cX2_unitOf) (maxL := 2) (ret := (some (.object "TransportFour$Unit"))) (by decide) rfl ?_
  intro p e s m args below meth c s₁ B hml hv
  obtain ⟨rfl, hP, hK⟩ := hv
  have hx := B.exec
  have hb := B.bytes
  have hr := B.returns
  have hts0 := atoms_spec (ws := (.code yX2_unitOf cX2_unitOf 2 (some (.object "TransportFour$Unit")) :: TB)) B.pre
  have hts : ∀ w ∈ TB, w.before ([.ref (base + 1), .int p1]).toArray s = true := fun w h => hts0 w (List.mem_cons_of_mem _ h)
  have hown : s.vm.findClass RX2 = some m.cls := findClass_of_methodNamed B.named
  have hlocks := B.notSynchronized
  have hS : va_S (fun q => base ≤ q) s.heap s.heap [] := va_S.rf
  have hl := lv_entry ([.ref (base + 1), .int p1]) (n := 2) (Nat.le_of_ble_eq_true rfl)
  rw [lg_entry_eq]
  generalize (lg_sl ([.ref (base + 1), .int p1]) ++ List.replicate (2 - (lg_sl ([.ref (base + 1), .int p1])).length) Slot.unset).toArray = ls at hl ⊢
  have hl : lv_has ls 2 [(0, .ref (base + 1)), (1, .int p1)] := hl
  refine lv_aload_n hx hb dX2_unitOf_0 rfl (lv_at hl 0 rfl) ?_
  have q1 := ch2_0 i2
  refine w_gR (C := RX2) (T := TX2) (N := 11) (ci := 2) hx hb hts in2 hown hK hP 0 i2.1 i2 rfl (by decide) q1.1 (hts _ mf_X2_11) dX2_unitOf_1 ?_
  refine lv_iload_n hx hb dX2_unitOf_4 rfl (lv_at hl 1 rfl) ?_
  refine lv_sipush (v := 255) hx hb dX2_unitOf_5 (by decide) ?_
  refine lv_iand hx hb dX2_unitOf_8 ?_
  refine lv_topi (fun x8 ex8 => ?_)
  have q2 := arU (i := j) (hj2)
  refine w_aa (q0 := 2) hx hb hK hP q1.2.1.1 q1.2.1 (by decide) rfl q1.2.2 (by rw [ex8, hj]; exact vp_in_nI hj2 (by decide)) (by rw [ex8, hj, nI_clamp (by omega)]; exact q2.1) dX2_unitOf_9 ?_
  exact W.aret hx hb hr (Or.inl ⟨_, rfl⟩) (Or.inr ⟨_, rfl⟩) (fun t ht hW => ⟨⟨(), _, rfl, trivial, rfl, by rw [ht]; exact hP, va_K.moved hW.alike hK⟩, hS.F ht⟩) hS.2.2 dX2_unitOf_10
set_option maxHeartbeats 4000000 in
set_option maxRecDepth 100000 in
/-- Net.nextUnit() -/
theorem c2_nextUnit (l : Launch) (dC : Nat → ClassId) (dI : Nat → Nat → Nat) (base : Nat) (cy : Nat → ClassId) (v : VV) (j : Nat) (hj : v 1 8 &&& 255 = nI j) (hj2 : j < 256) : CR l yX2_nextUnit (.code yX2_nextUnit cX2_nextUnit 1 (some (.object "TransportFour$Unit")) :: TB) { frames := 1, cells := 0, slots := 0, locals := 21 } dC dI base cy [.ref (base + 1)] v (10 + 2 * j) := by
  refine Met.ofW (cc := cX2_nextUnit) (maxL := 1) (ret := (some (.object "TransportFour$Unit"))) (by decide) rfl ?_
  intro p e s m args below meth c s₁ B hml hv
  obtain ⟨rfl, hP, hK⟩ := hv
  have hx := B.exec
  have hb := B.bytes
  have hr := B.returns
  have hts0 := atoms_spec (ws := (.code yX2_nextUnit cX2_nextUnit 1 (some (.object "TransportFour$Unit")) :: TB)) B.pre
  have hts : ∀ w ∈ TB, w.before ([.ref (base + 1)]).toArray s = true := fun w h => hts0 w (List.mem_cons_of_mem _ h)
  have hown : s.vm.findClass RX2 = some m.cls := findClass_of_methodNamed B.named
  have hlocks := B.notSynchronized
  have hS : va_S (fun q => base ≤ q) s.heap s.heap [] := va_S.rf
  have hl := lv_entry ([.ref (base + 1)]) (n := 1) (Nat.le_of_ble_eq_true rfl)
  rw [lg_entry_eq]
  generalize (lg_sl ([.ref (base + 1)]) ++ List.replicate (1 - (lg_sl ([.ref (base + 1)])).length) Slot.unset).toArray = ls at hl ⊢
  have hl : lv_has ls 1 [(0, .ref (base + 1))] := hl
  refine lv_aload_n hx hb dX2_nextUnit_0 rfl (lv_at hl 0 rfl) ?_
  refine lv_aload_n hx hb dX2_nextUnit_1 rfl (lv_at hl 0 rfl) ?_
  refine w_gI (C := RX2) (T := TX2) (N := 11) (ci := 2) hx hb hts in2 hown hK hP 8 i2.1 i2 rfl (by decide) (hts _ mf_X2_42) dX2_nextUnit_2 ?_
  refine lv_topi (fun x2 ex2 => ?_)
  refine k_R (As := [.int x2]) (rest := []) ⟨hx, hb, hml, hown, hts⟩ (c2_unitOf l dC dI base cy v x2 j (by rw [ex2]; exact hj) hj2) (cwV 1 hts (gV ml_X2_45 mi_X2_unitOf mx_X2_unitOf mn_X2 mo_X2_unitOf) rfl rfl rfl (by decide +kernel) ⟨by decide, by decide⟩) hK hP hS i2 (by decide) rfl rfl hl.1 rfl (Nat.le_of_ble_eq_true rfl) dX2_nextUnit_5 ⟨Nat.zero_le _, Nat.zero_le _⟩ (fun H locs hP hS => ?_)
  exact W.aret hx hb hr (Or.inl ⟨_, rfl⟩) (Or.inr ⟨_, rfl⟩) (fun t ht hW => ⟨⟨(), _, rfl, trivial, rfl, by rw [ht]; exact hP, va_K.moved hW.alike hK⟩, hS.F ht⟩) hS.2.2 dX2_nextUnit_8
set_option maxHeartbeats 4000000 in
set_option maxRecDepth 100000 in
/-- Net.applyFaults(unit) where no fault was told -/
theorem c2_applyFaults0 (l : Launch) (dC : Nat → ClassId) (dI : Nat → Nat → Nat) (base : Nat) (cy : Nat → ClassId) (v : VV) (o : Nat) (ho : isO 5 o) (h0 : v 1 7 = 0) : CV l yX2_applyFaults (.code yX2_applyFaults cX2_applyFaults 5 none :: TB) { frames := 0, cells := 0, slots := 0, locals := 0 } dC dI base cy [.ref (base + 1), .ref (base + o)] v (fun v' : VV => v' = v) := by
  refine Met.ofW (cc := cX2_applyFaults) (maxL := 5) (ret := none) (by decide) rfl ?_
  intro p e s m args below meth c s₁ B hml hv
  obtain ⟨rfl, hP, hK⟩ := hv
  have hx := B.exec
  have hb := B.bytes
  have hr := B.returns
  have hts0 := atoms_spec (ws := (.code yX2_applyFaults cX2_applyFaults 5 none :: TB)) B.pre
  have hts : ∀ w ∈ TB, w.before ([.ref (base + 1), .ref (base + o)]).toArray s = true := fun w h => hts0 w (List.mem_cons_of_mem _ h)
  have hown : s.vm.findClass RX2 = some m.cls := findClass_of_methodNamed B.named
  have hlocks := B.notSynchronized
  have hS : va_S (fun q => base ≤ q) s.heap s.heap [] := va_S.rf
  have hl := lv_entry ([.ref (base + 1), .ref (base + o)]) (n := 5) (Nat.le_of_ble_eq_true rfl)
  rw [lg_entry_eq]
  generalize (lg_sl ([.ref (base + 1), .ref (base + o)]) ++ List.replicate (5 - (lg_sl ([.ref (base + 1), .ref (base + o)])).length) Slot.unset).toArray = ls at hl ⊢
  have hl : lv_has ls 5 [(0, .ref (base + 1)), (1, .ref (base + o))] := hl
  refine lv_iconst (v := 0) hx hb dX2_applyFaults_0 (by decide) ?_
  refine lv_istore_n (lv' := [(2, .int 0), (0, .ref (base + 1)), (1, .ref (base + o))]) hx hb dX2_applyFaults_1 rfl hl (by decide) rfl (fun ls hl => ?_)
  refine lv_iconst (v := 0) hx hb dX2_applyFaults_2 (by decide) ?_
  refine lv_istore_n (lv' := [(3, .int 0), (2, .int 0), (0, .ref (base + 1)), (1, .ref (base + o))]) hx hb dX2_applyFaults_3 rfl hl (by decide) rfl (fun ls hl => ?_)
  refine lv_iconst (v := 0) hx hb dX2_applyFaults_4 (by decide) ?_
  refine lv_istore (lv' := [(4, .int 0), (3, .int 0), (2, .int 0), (0, .ref (base + 1)), (1, .ref (base + o))]) hx hb dX2_applyFaults_5 hl (by decide) rfl (fun ls hl => ?_)
  refine lv_iload hx hb dX2_applyFaults_7 (lv_at hl 0 rfl) ?_
  refine lv_aload_n hx hb dX2_applyFaults_9 rfl (lv_at hl 3 rfl) ?_
  refine w_gI (C := RX2) (T := TX2) (N := 11) (ci := 2) hx hb hts in2 hown hK hP 7 i2.1 i2 rfl (by decide) (hts _ mf_X2_38) dX2_applyFaults_10 ?_
  refine lv_topi (fun x10 ex10 => ?_)
  refine lv_icmp_ge (tgt := 121) hx hb dX2_applyFaults_13 (by decide) (fun c13 => ?_) (fun c13 => ?_)
  · refine lv_iload_n hx hb dX2_applyFaults_121 rfl (lv_at hl 2 rfl) ?_
    refine lv_if_eq (tgt := 133) hx hb dX2_applyFaults_122 (by decide) (fun c122 => ?_) (fun c122 => ?_)
    · refine lv_iload_n hx hb dX2_applyFaults_133 rfl (lv_at hl 1 rfl) ?_
      refine lv_if_eq (tgt := 147) hx hb dX2_applyFaults_134 (by decide) (fun c134 => ?_) (fun c134 => ?_)
      · exact W.vret hx hb hr (fun t ht hW => ⟨⟨v, rfl, by trivial, by rw [ht]; exact hP, va_K.moved hW.alike hK⟩, hS.F ht⟩) hS.2.2 dX2_applyFaults_147
      · exact absurd rfl c134
    · exact absurd rfl c122
  · exact absurd (by rw [ex10, h0]; decide) c13
set_option maxHeartbeats 4000000 in
set_option maxRecDepth 100000 in
/-- Net.dispatch(sender) where no fault was told -/
theorem c2_dispatch0 (l : Launch) (dC : Nat → ClassId) (dI : Nat → Nat → Nat) (base : Nat) (cy : Nat → ClassId) (v : VV) (p1 : Int32) (hp : p1 = 0 ∨ p1 = 1) (j : Nat) (hj : v 1 8 &&& 255 = nI j) (hj2 : j < 256) (L : Nat) (hL : v (10 + 2 * j) 1 = nI L) (hL2 : L ≤ 17) (h0 : v 1 7 = 0) : CV l yX2_dispatch (.code yX2_dispatch cX2_dispatch 3 none :: TB) { frames := 1, cells := 0, slots := 0, locals := 26 } dC dI base cy [.ref (base + 1), .int p1] v (fun v' : VV => Fr (fun a => a < 522) v v') := by
  refine Met.ofW (cc := cX2_dispatch) (maxL := 3) (ret := none) (by decide) rfl ?_
  intro p e s m args below meth c s₁ B hml hv
  obtain ⟨rfl, hP, hK⟩ := hv
  have hx := B.exec
  have hb := B.bytes
  have hr := B.returns
  have hts0 := atoms_spec (ws := (.code yX2_dispatch cX2_dispatch 3 none :: TB)) B.pre
  have hts : ∀ w ∈ TB, w.before ([.ref (base + 1), .int p1]).toArray s = true := fun w h => hts0 w (List.mem_cons_of_mem _ h)
  have hown : s.vm.findClass RX2 = some m.cls := findClass_of_methodNamed B.named
  have hlocks := B.notSynchronized
  have hS : va_S (fun q => base ≤ q) s.heap s.heap [] := va_S.rf
  have hl := lv_entry ([.ref (base + 1), .int p1]) (n := 3) (Nat.le_of_ble_eq_true rfl)
  rw [lg_entry_eq]
  generalize (lg_sl ([.ref (base + 1), .int p1]) ++ List.replicate (3 - (lg_sl ([.ref (base + 1), .int p1])).length) Slot.unset).toArray = ls at hl ⊢
  have hl : lv_has ls 3 [(0, .ref (base + 1)), (1, .int p1)] := hl
  refine lv_aload_n hx hb dX2_dispatch_0 rfl (lv_at hl 0 rfl) ?_
  refine lv_aload_n hx hb dX2_dispatch_1 rfl (lv_at hl 0 rfl) ?_
  refine w_gI (C := RX2) (T := TX2) (N := 11) (ci := 2) hx hb hts in2 hown hK hP 8 i2.1 i2 rfl (by decide) (hts _ mf_X2_42) dX2_dispatch_2 ?_
  refine lv_topi (fun x2 ex2 => ?_)
  refine k_R (As := [.int x2]) (rest := []) ⟨hx, hb, hml, hown, hts⟩ (c2_unitOf l dC dI base cy v x2 j (by rw [ex2]; exact hj) hj2) (cwV 1 hts (gV ml_X2_45 mi_X2_unitOf mx_X2_unitOf mn_X2 mo_X2_unitOf) rfl rfl rfl (by decide +kernel) ⟨by decide, by decide⟩) hK hP hS i2 (by decide) rfl rfl hl.1 rfl (Nat.le_of_ble_eq_true rfl) dX2_dispatch_5 ⟨Nat.zero_le _, Nat.zero_le _⟩ (fun H locs hP hS => ?_)
  refine lv_astore_n (lv' := [(2, .ref (base + (10 + 2 * j))), (0, .ref (base + 1)), (1, .int p1)]) hx hb dX2_dispatch_8 rfl hl (by decide) rfl (fun ls hl => ?_)
  refine lv_aload_n hx hb dX2_dispatch_9 rfl (lv_at hl 0 rfl) ?_
  refine lv_aload_n hx hb dX2_dispatch_10 rfl (lv_at hl 0 rfl) ?_
  refine k_I (As := []) (rest := [.ref (base + (10 + 2 * j))]) ⟨hx, hb, hml, hown, hts⟩ (c5_plainSum l dC dI base cy (10 + 2 * j) (arU hj2).2 v L hL hL2) (cwV 0 hts (gV ml_X2_49 mi_X5_plainSum mx_X5_plainSum mn_X5 mo_X5_plainSum) rfl rfl rfl (by decide +kernel) ⟨by decide, by decide⟩) hK hP hS (arU hj2).2 (by decide) rfl rfl hl.1 rfl (Nat.le_of_ble_eq_true rfl) dX2_dispatch_11 ⟨Nat.zero_le _, Nat.zero_le _⟩ (fun x11 v1 H locs hv1 hP hS => ?_)
  rw [hv1] at hP
  refine lv_aload_n hx hb dX2_dispatch_14 rfl (lv_at hl 0 rfl) ?_
  refine k_I (As := []) (rest := [.int x11, .ref (base + (10 + 2 * j))]) ⟨hx, hb, hml, hown, hts⟩ (c5_weightedSum l dC dI base cy (10 + 2 * j) (arU hj2).2 v L hL hL2) (cwV 0 hts (gV ml_X2_53 mi_X5_weightedSum mx_X5_weightedSum mn_X5 mo_X5_weightedSum) rfl rfl rfl (by decide +kernel) ⟨by decide, by decide⟩) hK hP hS (arU hj2).2 (by decide) rfl rfl hl.1 rfl (Nat.le_of_ble_eq_true rfl) dX2_dispatch_15 ⟨Nat.zero_le _, Nat.zero_le _⟩ (fun x15 v2 H locs hv2 hP hS => ?_)
  rw [hv2] at hP
  refine k_V (As := [.int x11, .int x15]) (rest := []) ⟨hx, hb, hml, hown, hts⟩ (c5_fillChecks l dC dI base cy (10 + 2 * j) (arU hj2).2 v x11 x15 L hL hL2) (cwV 2 hts (gV ml_X2_56 mi_X5_fillChecks mx_X5_fillChecks mn_X5 mo_X5_fillChecks) rfl rfl rfl (by decide +kernel) ⟨by decide, by decide⟩) hK hP hS (arU hj2).2 (by decide) rfl rfl hl.1 rfl (Nat.le_of_ble_eq_true rfl) dX2_dispatch_18 ⟨Nat.zero_le _, Nat.zero_le _⟩ (fun v3 H locs hv3 hP hS => ?_)
  have f1 : Fr (fun a => a < 522) v v3 := hv3.w (fun a h => by omega)
  have f2 := hv3
  refine lv_aload_n hx hb dX2_dispatch_21 rfl (lv_at hl 0 rfl) ?_
  refine lv_iload_n hx hb dX2_dispatch_22 rfl (lv_at hl 2 rfl) ?_
  refine w_pI (C := RX5) (T := TX5) (N := 7) (ci := 5) hx hb hts in5 tyX5 tyX5_ok nmX5 hown hK hP hS 2 (arU hj2).2.1 (arU hj2).2 rfl (by decide) (hts _ mf_X2_60) rfl (ty := .int) (by decide +kernel) rfl rfl dX2_dispatch_23 (fun v4 H locs hv4 hP hz hS => ?_)
  refine lv_aload_n hx hb dX2_dispatch_26 rfl (lv_at hl 0 rfl) ?_
  refine lv_aload_n hx hb dX2_dispatch_27 rfl (lv_at hl 1 rfl) ?_
  refine w_gI (C := RX2) (T := TX2) (N := 11) (ci := 2) hx hb hts in2 hown hK hP 10 i2.1 i2 rfl (by decide) (hts _ mf_X2_63) dX2_dispatch_28 ?_
  refine lv_topi (fun x28 ex28 => ?_)
  refine lv_iconst (v := 2) hx hb dX2_dispatch_31 (by decide) ?_
  refine lv_iadd hx hb dX2_dispatch_32 ?_
  refine lv_topi (fun x32 ex32 => ?_)
  refine w_pI (C := RX5) (T := TX5) (N := 7) (ci := 5) hx hb hts in5 tyX5 tyX5_ok nmX5 hown hK hP hS 3 (arU hj2).2.1 (arU hj2).2 rfl (by decide) (hts _ mf_X2_66) rfl (ty := .int) (by decide +kernel) rfl rfl dX2_dispatch_33 (fun v5 H locs hv5 hP hz hS => ?_)
  refine lv_aload_n hx hb dX2_dispatch_36 rfl (lv_at hl 0 rfl) ?_
  refine lv_iconst (v := -1) hx hb dX2_dispatch_37 (by decide) ?_
  refine w_pI (C := RX5) (T := TX5) (N := 7) (ci := 5) hx hb hts in5 tyX5 tyX5_ok nmX5 hown hK hP hS 4 (arU hj2).2.1 (arU hj2).2 rfl (by decide) (hts _ mf_X2_69) rfl (ty := .int) (by decide +kernel) rfl rfl dX2_dispatch_38 (fun v6 H locs hv6 hP hz hS => ?_)
  refine lv_aload_n hx hb dX2_dispatch_41 rfl (lv_at hl 0 rfl) ?_
  refine lv_iconst (v := 0) hx hb dX2_dispatch_42 (by decide) ?_
  refine w_pI (C := RX5) (T := TX5) (N := 7) (ci := 5) hx hb hts in5 tyX5 tyX5_ok nmX5 hown hK hP hS 6 (arU hj2).2.1 (arU hj2).2 rfl (by decide) (hts _ mf_X2_72) rfl (ty := .int) (by decide +kernel) rfl rfl dX2_dispatch_43 (fun v7 H locs hv7 hP hz hS => ?_)
  refine lv_aload_n hx hb dX2_dispatch_46 rfl (lv_at hl 1 rfl) ?_
  refine lv_aload_n hx hb dX2_dispatch_47 rfl (lv_at hl 0 rfl) ?_
  refine k_V (As := [.ref (base + (10 + 2 * j))]) (rest := []) ⟨hx, hb, hml, hown, hts⟩ (c2_applyFaults0 l dC dI base cy v7 (10 + 2 * j) (arU hj2).2 (by
      subst hv7 hv6 hv5 hv4
      rw [up2_o _ _ _ _ _ (by omega), up2_o _ _ _ _ _ (by omega), up2_o _ _ _ _ _ (by omega), up2_o _ _ _ _ _ (by omega)]
      exact (congrFun (f2 1 (by omega)) 7).trans h0)) (cwV 1 hts (gV ml_X2_75 mi_X2_applyFaults mx_X2_applyFaults mn_X2 mo_X2_applyFaults) rfl rfl rfl (by decide +kernel) ⟨by decide, by decide⟩) hK hP hS i2 (by decide) rfl rfl hl.1 rfl (Nat.le_of_ble_eq_true rfl) dX2_dispatch_48 ⟨Nat.zero_le _, Nat.zero_le _⟩ (fun v8 H locs hv8 hP hS => ?_)
  rw [hv8] at hP
  refine lv_aload_n hx hb dX2_dispatch_51 rfl (lv_at hl 1 rfl) ?_
  have q9 := ch2_6 i2
  refine w_gR (C := RX2) (T := TX2) (N := 11) (ci := 2) hx hb hts in2 hown hK hP 6 i2.1 i2 rfl (by decide) q9.1 (hts _ mf_X2_35) dX2_dispatch_52 ?_
  refine lv_iload_n hx hb dX2_dispatch_55 rfl (lv_at hl 2 rfl) ?_
  refine lv_aload_n hx hb dX2_dispatch_56 rfl (lv_at hl 1 rfl) ?_
  refine w_gI (C := RX2) (T := TX2) (N := 11) (ci := 2) hx hb hts in2 hown hK hP 10 i2.1 i2 rfl (by decide) (hts _ mf_X2_63) dX2_dispatch_57 ?_
  refine lv_topi (fun x57 ex57 => ?_)
  refine w_is (N := 2) hx hb hK hP hS q9.2.1.1 (q9.2.1) (q9.2.2) (by rcases hp with rfl | rfl <;> exact vp_in_nI (by decide) (by decide)) dX2_dispatch_60 (fun v10 H locs hv10 hP hz hS => ?_)
  refine lv_aload_n hx hb dX2_dispatch_61 rfl (lv_at hl 1 rfl) ?_
  refine lv_dup hx hb dX2_dispatch_62 rfl ?_
  refine w_gI (C := RX2) (T := TX2) (N := 11) (ci := 2) hx hb hts in2 hown hK hP 8 i2.1 i2 rfl (by decide) (hts _ mf_X2_42) dX2_dispatch_63 ?_
  refine lv_topi (fun x63 ex63 => ?_)
  refine lv_iconst (v := 1) hx hb dX2_dispatch_66 (by decide) ?_
  refine lv_iadd hx hb dX2_dispatch_67 ?_
  refine lv_topi (fun x67 ex67 => ?_)
  refine w_pI (C := RX2) (T := TX2) (N := 11) (ci := 2) hx hb hts in2 tyX2 tyX2_ok nmX2 hown hK hP hS 8 i2.1 i2 rfl (by decide) (hts _ mf_X2_42) rfl (ty := .int) (by decide +kernel) rfl rfl dX2_dispatch_68 (fun v11 H locs hv11 hP hz hS => ?_)
  refine lv_aload_n hx hb dX2_dispatch_71 rfl (lv_at hl 1 rfl) ?_
  refine w_gI (C := RX2) (T := TX2) (N := 11) (ci := 2) hx hb hts in2 hown hK hP 8 i2.1 i2 rfl (by decide) (hts _ mf_X2_42) dX2_dispatch_72 ?_
  refine lv_topi (fun x72 ex72 => ?_)
  refine lv_aload_n hx hb dX2_dispatch_75 rfl (lv_at hl 1 rfl) ?_
  refine w_gI (C := RX2) (T := TX2) (N := 11) (ci := 2) hx hb hts in2 hown hK hP 9 i2.1 i2 rfl (by decide) (hts _ mf_X2_79) dX2_dispatch_76 ?_
  refine lv_topi (fun x76 ex76 => ?_)
  refine lv_isub hx hb dX2_dispatch_79 ?_
  refine lv_topi (fun x79 ex79 => ?_)
  refine lv_sipush (v := 256) hx hb dX2_dispatch_80 (by decide) ?_
  refine lv_icmp_le (tgt := 98) hx hb dX2_dispatch_83 (by decide) (fun c83 => ?_) (fun c83 => ?_)
  · exact W.vret hx hb hr (fun t ht hW => ⟨⟨v11, rfl, by
        refine Fr.tr f1 ?_
        subst hv11 hv10 hv7 hv6 hv5 hv4
        repeat (first | exact Fr.rf | refine Fr.up ?_ _ _ _ (by omega)), by rw [ht]; exact hP, va_K.moved hW.alike hK⟩, hS.F ht⟩) hS.2.2 dX2_dispatch_98
  · refine lv_aload_n hx hb dX2_dispatch_86 rfl (lv_at hl 1 rfl) ?_
    refine lv_aload_n hx hb dX2_dispatch_87 rfl (lv_at hl 1 rfl) ?_
    refine w_gI (C := RX2) (T := TX2) (N := 11) (ci := 2) hx hb hts in2 hown hK hP 8 i2.1 i2 rfl (by decide) (hts _ mf_X2_42) dX2_dispatch_88 ?_
    refine lv_topi (fun x88 ex88 => ?_)
    refine lv_sipush (v := 256) hx hb dX2_dispatch_91 (by decide) ?_
    refine lv_isub hx hb dX2_dispatch_94 ?_
    refine lv_topi (fun x94 ex94 => ?_)
    refine w_pI (C := RX2) (T := TX2) (N := 11) (ci := 2) hx hb hts in2 tyX2 tyX2_ok nmX2 hown hK hP hS 9 i2.1 i2 rfl (by decide) (hts _ mf_X2_79) rfl (ty := .int) (by decide +kernel) rfl rfl dX2_dispatch_95 (fun v12 H locs hv12 hP hz hS => ?_)
    exact W.vret hx hb hr (fun t ht hW => ⟨⟨v12, rfl, by
        refine Fr.tr f1 ?_
        subst hv12 hv11 hv10 hv7 hv6 hv5 hv4
        repeat (first | exact Fr.rf | refine Fr.up ?_ _ _ _ (by omega)), by rw [ht]; exact hP, va_K.moved hW.alike hK⟩, hS.F ht⟩) hS.2.2 dX2_dispatch_98
