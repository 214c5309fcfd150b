theorem bt_End {o : Nat} {v : VV} {r : RR} (ho : isO 0 o) {p1 : Int32} (hp : p1 = iv o 0) (hv0 : v o = z0) (hr0 : r o = n0) {w0 w1 w2 w3 w4 y1 y2 : VV} {q0 q1 q2 q3 q4 x0 x1 x2 x3 x4 x5 : RR}
    (B0 : Bt (o + 1) (o + 123) v r w0 q0) (X0 : x0 = up2 q0 o 2 (some (o + 1))) (B1 : Bt (o + 123) (o + 140) w0 x0 w1 q1) (X1 : x1 = up2 q1 o 3 (some (o + 123))) (B2 : Bt (o + 140) (o + 143) w1 x1 w2 q2) (X2 : x2 = up2 q2 o 4 (some (o + 140))) (B3 : Bt (o + 143) (o + 145) w2 x2 w3 q3) (X3 : x3 = up2 q3 o 5 (some (o + 143))) (B4 : Bt (o + 145) (o + 146) w3 x3 w4 q4) (X4 : x4 = up2 q4 o 6 (some (o + 145)))
    (Y1 : y1 = up2 w4 o 11 (-1)) (Y2 : y2 = up2 y1 o 0 p1) (X5 : x5 = up2 x4 o 1 (some 1)) (hZ : Zr (o + 146) y2 x5) : Bt o (o + 146) v r y2 x5 := by
  have s0 : ∀ a, a < o + 1 → w0 a = v a ∧ q0 a = r a := B0.1
  have s1 : ∀ a, a < o + 123 → w1 a = w0 a ∧ q1 a = x0 a := B1.1
  have s2 : ∀ a, a < o + 140 → w2 a = w1 a ∧ q2 a = x1 a := B2.1
  have s3 : ∀ a, a < o + 143 → w3 a = w2 a ∧ q3 a = x2 a := B3.1
  have s4 : ∀ a, a < o + 145 → w4 a = w3 a ∧ q4 a = x3 a := B4.1
  have t0 : ∀ a, a ≠ o → x0 a = q0 a := fun a ha => by rw [X0]; exact up2_of _ _ _ _ ha
  have t1 : ∀ a, a ≠ o → x1 a = q1 a := fun a ha => by rw [X1]; exact up2_of _ _ _ _ ha
  have t2 : ∀ a, a ≠ o → x2 a = q2 a := fun a ha => by rw [X2]; exact up2_of _ _ _ _ ha
  have t3 : ∀ a, a ≠ o → x3 a = q3 a := fun a ha => by rw [X3]; exact up2_of _ _ _ _ ha
  have t4 : ∀ a, a ≠ o → x4 a = q4 a := fun a ha => by rw [X4]; exact up2_of _ _ _ _ ha
  have t5 : ∀ a, a ≠ o → x5 a = x4 a := fun a ha => by rw [X5]; exact up2_of _ _ _ _ ha
  have u1 : ∀ a, a ≠ o → y1 a = w4 a := fun a ha => by rw [Y1]; exact up2_of _ _ _ _ ha
  have u2 : ∀ a, a ≠ o → y2 a = y1 a := fun a ha => by rw [Y2]; exact up2_of _ _ _ _ ha
  have wo : w4 o = z0 := by
    rw [(s4 o (by omega)).1, (s3 o (by omega)).1, (s2 o (by omega)).1, (s1 o (by omega)).1, (s0 o (by omega)).1, hv0]
  have g0 : q0 o = n0 := by rw [(s0 o (by omega)).2, hr0]
  have r0 : ∀ k, x5 o k = rf o k := fun k => by
    rw [X5]
    rcases Nat.lt_or_ge k 7 with hk | hk
    · match k, hk with
      | 0, _ =>
        rw [up2_k _ _ _ _ (by decide), X4, up2_k _ _ _ _ (by decide), (s4 o (by omega)).2, X3, up2_k _ _ _ _ (by decide), (s3 o (by omega)).2, X2, up2_k _ _ _ _ (by decide), (s2 o (by omega)).2, X1, up2_k _ _ _ _ (by decide), (s1 o (by omega)).2, X0, up2_k _ _ _ _ (by decide), g0]
        simp [rf, ho.2, n0]
      | 1, _ => rw [up2_s]; simp [rf, ho.2]
      | 2, _ =>
        rw [up2_k _ _ _ _ (by decide), X4, up2_k _ _ _ _ (by decide), (s4 o (by omega)).2, X3, up2_k _ _ _ _ (by decide), (s3 o (by omega)).2, X2, up2_k _ _ _ _ (by decide), (s2 o (by omega)).2, X1, up2_k _ _ _ _ (by decide), (s1 o (by omega)).2, X0, up2_s]
        simp [rf, ho.2]
      | 3, _ =>
        rw [up2_k _ _ _ _ (by decide), X4, up2_k _ _ _ _ (by decide), (s4 o (by omega)).2, X3, up2_k _ _ _ _ (by decide), (s3 o (by omega)).2, X2, up2_k _ _ _ _ (by decide), (s2 o (by omega)).2, X1, up2_s]
        simp [rf, ho.2]
      | 4, _ =>
        rw [up2_k _ _ _ _ (by decide), X4, up2_k _ _ _ _ (by decide), (s4 o (by omega)).2, X3, up2_k _ _ _ _ (by decide), (s3 o (by omega)).2, X2, up2_s]
        simp [rf, ho.2]
      | 5, _ =>
        rw [up2_k _ _ _ _ (by decide), X4, up2_k _ _ _ _ (by decide), (s4 o (by omega)).2, X3, up2_s]
        simp [rf, ho.2]
      | 6, _ =>
        rw [up2_k _ _ _ _ (by decide), X4, up2_s]
        simp [rf, ho.2]
    · rw [up2_k _ _ _ _ (by omega), X4, up2_k _ _ _ _ (by omega), (s4 o (by omega)).2, X3, up2_k _ _ _ _ (by omega), (s3 o (by omega)).2, X2, up2_k _ _ _ _ (by omega), (s2 o (by omega)).2, X1, up2_k _ _ _ _ (by omega), (s1 o (by omega)).2, X0, up2_k _ _ _ _ (by omega), g0]
      simp [rf, ho.2, n0, show k ≠ 1 by omega, show k ≠ 2 by omega, show k ≠ 3 by omega, show k ≠ 4 by omega, show k ≠ 5 by omega, show k ≠ 6 by omega]
  have r1 : ∀ k, y2 o k = iv o k := fun k => by
    rw [Y2]
    by_cases k0 : k = 0
    · rw [k0, up2_s, hp]
    · rw [up2_k _ _ _ _ k0, Y1]
      by_cases k1 : k = 11
      · rw [k1, up2_s, iv_11 ho]
      · rw [up2_k _ _ _ _ k1, wo, iv_E ho k k1 k0]
        rfl
  refine ⟨fun a ha => ?_, fun a h1 h2 => ?_, hZ⟩
  · have hne : a ≠ o := by omega
    rw [u2 a hne, u1 a hne, t5 a hne, t4 a hne, (s4 a (by omega)).1, (s4 a (by omega)).2, t3 a hne, (s3 a (by omega)).1, (s3 a (by omega)).2, t2 a hne, (s2 a (by omega)).1, (s2 a (by omega)).2, t1 a hne, (s1 a (by omega)).1, (s1 a (by omega)).2, t0 a hne]
    exact s0 a (by omega)
  · by_cases h3 : a = o
    · rw [h3]
      exact ⟨funext r1, funext r0⟩
    · rw [u2 a h3, u1 a h3, t5 a h3, t4 a h3]
      by_cases g4 : o + 145 ≤ a
      · exact B4.2.1 a g4 (by omega)
      · rw [(s4 a (by omega)).1, (s4 a (by omega)).2, t3 a h3]
        by_cases g3 : o + 143 ≤ a
        · exact B3.2.1 a g3 (by omega)
        · rw [(s3 a (by omega)).1, (s3 a (by omega)).2, t2 a h3]
          by_cases g2 : o + 140 ≤ a
          · exact B2.2.1 a g2 (by omega)
          · rw [(s2 a (by omega)).1, (s2 a (by omega)).2, t1 a h3]
            by_cases g1 : o + 123 ≤ a
            · exact B1.2.1 a g1 (by omega)
            · rw [(s1 a (by omega)).1, (s1 a (by omega)).2, t0 a h3]
              exact B0.2.1 a (by omega) (by omega)
set_option maxHeartbeats 4000000 in
set_option maxRecDepth 100000 in
/-- End(index, net) -/
theorem ct0 (l : Launch) (dC : Nat → ClassId) (dI : Nat → Nat → Nat) (base : Nat) (cy : Nat → ClassId) (o : Nat) (v : VV) (r : RR) (ho : isO 0 o) (p1 : Int32) (hp : p1 = iv o 0) (hZ0 : Zr (o + 1) v r) (hv0 : v o = z0) (hr0 : r o = n0) : CC l yX0_init (.code yX0_init cX0_init 3 none :: TB) { frames := 4, cells := 145, slots := 1825, locals := 81 } dC dI base cy [.ref (base + o), .int p1, .ref (base + 1)] (o + 1) v r (o + 146) 145 1825 (fun v' r' => Bt o (o + 146) v r v' r') := by
  refine Met.ofW (cc := cX0_init) (maxL := 3) (ret := none) (by decide) rfl ?_
  intro p e s m args below meth c s₁ B hml hv
  obtain ⟨rfl, hz, hP, hK, hX⟩ := hv
  have hx := B.exec
  have hb := B.bytes
  have hr := B.returns
  have hts0 := atoms_spec (ws := (.code yX0_init cX0_init 3 none :: TB)) B.pre
  have hts : ∀ w ∈ TB, w.before ([.ref (base + o), .int p1, .ref (base + 1)]).toArray s = true := fun w h => hts0 w (List.mem_cons_of_mem _ h)
  have hown : s.vm.findClass RX0 = some m.cls := findClass_of_methodNamed B.named
  have hlocks := B.notSynchronized
  have hin : meth.name = "<init>" := (name_of_methodNamed B.named B.method).1
  have hS : va_S (fun q => base ≤ q) s.heap s.heap [] := va_S.rf
  have hZ := hZ0
  have hl := lv_entry ([.ref (base + o), .int p1, .ref (base + 1)]) (n := 3) (Nat.le_of_ble_eq_true rfl)
  rw [lg_entry_eq]
  generalize (lg_sl ([.ref (base + o), .int p1, .ref (base + 1)]) ++ List.replicate (3 - (lg_sl ([.ref (base + o), .int p1, .ref (base + 1)])).length) Slot.unset).toArray = ls at hl ⊢
  have hl : lv_has ls 3 [(0, .ref (base + o)), (1, .int p1), (2, .ref (base + 1))] := hl
  have eb := endB o ho.1 ho.2
  refine lv_aload_n hx hb dX0_init_0 rfl (lv_at hl 0 rfl) ?_
  refine W.objInit hx hb hown (hts _ ml_X0_3) (hts _ mi_obj) (hts _ mo_obj) rfl (by rw [hml]; exact hl.1) rfl dX0_init_1 (Nat.le_of_ble_eq_true rfl) (Nat.le_of_ble_eq_true rfl) ?_
  refine W.eq (g2 := F0 m 4 ls []) rfl ?_
  refine lv_aload_n hx hb dX0_init_4 rfl (lv_at hl 0 rfl) ?_
  have K0 := hZ
  refine w_new (n := o + 1) (C := RX3) (T := TX3) (N := 6) (ci := 3) hx hb hts in3 tyX3 tyX3_ok hown (hts _ mc_X0_9) (hts _ ms_X3) (hts _ mn_X3) hK hP hz hS hZ rfl ((ch0_2 ho).2) (by decide) dvX3 (by decide) (by decide) dX0_init_5 (fun H hP hz hS hZ => ?_)
  have hP : va_P (dC, dI) vwCl (Wd base cy r v (o + 2)) H := hP
  have hz : H.size = base + (o + 2) := hz
  have hZ : Zr (o + 2) v r := hZ
  refine lv_dup hx hb dX0_init_8 rfl ?_
  refine k_C (As := []) (rest := [.ref (base + (o + 1)), .ref (base + o)]) (n' := o + 123) ⟨hx, hb, hml, hown, hts⟩ (ct3 l dC dI base cy (o + 1) v r (ch0_2 ho).2 hZ (K0 _ (by omega)).1 (K0 _ (by omega)).2) (cwI 0 hts (gI mo_X3_init) rfl rfl rfl (hts _ mn_X3) (hts _ ml_X0_11) (hts _ mi_X3_init) rfl (by decide +kernel) ⟨by decide, by decide⟩) hK hX hP hz hS rfl hl.1 rfl (Nat.le_of_ble_eq_true rfl) dX0_init_9 ⟨(by decide), (by decide)⟩ (fun v1 r2 H locs hB hP hz hS => ?_)
  have hZ := hB.2.2
  have B0 := hB
  refine w_pRF (ty := (.object "TransportFour$Outbox")) (C := RX0) (T := TX0) (N := 15) (ci := 0) hx hb hts in0 tyX0 tyX0_ok nmX0 hown hK hP hS 2 (by omega) ho rfl (by decide) (hts _ mf_X0_12) rfl hin rfl (by decide +kernel) rfl rfl dX0_init_12 (fun r3 H locs hr3 hP hz1 hS => ?_)
  have hz := hz1.trans hz
  have hZ := hZ.r hr3 (by omega)
  refine lv_aload_n hx hb dX0_init_15 rfl (lv_at hl 0 rfl) ?_
  have K1 := hZ
  refine w_new (n := o + 123) (C := RX1) (T := TX1) (N := 15) (ci := 1) hx hb hts in1 tyX1 tyX1_ok hown (hts _ mc_X0_18) (hts _ ms_X1) (hts _ mn_X1) hK hP hz hS hZ rfl ((ch0_3 ho).2) (by decide) dvX1 (by decide) (by decide) dX0_init_16 (fun H hP hz hS hZ => ?_)
  have hP : va_P (dC, dI) vwCl (Wd base cy r3 v1 (o + 124)) H := hP
  have hz : H.size = base + (o + 124) := hz
  have hZ : Zr (o + 124) v1 r3 := hZ
  refine lv_dup hx hb dX0_init_19 rfl ?_
  refine k_CN (As := []) (rest := [.ref (base + (o + 123)), .ref (base + o)]) (n' := o + 140) ⟨hx, hb, hml, hown, hts⟩ (ct1 l dC dI base cy (o + 123) v1 r3 (ch0_3 ho).2 hZ (K1 _ (by omega)).1 (K1 _ (by omega)).2) ⟨va_cnB (host := hst) 0 hts (gI mo_X1_init) rfl rfl rfl hX.2.1 (hts _ mn_X1) (by decide +kernel) ⟨by decide, by decide⟩, rfl, hts _ mi_X1_init⟩ hK hX hP hz hS rfl hl.1 rfl (Nat.le_of_ble_eq_true rfl) dX0_init_20 ⟨(by decide), (by decide)⟩ (fun v4 r5 H locs hB hP hz hS => ?_)
  have hZ := hB.2.2
  have B1 := hB
  refine w_pRF (ty := (.object "TransportFour$Inbox")) (C := RX0) (T := TX0) (N := 15) (ci := 0) hx hb hts in0 tyX0 tyX0_ok nmX0 hown hK hP hS 3 (by omega) ho rfl (by decide) (hts _ mf_X0_21) rfl hin rfl (by decide +kernel) rfl rfl dX0_init_23 (fun r6 H locs hr6 hP hz1 hS => ?_)
  have hz := hz1.trans hz
  have hZ := hZ.r hr6 (by omega)
  refine lv_aload_n hx hb dX0_init_26 rfl (lv_at hl 0 rfl) ?_
  have K2 := hZ
  refine w_new (n := o + 140) (C := RX7) (T := TX7) (N := 4) (ci := 7) hx hb hts in7 tyX7 tyX7_ok hown (hts _ mc_X0_25) (hts _ ms_X7) (hts _ mn_X7) hK hP hz hS hZ rfl ((ch0_4 ho).2) (by decide) dvX7 (by decide) (by decide) dX0_init_27 (fun H hP hz hS hZ => ?_)
  have hP : va_P (dC, dI) vwCl (Wd base cy r6 v4 (o + 141)) H := hP
  have hz : H.size = base + (o + 141) := hz
  have hZ : Zr (o + 141) v4 r6 := hZ
  refine lv_dup hx hb dX0_init_30 rfl ?_
  refine k_CN (As := []) (rest := [.ref (base + (o + 140)), .ref (base + o)]) (n' := o + 143) ⟨hx, hb, hml, hown, hts⟩ (ct7 l dC dI base cy (o + 140) v4 r6 (ch0_4 ho).2 hZ (K2 _ (by omega)).1 (K2 _ (by omega)).2) ⟨va_cnB (host := hst) 0 hts (gI mo_X7_init) rfl rfl rfl hX.2.2.1 (hts _ mn_X7) (by decide +kernel) ⟨by decide, by decide⟩, rfl, hts _ mi_X7_init⟩ hK hX hP hz hS rfl hl.1 rfl (Nat.le_of_ble_eq_true rfl) dX0_init_31 ⟨(by decide), (by decide)⟩ (fun v7 r8 H locs hB hP hz hS => ?_)
  have hZ := hB.2.2
  have B2 := hB
  refine w_pRF (ty := (.object "TransportFour$UrgentOut")) (C := RX0) (T := TX0) (N := 15) (ci := 0) hx hb hts in0 tyX0 tyX0_ok nmX0 hown hK hP hS 4 (by omega) ho rfl (by decide) (hts _ mf_X0_28) rfl hin rfl (by decide +kernel) rfl rfl dX0_init_34 (fun r9 H locs hr9 hP hz1 hS => ?_)
  have hz := hz1.trans hz
  have hZ := hZ.r hr9 (by omega)
  refine lv_aload_n hx hb dX0_init_37 rfl (lv_at hl 0 rfl) ?_
  have K3 := hZ
  refine w_new (n := o + 143) (C := RX6) (T := TX6) (N := 4) (ci := 6) hx hb hts in6 tyX6 tyX6_ok hown (hts _ mc_X0_32) (hts _ ms_X6) (hts _ mn_X6) hK hP hz hS hZ rfl ((ch0_5 ho).2) (by decide) dvX6 (by decide) (by decide) dX0_init_38 (fun H hP hz hS hZ => ?_)
  have hP : va_P (dC, dI) vwCl (Wd base cy r9 v7 (o + 144)) H := hP
  have hz : H.size = base + (o + 144) := hz
  have hZ : Zr (o + 144) v7 r9 := hZ
  refine lv_dup hx hb dX0_init_41 rfl ?_
  refine k_CN (As := []) (rest := [.ref (base + (o + 143)), .ref (base + o)]) (n' := o + 145) ⟨hx, hb, hml, hown, hts⟩ (ct6 l dC dI base cy (o + 143) v7 r9 (ch0_5 ho).2 hZ (K3 _ (by omega)).1 (K3 _ (by omega)).2) ⟨va_cnB (host := hst) 0 hts (gI mo_X6_init) rfl rfl rfl hX.2.2.2.1 (hts _ mn_X6) (by decide +kernel) ⟨by decide, by decide⟩, rfl, hts _ mi_X6_init⟩ hK hX hP hz hS rfl hl.1 rfl (Nat.le_of_ble_eq_true rfl) dX0_init_42 ⟨(by decide), (by decide)⟩ (fun v10 r11 H locs hB hP hz hS => ?_)
  have hZ := hB.2.2
  have B3 := hB
  refine w_pRF (ty := (.object "TransportFour$UrgentIn")) (C := RX0) (T := TX0) (N := 15) (ci := 0) hx hb hts in0 tyX0 tyX0_ok nmX0 hown hK hP hS 5 (by omega) ho rfl (by decide) (hts _ mf_X0_35) rfl hin rfl (by decide +kernel) rfl rfl dX0_init_45 (fun r12 H locs hr12 hP hz1 hS => ?_)
  have hz := hz1.trans hz
  have hZ := hZ.r hr12 (by omega)
  refine lv_aload_n hx hb dX0_init_48 rfl (lv_at hl 0 rfl) ?_
  have K4 := hZ
  refine w_new (n := o + 145) (C := RX8) (T := TX8) (N := 2) (ci := 8) hx hb hts in8 tyX8 tyX8_ok hown (hts _ mc_X0_39) (hts _ ms_X8) (hts _ mn_X8) hK hP hz hS hZ rfl ((ch0_6 ho).2) (by decide) dvX8 (by decide) (by decide) dX0_init_49 (fun H hP hz hS hZ => ?_)
  have hP : va_P (dC, dI) vwCl (Wd base cy r12 v10 (o + 146)) H := hP
  have hz : H.size = base + (o + 146) := hz
  have hZ : Zr (o + 146) v10 r12 := hZ
  refine lv_dup hx hb dX0_init_52 rfl ?_
  refine k_CN (As := []) (rest := [.ref (base + (o + 145)), .ref (base + o)]) (n' := o + 146) ⟨hx, hb, hml, hown, hts⟩ (ct8 l dC dI base cy (o + 145) v10 r12 (ch0_6 ho).2 hZ (K4 _ (by omega)).1 (K4 _ (by omega)).2) ⟨va_cnB (host := hst) 0 hts (gI mo_X8_init) rfl rfl rfl hX.2.2.2.2.1 (hts _ mn_X8) (by decide +kernel) ⟨by decide, by decide⟩, rfl, hts _ mi_X8_init⟩ hK hX hP hz hS rfl hl.1 rfl (Nat.le_of_ble_eq_true rfl) dX0_init_53 ⟨(by decide), (by decide)⟩ (fun v13 r14 H locs hB hP hz hS => ?_)
  have hZ := hB.2.2
  have B4 := hB
  refine w_pRF (ty := (.object "TransportFour$Wait")) (C := RX0) (T := TX0) (N := 15) (ci := 0) hx hb hts in0 tyX0 tyX0_ok nmX0 hown hK hP hS 6 (by omega) ho rfl (by decide) (hts _ mf_X0_42) rfl hin rfl (by decide +kernel) rfl rfl dX0_init_56 (fun r15 H locs hr15 hP hz1 hS => ?_)
  have hz := hz1.trans hz
  have hZ := hZ.r hr15 (by omega)
  refine lv_aload_n hx hb dX0_init_59 rfl (lv_at hl 0 rfl) ?_
  refine lv_iconst (v := -1) hx hb dX0_init_60 (by decide) ?_
  refine w_pI (C := RX0) (T := TX0) (N := 15) (ci := 0) hx hb hts in0 tyX0 tyX0_ok nmX0 hown hK hP hS 11 (by omega) ho rfl (by decide) (hts _ mf_X0_46) rfl (ty := .int) (by decide +kernel) rfl rfl dX0_init_61 (fun v16 H locs hv16 hP hz1 hS => ?_)
  have hz := hz1.trans hz
  have hZ := hZ.v hv16 (by omega)
  refine lv_aload_n hx hb dX0_init_64 rfl (lv_at hl 0 rfl) ?_
  refine lv_iload_n hx hb dX0_init_65 rfl (lv_at hl 1 rfl) ?_
  refine w_pIF (C := RX0) (T := TX0) (N := 15) (ci := 0) hx hb hts in0 tyX0 tyX0_ok nmX0 hown hK hP hS 0 (by omega) ho rfl (by decide) (hts _ mf_X0_50) rfl hin rfl (ty := .int) (by decide +kernel) rfl rfl dX0_init_66 (fun v17 H locs hv17 hP hz1 hS => ?_)
  have hz := hz1.trans hz
  have hZ := hZ.v hv17 (by omega)
  refine lv_aload_n hx hb dX0_init_69 rfl (lv_at hl 0 rfl) ?_
  refine lv_aload_n hx hb dX0_init_70 rfl (lv_at hl 2 rfl) ?_
  refine w_pRF (ty := (.object "TransportFour$Net")) (C := RX0) (T := TX0) (N := 15) (ci := 0) hx hb hts in0 tyX0 tyX0_ok nmX0 hown hK hP hS 1 (by omega) ho rfl (by decide) (hts _ mf_X0_53) rfl hin rfl (by decide +kernel) rfl rfl dX0_init_71 (fun r18 H locs hr18 hP hz1 hS => ?_)
  have hz := hz1.trans hz
  have hZ := hZ.r hr18 (by omega)
  have hBt : Bt o (o + 146) v r v17 r18 := bt_End ho hp hv0 hr0 B0 hr3 B1 hr6 B2 hr9 B3 hr12 B4 hr15 hv16 hv17 hr18 hZ
  refine W.widen (k := 145) (n := 1825) (by decide) (by decide) ?_
  exact W.vret hx hb hr (fun t ht hW => ⟨⟨(v17, r18), rfl, hBt, by rw [ht]; exact hz, by rw [ht]; exact hP, va_K.moved hW.alike hK, hX.warm hW⟩, hS.F ht⟩) hS.2.2 dX0_init_74
