theorem rf9 (k : Nat) : rf 0 k = if k = 0 then some 1 else if k = 1 then some 522 else if k = 2 then some 815 else none := by simp only [rf, i9.2]
theorem rf14 (k : Nat) : rf 522 k = if k < 2 then some (523 + 146 * k) else none := by simp only [rf, show kd 522 = 14 from by decide]
theorem bt_T {v w0 w1 w2 : VV} {r q0 q1 q2 x0 x1 x2 x3 x4 : RR} (hZ0 : Zr 1 v r) (hv0 : v 0 = z0) (hr0 : r 0 = n0) (B0 : Bt 1 522 v r w0 q0) (X0 : x0 = up2 q0 0 0 (some 1)) (B1 : Bt 523 669 w0 x0 w1 q1) (X1 : x1 = up2 q1 522 0 (some 523)) (B2 : Bt 669 815 w1 x1 w2 q2) (X2 : x2 = up2 q2 522 1 (some 669)) (X3 : x3 = up2 x2 0 1 (some 522)) (X4 : x4 = up2 x3 0 2 (some 815)) (hZ : Zr 816 w2 x4) : Bt 0 816 v r w2 x4 := by
  have c0 : ∀ a, a ≠ 0 → x0 a = q0 a := fun a ha => by rw [X0]; exact up2_of _ _ _ _ ha
  have c1 : ∀ a, a ≠ 522 → x1 a = q1 a := fun a ha => by rw [X1]; exact up2_of _ _ _ _ ha
  have c2 : ∀ a, a ≠ 522 → a ≠ 0 → x4 a = q2 a := fun a ha h0 => by rw [X4, up2_of _ _ _ _ h0, X3, up2_of _ _ _ _ h0, X2]; exact up2_of _ _ _ _ ha
  refine ⟨fun a ha => absurd ha (by omega), fun a h1 h2 => ?_, hZ⟩
  by_cases a0 : a = 0
  · rw [a0]
    refine ⟨?_, funext fun k => ?_⟩
    · rw [(B2.1 0 (by omega)).1, (B1.1 0 (by omega)).1, (B0.1 0 (by omega)).1, hv0]
      exact (iv_n (by decide) (by decide)).symm
    · rw [rf9, X4]
      by_cases k2 : k = 2
      · rw [k2, up2_s]; rfl
      rw [up2_k _ _ _ _ k2, X3]
      by_cases k1 : k = 1
      · rw [k1, up2_s]; rfl
      rw [up2_k _ _ _ _ k1, X2, up2_o _ _ _ _ _ (by decide), (B2.1 0 (by omega)).2, c1 0 (by decide), (B1.1 0 (by omega)).2, X0]
      by_cases k0 : k = 0
      · rw [k0, up2_s]; rfl
      rw [up2_k _ _ _ _ k0, (B0.1 0 (by omega)).2, hr0, if_neg k0, if_neg k1, if_neg k2]
      rfl
  · by_cases a5 : a = 522
    · rw [a5]
      refine ⟨?_, funext fun k => ?_⟩
      · rw [(B2.1 522 (by omega)).1, (B1.1 522 (by omega)).1, (B0.2.2 522 (by omega)).1]
        exact (iv_n (by decide) (by decide)).symm
      · rw [rf14, X4, up2_o _ _ _ _ _ (by decide), X3, up2_o _ _ _ _ _ (by decide), X2]
        by_cases k1 : k = 1
        · rw [k1, up2_s]; rfl
        rw [up2_k _ _ _ _ k1, (B2.1 522 (by omega)).2, X1]
        by_cases k0 : k = 0
        · rw [k0, up2_s]; rfl
        rw [up2_k _ _ _ _ k0, (B1.1 522 (by omega)).2, c0 522 (by decide), (B0.2.2 522 (by omega)).2, if_neg (by omega)]
        rfl
    · rw [c2 a a5 a0]
      by_cases g3 : 815 ≤ a
      · have e : a = 815 := by omega
        rw [e]
        have q := B2.2.2 815 (by omega)
        exact row0 (by decide) (Or.inl (by decide)) q.1 q.2
      · by_cases g2 : 669 ≤ a
        · exact B2.2.1 a g2 (by omega)
        · rw [(B2.1 a (by omega)).1, (B2.1 a (by omega)).2, c1 a a5]
          by_cases g1 : 523 ≤ a
          · exact B1.2.1 a g1 (by omega)
          · rw [(B1.1 a (by omega)).1, (B1.1 a (by omega)).2, c0 a a0]
            exact B0.2.1 a (by omega) (by omega)
set_option maxHeartbeats 4000000 in
set_option maxRecDepth 100000 in
/-- TransportFour() -/
theorem ct9 (l : Launch) (dC : Nat → ClassId) (dI : Nat → Nat → Nat) (base : Nat) (cy : Nat → ClassId) (v : VV) (r : RR) (hZ0 : Zr 1 v r) (hv0 : v 0 = z0) (hr0 : r 0 = n0) : CC l yX9_init (.code yX9_init cX9_init 1 none :: TB) { frames := 5, cells := 815, slots := 10423, locals := 103 } dC dI base cy [.ref (base + 0)] (1) v r (816) 815 10423 (fun v' r' => Bt 0 816 v r v' r') := by
  refine Met.ofW (cc := cX9_init) (maxL := 1) (ret := none) (by decide) rfl ?_
  intro p e s m args below meth c s₁ B hml hv
  obtain ⟨rfl, hz, hP, hK, hX⟩ := hv
  have hx := B.exec
  have hb := B.bytes
  have hr := B.returns
  have hts0 := atoms_spec (ws := (.code yX9_init cX9_init 1 none :: TB)) B.pre
  have hts : ∀ w ∈ TB, w.before ([.ref (base + 0)]).toArray s = true := fun w h => hts0 w (List.mem_cons_of_mem _ h)
  have hown : s.vm.findClass RX9 = some m.cls := findClass_of_methodNamed B.named
  have hlocks := B.notSynchronized
  have hin : meth.name = "<init>" := (name_of_methodNamed B.named B.method).1
  have hS : va_S (fun q => base ≤ q) s.heap s.heap [] := va_S.rf
  have hZ := hZ0
  have hl := lv_entry ([.ref (base + 0)]) (n := 1) (Nat.le_of_ble_eq_true rfl)
  rw [lg_entry_eq]
  generalize (lg_sl ([.ref (base + 0)]) ++ List.replicate (1 - (lg_sl ([.ref (base + 0)])).length) Slot.unset).toArray = ls at hl ⊢
  have hl : lv_has ls 1 [(0, .ref (base + 0))] := hl
  refine lv_aload_n hx hb dX9_init_0 rfl (lv_at hl 0 rfl) ?_
  refine W.objInit hx hb hown (hts _ ml_X9_1) (hts _ mi_obj) (hts _ mo_obj) rfl (by rw [hml]; exact hl.1) rfl dX9_init_1 (Nat.le_of_ble_eq_true rfl) (Nat.le_of_ble_eq_true rfl) ?_
  refine W.eq (g2 := F0 m 4 ls []) rfl ?_
  refine lv_aload_n hx hb dX9_init_4 rfl (lv_at hl 0 rfl) ?_
  have K0 := hZ
  refine w_new (n := 1) (C := RX2) (T := TX2) (N := 11) (ci := 2) hx hb hts in2 tyX2 tyX2_ok hown (hts _ mc_X9_7) (hts _ ms_X2) (hts _ mn_X2) hK hP hz hS hZ rfl (i2) (by decide) dvX2 (by decide) (by decide) dX9_init_5 (fun H hP hz hS hZ => ?_)
  have hP : va_P (dC, dI) vwCl (Wd base cy r v (2)) H := hP
  have hz : H.size = base + (2) := hz
  have hZ : Zr (2) v r := hZ
  refine lv_dup hx hb dX9_init_8 rfl ?_
  refine k_C (As := []) (rest := [.ref (base + 1), .ref (base + 0)]) (n' := 522) ⟨hx, hb, hml, hown, hts⟩ (ct2 l dC dI base cy v r hZ (K0 _ (by omega)).1 (K0 _ (by omega)).2) (cwI 0 hts (gI mo_X2_init) rfl rfl rfl (hts _ mn_X2) (hts _ ml_X9_9) (hts _ mi_X2_init) rfl (by decide +kernel) ⟨by decide, by decide⟩) hK hX hP hz hS rfl hl.1 rfl (Nat.le_of_ble_eq_true rfl) dX9_init_9 ⟨(by decide), (by decide)⟩ (fun v1 r2 H locs hB hP hz hS => ?_)
  have hZ := hB.2.2
  have B0 := hB
  refine w_pRF (ty := (.object "TransportFour$Net")) (C := RX9) (T := TX9) (N := 4) (ci := 9) hx hb hts in9 tyX9 tyX9_ok nmX9 hown hK hP hS 0 (by omega) i9 rfl (by decide) (hts _ mf_X9_10) rfl hin rfl (by decide +kernel) rfl rfl dX9_init_12 (fun r3 H locs hr3 hP hz1 hS => ?_)
  have hz := hz1.trans hz
  have hZ := hZ.r hr3 (by omega)
  refine lv_aload_n hx hb dX9_init_15 rfl (lv_at hl 0 rfl) ?_
  refine lv_iconst (v := 2) hx hb dX9_init_16 (by decide) ?_
  refine w_anew (n := 522) (C := RX0) (q0 := 3) (ki := 14) (N := 2) hx hb hown (hts _ mc_X9_16) hX.1.2.1 (by decide) rfl hK hP hz hS hZ (by decide) (by decide) (by decide) (by decide) (by decide) (by decide) (by decide) dX9_init_17 (fun H hP hz hS hZ => ?_)
  have hP : va_P (dC, dI) vwCl (Wd base cy r3 v1 (523)) H := hP
  have hz : H.size = base + (523) := hz
  have hZ : Zr (523) v1 r3 := hZ
  refine lv_dup hx hb dX9_init_20 rfl ?_
  refine lv_iconst (v := 0) hx hb dX9_init_21 (by decide) ?_
  have K1 := hZ
  refine w_new (n := 523) (C := RX0) (T := TX0) (N := 15) (ci := 0) hx hb hts in0 tyX0 tyX0_ok hown (hts _ mc_X9_16) (hts _ ms_X0) (hts _ mn_X0) hK hP hz hS hZ rfl ((arE (i := 0) (by decide)).2) (by decide) dvX0 (by decide) (by decide) dX9_init_22 (fun H hP hz hS hZ => ?_)
  have hP : va_P (dC, dI) vwCl (Wd base cy r3 v1 (524)) H := hP
  have hz : H.size = base + (524) := hz
  have hZ : Zr (524) v1 r3 := hZ
  refine lv_dup hx hb dX9_init_25 rfl ?_
  refine lv_iconst (v := 0) hx hb dX9_init_26 (by decide) ?_
  refine lv_aload_n hx hb dX9_init_27 rfl (lv_at hl 0 rfl) ?_
  have q4 := ch9_0 i9
  refine w_gR (C := RX9) (T := TX9) (N := 4) (ci := 9) hx hb hts in9 hown hK hP 0 (by omega) i9 rfl (by decide) (by rw [hr3, up2_s]) (hts _ mf_X9_10) dX9_init_28 ?_
  refine k_C (As := [.int 0, .ref (base + 1)]) (rest := [.ref (base + 523), .int 0, .ref (base + 522), .ref (base + 522), .ref (base + 0)]) (n' := 669) ⟨hx, hb, hml, hown, hts⟩ (ct0 l dC dI base cy 523 v1 r3 (arE (i := 0) (by decide)).2 0 (by decide) hZ (K1 _ (by omega)).1 (K1 _ (by omega)).2) (cwI 2 hts (gI mo_X0_init) rfl rfl rfl (hts _ mn_X0) (hts _ ml_X9_18) (hts _ mi_X0_init) rfl (by decide +kernel) ⟨by decide, by decide⟩) hK hX hP hz hS rfl hl.1 rfl (Nat.le_of_ble_eq_true rfl) dX9_init_31 ⟨(by decide), (by decide)⟩ (fun v5 r6 H locs hB hP hz hS => ?_)
  have hZ := hB.2.2
  have B1 := hB
  refine w_as (N := 2) (o := 522) (t := 523) (ki := 14) (q0 := 3) (ci := 0) (C := RX0) (T := TX0) (Nf := 15) hx hb hK hP hS (by omega) (by omega) (by decide) ((arE (i := 0) (by decide)).2) (by decide) (by decide) rfl rfl (by decide) (vp_in_nI (n := 0) (by decide) (by decide)) dX9_init_34 (fun r7 H locs hr7 hP hz1 hS => ?_)
  have hz := hz1.trans hz
  have hZ := hZ.r hr7 (by omega)
  refine lv_dup hx hb dX9_init_35 rfl ?_
  refine lv_iconst (v := 1) hx hb dX9_init_36 (by decide) ?_
  have K2 := hZ
  refine w_new (n := 669) (C := RX0) (T := TX0) (N := 15) (ci := 0) hx hb hts in0 tyX0 tyX0_ok hown (hts _ mc_X9_16) (hts _ ms_X0) (hts _ mn_X0) hK hP hz hS hZ rfl ((arE (i := 1) (by decide)).2) (by decide) dvX0 (by decide) (by decide) dX9_init_37 (fun H hP hz hS hZ => ?_)
  have hP : va_P (dC, dI) vwCl (Wd base cy r7 v5 (670)) H := hP
  have hz : H.size = base + (670) := hz
  have hZ : Zr (670) v5 r7 := hZ
  refine lv_dup hx hb dX9_init_40 rfl ?_
  refine lv_iconst (v := 1) hx hb dX9_init_41 (by decide) ?_
  refine lv_aload_n hx hb dX9_init_42 rfl (lv_at hl 0 rfl) ?_
  have q8 := ch9_0 i9
  refine w_gR (C := RX9) (T := TX9) (N := 4) (ci := 9) hx hb hts in9 hown hK hP 0 (by omega) i9 rfl (by decide) (by rw [hr7, up2_o _ _ _ _ _ (by decide), (B1.1 0 (by omega)).2, hr3, up2_s]) (hts _ mf_X9_10) dX9_init_43 ?_
  refine k_C (As := [.int 1, .ref (base + 1)]) (rest := [.ref (base + 669), .int 1, .ref (base + 522), .ref (base + 522), .ref (base + 0)]) (n' := 815) ⟨hx, hb, hml, hown, hts⟩ (ct0 l dC dI base cy 669 v5 r7 (arE (i := 1) (by decide)).2 1 (by decide) hZ (K2 _ (by omega)).1 (K2 _ (by omega)).2) (cwI 2 hts (gI mo_X0_init) rfl rfl rfl (hts _ mn_X0) (hts _ ml_X9_18) (hts _ mi_X0_init) rfl (by decide +kernel) ⟨by decide, by decide⟩) hK hX hP hz hS rfl hl.1 rfl (Nat.le_of_ble_eq_true rfl) dX9_init_46 ⟨(by decide), (by decide)⟩ (fun v9 r10 H locs hB hP hz hS => ?_)
  have hZ := hB.2.2
  have B2 := hB
  refine w_as (N := 2) (o := 522) (t := 669) (ki := 14) (q0 := 3) (ci := 0) (C := RX0) (T := TX0) (Nf := 15) hx hb hK hP hS (by omega) (by omega) (by decide) ((arE (i := 1) (by decide)).2) (by decide) (by decide) rfl rfl (by decide) (vp_in_nI (n := 1) (by decide) (by decide)) dX9_init_49 (fun r11 H locs hr11 hP hz1 hS => ?_)
  have hz := hz1.trans hz
  have hZ := hZ.r hr11 (by omega)
  refine w_pRF (ty := (.array (.object "TransportFour$End"))) (C := RX9) (T := TX9) (N := 4) (ci := 9) hx hb hts in9 tyX9 tyX9_ok nmX9 hown hK hP hS 1 (by omega) i9 rfl (by decide) (hts _ mf_X9_21) rfl hin rfl (by decide +kernel) rfl rfl dX9_init_50 (fun r12 H locs hr12 hP hz1 hS => ?_)
  have hz := hz1.trans hz
  have hZ := hZ.r hr12 (by omega)
  refine lv_aload_n hx hb dX9_init_53 rfl (lv_at hl 0 rfl) ?_
  refine lv_bipush (v := 64) hx hb dX9_init_54 (by decide) ?_
  refine w_newa (ty := .int) (n := 815) (q0 := 0) (ki := 11) (N := 64) hx hb rfl (by decide) rfl raI rfl (hts _ ma_int) hK hP hz hS hZ (by decide) (by decide) (by decide) (by decide) (by decide) (by decide) (by decide) dX9_init_56 (fun H hP hz hS hZ => ?_)
  have hP : va_P (dC, dI) vwCl (Wd base cy r12 v9 (816)) H := hP
  have hz : H.size = base + (816) := hz
  have hZ : Zr (816) v9 r12 := hZ
  refine w_pRF (ty := (.array .int)) (C := RX9) (T := TX9) (N := 4) (ci := 9) hx hb hts in9 tyX9 tyX9_ok nmX9 hown hK hP hS 2 (by omega) i9 rfl (by decide) (hts _ mf_X9_25) rfl hin rfl (by decide +kernel) rfl rfl dX9_init_58 (fun r13 H locs hr13 hP hz1 hS => ?_)
  have hz := hz1.trans hz
  have hZ := hZ.r hr13 (by omega)
  have hBt : Bt 0 816 v r v9 r13 := bt_T hZ0 hv0 hr0 B0 hr3 B1 hr7 B2 hr11 hr12 hr13 hZ
  refine W.widen (k := 815) (n := 10423) (by decide) (by decide) ?_
  exact W.vret hx hb hr (fun t ht hW => ⟨⟨(v9, r13), rfl, hBt, by rw [ht]; exact hz, by rw [ht]; exact hP, va_K.moved hW.alike hK, hX.warm hW⟩, hS.F ht⟩) hS.2.2 dX9_init_61
