theorem cls_lt : ∀ o, o < 874 → kd o < 10 → o < 816 := by decide +kernel
theorem isO.lt {c o : Nat} (h : isO c o) (hc : c < 10) : o < 816 := cls_lt o h.1 (by rw [h.2]; exact hc)
theorem row0 {a : Nat} {v : VV} {r : RR} (h : a < 816) (hk : kd a = 11 ∨ kd a = 12 ∨ kd a = 8) (hv : v a = z0) (hr : r a = n0) : v a = iv a ∧ r a = rf a := by
  refine ⟨hv.trans (iv_n h ?_).symm, hr.trans (rf_n hk).symm⟩
  rcases hk with q | q | q <;> (rw [q]; decide)
set_option maxHeartbeats 4000000 in
set_option maxRecDepth 100000 in
/-- Wait() -/
theorem ct8 (l : Launch) (dC : Nat → ClassId) (dI : Nat → Nat → Nat) (base : Nat) (cy : Nat → ClassId) (o : Nat) (v : VV) (r : RR) (ho : isO 8 o) (hZ0 : Zr (o + 1) v r) (hv0 : v o = z0) (hr0 : r o = n0) : CC l yX8_init (.code yX8_init cX8_init 1 none :: TB) { frames := 1, cells := 0, slots := 0, locals := 12 } dC dI base cy [.ref (base + o)] (o + 1) v r (o + 1) 0 0 (fun v' r' => Bt o (o + 1) v r v' r') := by
  refine Met.ofW (cc := cX8_init) (maxL := 1) (ret := none) (by decide) rfl ?_
  intro p e s m args below meth c s₁ B hml hv
  obtain ⟨rfl, hz, hP, hK, hX⟩ := hv
  have hx := B.exec
  have hb := B.bytes
  have hr := B.returns
  have hts0 := atoms_spec (ws := (.code yX8_init cX8_init 1 none :: TB)) B.pre
  have hts : ∀ w ∈ TB, w.before ([.ref (base + o)]).toArray s = true := fun w h => hts0 w (List.mem_cons_of_mem _ h)
  have hown : s.vm.findClass RX8 = some m.cls := findClass_of_methodNamed B.named
  have hlocks := B.notSynchronized
  have hin : meth.name = "<init>" := (name_of_methodNamed B.named B.method).1
  have hS : va_S (fun q => base ≤ q) s.heap s.heap [] := va_S.rf
  have hZ := hZ0
  have hl := lv_entry ([.ref (base + o)]) (n := 1) (Nat.le_of_ble_eq_true rfl)
  rw [lg_entry_eq]
  generalize (lg_sl ([.ref (base + o)]) ++ List.replicate (1 - (lg_sl ([.ref (base + o)])).length) Slot.unset).toArray = ls at hl ⊢
  have hl : lv_has ls 1 [(0, .ref (base + o))] := hl
  refine lv_aload_n hx hb dX8_init_0 rfl (lv_at hl 0 rfl) ?_
  refine W.objInit hx hb hown (hts _ ml_X8_3) (hts _ mi_obj) (hts _ mo_obj) rfl (by rw [hml]; exact hl.1) rfl dX8_init_1 (Nat.le_of_ble_eq_true rfl) (Nat.le_of_ble_eq_true rfl) ?_
  refine W.eq (g2 := F0 m 4 ls []) rfl ?_
  have hBt : Bt o (o + 1) v r v r := ⟨fun a _ => ⟨rfl, rfl⟩, fun a h1 h2 => by
      have e1 : a = o := by omega
      subst e1
      exact row0 (ho.lt (by decide)) (Or.inr (Or.inr ho.2)) hv0 hr0, hZ⟩
  refine W.widen (k := 0) (n := 0) (by decide) (by decide) ?_
  exact W.vret hx hb hr (fun t ht hW => ⟨⟨(v, r), rfl, hBt, by rw [ht]; exact hz, by rw [ht]; exact hP, va_K.moved hW.alike hK, hX.warm hW⟩, hS.F ht⟩) hS.2.2 dX8_init_4
set_option maxHeartbeats 4000000 in
set_option maxRecDepth 100000 in
/-- TransportFour$Unit() -/
theorem ct5 (l : Launch) (dC : Nat → ClassId) (dI : Nat → Nat → Nat) (base : Nat) (cy : Nat → ClassId) (o : Nat) (v : VV) (r : RR) (ho : isO 5 o) (hZ0 : Zr (o + 1) v r) (hv0 : v o = z0) (hr0 : r o = n0) : CC l yX5_init (.code yX5_init cX5_init 1 none :: TB) { frames := 1, cells := 1, slots := 17, locals := 12 } dC dI base cy [.ref (base + o)] (o + 1) v r (o + 2) 1 17 (fun v' r' => Bt o (o + 2) v r v' r') := by
  refine Met.ofW (cc := cX5_init) (maxL := 1) (ret := none) (by decide) rfl ?_
  intro p e s m args below meth c s₁ B hml hv
  obtain ⟨rfl, hz, hP, hK, hX⟩ := hv
  have hx := B.exec
  have hb := B.bytes
  have hr := B.returns
  have hts0 := atoms_spec (ws := (.code yX5_init cX5_init 1 none :: TB)) B.pre
  have hts : ∀ w ∈ TB, w.before ([.ref (base + o)]).toArray s = true := fun w h => hts0 w (List.mem_cons_of_mem _ h)
  have hown : s.vm.findClass RX5 = some m.cls := findClass_of_methodNamed B.named
  have hlocks := B.notSynchronized
  have hin : meth.name = "<init>" := (name_of_methodNamed B.named B.method).1
  have hS : va_S (fun q => base ≤ q) s.heap s.heap [] := va_S.rf
  have hZ := hZ0
  have hl := lv_entry ([.ref (base + o)]) (n := 1) (Nat.le_of_ble_eq_true rfl)
  rw [lg_entry_eq]
  generalize (lg_sl ([.ref (base + o)]) ++ List.replicate (1 - (lg_sl ([.ref (base + o)])).length) Slot.unset).toArray = ls at hl ⊢
  have hl : lv_has ls 1 [(0, .ref (base + o))] := hl
  refine lv_aload_n hx hb dX5_init_0 rfl (lv_at hl 0 rfl) ?_
  refine W.objInit hx hb hown (hts _ ml_X5_3) (hts _ mi_obj) (hts _ mo_obj) rfl (by rw [hml]; exact hl.1) rfl dX5_init_1 (Nat.le_of_ble_eq_true rfl) (Nat.le_of_ble_eq_true rfl) ?_
  refine W.eq (g2 := F0 m 4 ls []) rfl ?_
  refine lv_aload_n hx hb dX5_init_4 rfl (lv_at hl 0 rfl) ?_
  refine lv_bipush (v := 17) hx hb dX5_init_5 (by decide) ?_
  refine w_newa (ty := .int) (n := o + 1) (q0 := 0) (ki := 11) (N := 17) hx hb rfl (by decide) rfl raI rfl (hts _ ma_int) hK hP hz hS hZ ((ch5_0 ho).2.1) ((ch5_0 ho).2.2) (by decide) (by decide) (by decide) (by decide) (by decide) dX5_init_7 (fun H hP hz hS hZ => ?_)
  have hP : va_P (dC, dI) vwCl (Wd base cy r v (o + 2)) H := hP
  have hz : H.size = base + (o + 2) := hz
  have hZ : Zr (o + 2) v r := hZ
  refine w_pRF (ty := (.array .int)) (C := RX5) (T := TX5) (N := 7) (ci := 5) hx hb hts in5 tyX5 tyX5_ok nmX5 hown hK hP hS 0 (by omega) ho rfl (by decide) (hts _ mf_X5_9) rfl hin rfl (by decide +kernel) rfl rfl dX5_init_9 (fun r1 H locs hr1 hP hz1 hS => ?_)
  have hz := hz1.trans hz
  have hZ := hZ.r hr1 (by omega)
  have hBt : Bt o (o + 2) v r v r1 := by
      subst hr1
      refine ⟨fun a ha => ⟨rfl, up2_of _ _ _ _ (by omega)⟩, fun a h1 h2 => ?_, hZ⟩
      have hc : a = o ∨ a = o + 1 := by omega
      have hlo := ho.lt (by decide)
      rcases hc with rfl | rfl
      · refine ⟨hv0.trans (iv_n hlo (by rw [ho.2]; decide)).symm, ?_⟩
        funext k
        simp only [up2, if_true, rf, ho.2, hr0, n0]
      · have q := (ch5_0 ho).2.1
        have hb : ∀ o, o < 874 → kd o = 5 → o + 1 < 816 := by decide +kernel
        have := row0 (v := v) (r := up2 r o 0 (some (o + 1))) (hb o ho.1 ho.2) (Or.inl q.2) (hZ0 _ (by omega)).1 ((up2_of _ _ _ _ (by omega)).trans (hZ0 _ (by omega)).2)
        exact this
  refine W.widen (k := 1) (n := 17) (by decide) (by decide) ?_
  exact W.vret hx hb hr (fun t ht hW => ⟨⟨(v, r1), rfl, hBt, by rw [ht]; exact hz, by rw [ht]; exact hP, va_K.moved hW.alike hK, hX.warm hW⟩, hS.F ht⟩) hS.2.2 dX5_init_12
set_option maxHeartbeats 4000000 in
set_option maxRecDepth 100000 in
/-- TransportFour$UrgentIn() -/
theorem ct6 (l : Launch) (dC : Nat → ClassId) (dI : Nat → Nat → Nat) (base : Nat) (cy : Nat → ClassId) (o : Nat) (v : VV) (r : RR) (ho : isO 6 o) (hZ0 : Zr (o + 1) v r) (hv0 : v o = z0) (hr0 : r o = n0) : CC l yX6_init (.code yX6_init cX6_init 1 none :: TB) { frames := 1, cells := 1, slots := 512, locals := 12 } dC dI base cy [.ref (base + o)] (o + 1) v r (o + 2) 1 512 (fun v' r' => Bt o (o + 2) v r v' r') := by
  refine Met.ofW (cc := cX6_init) (maxL := 1) (ret := none) (by decide) rfl ?_
  intro p e s m args below meth c s₁ B hml hv
  obtain ⟨rfl, hz, hP, hK, hX⟩ := hv
  have hx := B.exec
  have hb := B.bytes
  have hr := B.returns
  have hts0 := atoms_spec (ws := (.code yX6_init cX6_init 1 none :: TB)) B.pre
  have hts : ∀ w ∈ TB, w.before ([.ref (base + o)]).toArray s = true := fun w h => hts0 w (List.mem_cons_of_mem _ h)
  have hown : s.vm.findClass RX6 = some m.cls := findClass_of_methodNamed B.named
  have hlocks := B.notSynchronized
  have hin : meth.name = "<init>" := (name_of_methodNamed B.named B.method).1
  have hS : va_S (fun q => base ≤ q) s.heap s.heap [] := va_S.rf
  have hZ := hZ0
  have hl := lv_entry ([.ref (base + o)]) (n := 1) (Nat.le_of_ble_eq_true rfl)
  rw [lg_entry_eq]
  generalize (lg_sl ([.ref (base + o)]) ++ List.replicate (1 - (lg_sl ([.ref (base + o)])).length) Slot.unset).toArray = ls at hl ⊢
  have hl : lv_has ls 1 [(0, .ref (base + o))] := hl
  refine lv_aload_n hx hb dX6_init_0 rfl (lv_at hl 0 rfl) ?_
  refine W.objInit hx hb hown (hts _ ml_X6_3) (hts _ mi_obj) (hts _ mo_obj) rfl (by rw [hml]; exact hl.1) rfl dX6_init_1 (Nat.le_of_ble_eq_true rfl) (Nat.le_of_ble_eq_true rfl) ?_
  refine W.eq (g2 := F0 m 4 ls []) rfl ?_
  refine lv_aload_n hx hb dX6_init_4 rfl (lv_at hl 0 rfl) ?_
  refine lv_sipush (v := 512) hx hb dX6_init_5 (by decide) ?_
  refine w_newa (ty := .int) (n := o + 1) (q0 := 0) (ki := 11) (N := 512) hx hb rfl (by decide) rfl raI rfl (hts _ ma_int) hK hP hz hS hZ ((ch6_0 ho).2.1) ((ch6_0 ho).2.2) (by decide) (by decide) (by decide) (by decide) (by decide) dX6_init_8 (fun H hP hz hS hZ => ?_)
  have hP : va_P (dC, dI) vwCl (Wd base cy r v (o + 2)) H := hP
  have hz : H.size = base + (o + 2) := hz
  have hZ : Zr (o + 2) v r := hZ
  refine w_pRF (ty := (.array .int)) (C := RX6) (T := TX6) (N := 4) (ci := 6) hx hb hts in6 tyX6 tyX6_ok nmX6 hown hK hP hS 0 (by omega) ho rfl (by decide) (hts _ mf_X6_9) rfl hin rfl (by decide +kernel) rfl rfl dX6_init_10 (fun r1 H locs hr1 hP hz1 hS => ?_)
  have hz := hz1.trans hz
  have hZ := hZ.r hr1 (by omega)
  have hBt : Bt o (o + 2) v r v r1 := by
      subst hr1
      refine ⟨fun a ha => ⟨rfl, up2_of _ _ _ _ (by omega)⟩, fun a h1 h2 => ?_, hZ⟩
      have hc : a = o ∨ a = o + 1 := by omega
      have hlo := ho.lt (by decide)
      rcases hc with rfl | rfl
      · refine ⟨hv0.trans (iv_n hlo (by rw [ho.2]; decide)).symm, ?_⟩
        funext k
        simp only [up2, if_true, rf, ho.2, hr0, n0]
      · have q := (ch6_0 ho).2.1
        have hb : ∀ o, o < 874 → kd o = 6 → o + 1 < 816 := by decide +kernel
        have := row0 (v := v) (r := up2 r o 0 (some (o + 1))) (hb o ho.1 ho.2) (Or.inl q.2) (hZ0 _ (by omega)).1 ((up2_of _ _ _ _ (by omega)).trans (hZ0 _ (by omega)).2)
        exact this
  refine W.widen (k := 1) (n := 512) (by decide) (by decide) ?_
  exact W.vret hx hb hr (fun t ht hW => ⟨⟨(v, r1), rfl, hBt, by rw [ht]; exact hz, by rw [ht]; exact hP, va_K.moved hW.alike hK, hX.warm hW⟩, hS.F ht⟩) hS.2.2 dX6_init_13
set_option maxHeartbeats 4000000 in
set_option maxRecDepth 100000 in
/-- TransportFour$Piece() -/
theorem ct4 (l : Launch) (dC : Nat → ClassId) (dI : Nat → Nat → Nat) (base : Nat) (cy : Nat → ClassId) (o : Nat) (v : VV) (r : RR) (ho : isO 4 o) (hZ0 : Zr (o + 1) v r) (hv0 : v o = z0) (hr0 : r o = n0) : CC l yX4_init (.code yX4_init cX4_init 1 none :: TB) { frames := 2, cells := 2, slots := 10, locals := 32 } dC dI base cy [.ref (base + o)] (o + 1) v r (o + 3) 2 10 (fun v' r' => Bt o (o + 3) v r v' r') := by
  refine Met.ofW (cc := cX4_init) (maxL := 1) (ret := none) (by decide) rfl ?_
  intro p e s m args below meth c s₁ B hml hv
  obtain ⟨rfl, hz, hP, hK, hX⟩ := hv
  have hx := B.exec
  have hb := B.bytes
  have hr := B.returns
  have hts0 := atoms_spec (ws := (.code yX4_init cX4_init 1 none :: TB)) B.pre
  have hts : ∀ w ∈ TB, w.before ([.ref (base + o)]).toArray s = true := fun w h => hts0 w (List.mem_cons_of_mem _ h)
  have hown : s.vm.findClass RX4 = some m.cls := findClass_of_methodNamed B.named
  have hlocks := B.notSynchronized
  have hin : meth.name = "<init>" := (name_of_methodNamed B.named B.method).1
  have hS : va_S (fun q => base ≤ q) s.heap s.heap [] := va_S.rf
  have hZ := hZ0
  have hl := lv_entry ([.ref (base + o)]) (n := 1) (Nat.le_of_ble_eq_true rfl)
  rw [lg_entry_eq]
  generalize (lg_sl ([.ref (base + o)]) ++ List.replicate (1 - (lg_sl ([.ref (base + o)])).length) Slot.unset).toArray = ls at hl ⊢
  have hl : lv_has ls 1 [(0, .ref (base + o))] := hl
  refine lv_aload_n hx hb dX4_init_0 rfl (lv_at hl 0 rfl) ?_
  refine W.objInit hx hb hown (hts _ ml_X4_3) (hts _ mi_obj) (hts _ mo_obj) rfl (by rw [hml]; exact hl.1) rfl dX4_init_1 (Nat.le_of_ble_eq_true rfl) (Nat.le_of_ble_eq_true rfl) ?_
  refine W.eq (g2 := F0 m 4 ls []) rfl ?_
  refine lv_aload_n hx hb dX4_init_4 rfl (lv_at hl 0 rfl) ?_
  refine lv_bipush (v := 8) hx hb dX4_init_5 (by decide) ?_
  refine w_newa (ty := .int) (n := o + 1) (q0 := 0) (ki := 11) (N := 8) hx hb rfl (by decide) rfl raI rfl (hts _ ma_int) hK hP hz hS hZ ((ch4_0 ho).2.1) ((ch4_0 ho).2.2) (by decide) (by decide) (by decide) (by decide) (by decide) dX4_init_7 (fun H hP hz hS hZ => ?_)
  have hP : va_P (dC, dI) vwCl (Wd base cy r v (o + 2)) H := hP
  have hz : H.size = base + (o + 2) := hz
  have hZ : Zr (o + 2) v r := hZ
  refine w_pRF (ty := (.array .int)) (C := RX4) (T := TX4) (N := 4) (ci := 4) hx hb hts in4 tyX4 tyX4_ok nmX4 hown hK hP hS 0 (by omega) ho rfl (by decide) (hts _ mf_X4_9) rfl hin rfl (by decide +kernel) rfl rfl dX4_init_9 (fun r1 H locs hr1 hP hz1 hS => ?_)
  have hz := hz1.trans hz
  have hZ := hZ.r hr1 (by omega)
  refine lv_aload_n hx hb dX4_init_12 rfl (lv_at hl 0 rfl) ?_
  refine w_new (n := o + 2) (C := RX8) (T := TX8) (N := 2) (ci := 8) hx hb hts in8 tyX8 tyX8_ok hown (hts _ mc_X4_15) (hts _ ms_X8) (hts _ mn_X8) hK hP hz hS hZ rfl ((ch4_1 ho).2) (by decide) dvX8 (by decide) (by decide) dX4_init_13 (fun H hP hz hS hZ => ?_)
  have hP : va_P (dC, dI) vwCl (Wd base cy r1 v (o + 3)) H := hP
  have hz : H.size = base + (o + 3) := hz
  have hZ : Zr (o + 3) v r1 := hZ
  refine lv_dup hx hb dX4_init_16 rfl ?_
  refine k_CN (As := []) (rest := [.ref (base + (o + 2)), .ref (base + o)]) (n' := o + 3) ⟨hx, hb, hml, hown, hts⟩ (ct8 l dC dI base cy (o + 2) v r1 (ch4_1 ho).2 hZ (hZ0 _ (by omega)).1 (by rw [hr1, up2_of _ _ _ _ (by omega)]; exact (hZ0 _ (by omega)).2)) ⟨va_cnB (host := hst) 0 hts (gI mo_X8_init) rfl rfl rfl hX.2.2.2.2.2.2.2.1 (hts _ mn_X8) (by decide +kernel) ⟨by decide, by decide⟩, rfl, hts _ mi_X8_init⟩ hK hX hP hz hS rfl hl.1 rfl (Nat.le_of_ble_eq_true rfl) dX4_init_17 ⟨(by decide), (by decide)⟩ (fun v2 r3 H locs hB hP hz hS => ?_)
  have hZ := hB.2.2
  have hB1 := hB
  refine w_pRF (ty := (.object "TransportFour$Wait")) (C := RX4) (T := TX4) (N := 4) (ci := 4) hx hb hts in4 tyX4 tyX4_ok nmX4 hown hK hP hS 1 (by omega) ho rfl (by decide) (hts _ mf_X4_18) rfl hin rfl (by decide +kernel) rfl rfl dX4_init_20 (fun r4 H locs hr4 hP hz1 hS => ?_)
  have hz := hz1.trans hz
  have hZ := hZ.r hr4 (by omega)
  have hBt : Bt o (o + 3) v r v2 r4 := by
    have e1 : ∀ a, a < o + 2 → v2 a = v a := fun a ha => (hB1.1 a ha).1
    have e2 : ∀ a, a < o + 2 → r3 a = r1 a := fun a ha => (hB1.1 a ha).2
    have hlo := ho.lt (by decide)
    have hb : ∀ o, o < 874 → kd o = 4 → o + 2 < 816 := by decide +kernel
    have hb := hb o ho.1 ho.2
    refine ⟨fun a ha => ⟨e1 a (by omega), by rw [hr4, up2_of _ _ _ _ (by omega), e2 a (by omega), hr1, up2_of _ _ _ _ (by omega)]⟩, fun a h1 h2 => ?_, hZ⟩
    have hc : a = o ∨ a = o + 1 ∨ a = o + 2 := by omega
    rcases hc with rfl | rfl | rfl
    · refine ⟨(e1 a (by omega)).trans (hv0.trans (iv_n hlo (by rw [ho.2]; decide)).symm), ?_⟩
      have e3 := e2 a (by omega)
      funext k
      rw [hr4]
      simp only [up2, if_true, rf, ho.2, e3, hr1, hr0, n0]
      by_cases k0 : k = 0
      · subst k0; rfl
      · by_cases k1 : k = 1
        · subst k1; rfl
        · simp [k0, k1]
    · exact row0 (by omega) (Or.inl (ch4_0 ho).2.1.2) ((e1 _ (by omega)).trans (hZ0 _ (by omega)).1) (by rw [hr4, up2_of _ _ _ _ (by omega), e2 _ (by omega), hr1, up2_of _ _ _ _ (by omega)]; exact (hZ0 _ (by omega)).2)
    · have q := hB1.2.1 (o + 2) (by omega) (by omega)
      exact ⟨q.1, by rw [hr4, up2_of _ _ _ _ (by omega)]; exact q.2⟩
  refine W.widen (k := 2) (n := 10) (by decide) (by decide) ?_
  exact W.vret hx hb hr (fun t ht hW => ⟨⟨(v2, r4), rfl, hBt, by rw [ht]; exact hz, by rw [ht]; exact hP, va_K.moved hW.alike hK, hX.warm hW⟩, hS.F ht⟩) hS.2.2 dX4_init_23
set_option maxHeartbeats 4000000 in
set_option maxRecDepth 100000 in
/-- TransportFour$UrgentOut() -/
theorem ct7 (l : Launch) (dC : Nat → ClassId) (dI : Nat → Nat → Nat) (base : Nat) (cy : Nat → ClassId) (o : Nat) (v : VV) (r : RR) (ho : isO 7 o) (hZ0 : Zr (o + 1) v r) (hv0 : v o = z0) (hr0 : r o = n0) : CC l yX7_init (.code yX7_init cX7_init 1 none :: TB) { frames := 2, cells := 2, slots := 10, locals := 32 } dC dI base cy [.ref (base + o)] (o + 1) v r (o + 3) 2 10 (fun v' r' => Bt o (o + 3) v r v' r') := by
  refine Met.ofW (cc := cX7_init) (maxL := 1) (ret := none) (by decide) rfl ?_
  intro p e s m args below meth c s₁ B hml hv
  obtain ⟨rfl, hz, hP, hK, hX⟩ := hv
  have hx := B.exec
  have hb := B.bytes
  have hr := B.returns
  have hts0 := atoms_spec (ws := (.code yX7_init cX7_init 1 none :: TB)) B.pre
  have hts : ∀ w ∈ TB, w.before ([.ref (base + o)]).toArray s = true := fun w h => hts0 w (List.mem_cons_of_mem _ h)
  have hown : s.vm.findClass RX7 = some m.cls := findClass_of_methodNamed B.named
  have hlocks := B.notSynchronized
  have hin : meth.name = "<init>" := (name_of_methodNamed B.named B.method).1
  have hS : va_S (fun q => base ≤ q) s.heap s.heap [] := va_S.rf
  have hZ := hZ0
  have hl := lv_entry ([.ref (base + o)]) (n := 1) (Nat.le_of_ble_eq_true rfl)
  rw [lg_entry_eq]
  generalize (lg_sl ([.ref (base + o)]) ++ List.replicate (1 - (lg_sl ([.ref (base + o)])).length) Slot.unset).toArray = ls at hl ⊢
  have hl : lv_has ls 1 [(0, .ref (base + o))] := hl
  refine lv_aload_n hx hb dX7_init_0 rfl (lv_at hl 0 rfl) ?_
  refine W.objInit hx hb hown (hts _ ml_X7_3) (hts _ mi_obj) (hts _ mo_obj) rfl (by rw [hml]; exact hl.1) rfl dX7_init_1 (Nat.le_of_ble_eq_true rfl) (Nat.le_of_ble_eq_true rfl) ?_
  refine W.eq (g2 := F0 m 4 ls []) rfl ?_
  refine lv_aload_n hx hb dX7_init_4 rfl (lv_at hl 0 rfl) ?_
  refine lv_bipush (v := 8) hx hb dX7_init_5 (by decide) ?_
  refine w_newa (ty := .int) (n := o + 1) (q0 := 0) (ki := 11) (N := 8) hx hb rfl (by decide) rfl raI rfl (hts _ ma_int) hK hP hz hS hZ ((ch7_0 ho).2.1) ((ch7_0 ho).2.2) (by decide) (by decide) (by decide) (by decide) (by decide) dX7_init_7 (fun H hP hz hS hZ => ?_)
  have hP : va_P (dC, dI) vwCl (Wd base cy r v (o + 2)) H := hP
  have hz : H.size = base + (o + 2) := hz
  have hZ : Zr (o + 2) v r := hZ
  refine w_pRF (ty := (.array .int)) (C := RX7) (T := TX7) (N := 4) (ci := 7) hx hb hts in7 tyX7 tyX7_ok nmX7 hown hK hP hS 0 (by omega) ho rfl (by decide) (hts _ mf_X7_9) rfl hin rfl (by decide +kernel) rfl rfl dX7_init_9 (fun r1 H locs hr1 hP hz1 hS => ?_)
  have hz := hz1.trans hz
  have hZ := hZ.r hr1 (by omega)
  refine lv_aload_n hx hb dX7_init_12 rfl (lv_at hl 0 rfl) ?_
  refine w_new (n := o + 2) (C := RX8) (T := TX8) (N := 2) (ci := 8) hx hb hts in8 tyX8 tyX8_ok hown (hts _ mc_X7_15) (hts _ ms_X8) (hts _ mn_X8) hK hP hz hS hZ rfl ((ch7_1 ho).2) (by decide) dvX8 (by decide) (by decide) dX7_init_13 (fun H hP hz hS hZ => ?_)
  have hP : va_P (dC, dI) vwCl (Wd base cy r1 v (o + 3)) H := hP
  have hz : H.size = base + (o + 3) := hz
  have hZ : Zr (o + 3) v r1 := hZ
  refine lv_dup hx hb dX7_init_16 rfl ?_
  refine k_CN (As := []) (rest := [.ref (base + (o + 2)), .ref (base + o)]) (n' := o + 3) ⟨hx, hb, hml, hown, hts⟩ (ct8 l dC dI base cy (o + 2) v r1 (ch7_1 ho).2 hZ (hZ0 _ (by omega)).1 (by rw [hr1, up2_of _ _ _ _ (by omega)]; exact (hZ0 _ (by omega)).2)) ⟨va_cnB (host := hst) 0 hts (gI mo_X8_init) rfl rfl rfl hX.2.2.2.2.2.2.2.2 (hts _ mn_X8) (by decide +kernel) ⟨by decide, by decide⟩, rfl, hts _ mi_X8_init⟩ hK hX hP hz hS rfl hl.1 rfl (Nat.le_of_ble_eq_true rfl) dX7_init_17 ⟨(by decide), (by decide)⟩ (fun v2 r3 H locs hB hP hz hS => ?_)
  have hZ := hB.2.2
  have hB1 := hB
  refine w_pRF (ty := (.object "TransportFour$Wait")) (C := RX7) (T := TX7) (N := 4) (ci := 7) hx hb hts in7 tyX7 tyX7_ok nmX7 hown hK hP hS 1 (by omega) ho rfl (by decide) (hts _ mf_X7_18) rfl hin rfl (by decide +kernel) rfl rfl dX7_init_20 (fun r4 H locs hr4 hP hz1 hS => ?_)
  have hz := hz1.trans hz
  have hZ := hZ.r hr4 (by omega)
  have hBt : Bt o (o + 3) v r v2 r4 := by
    have e1 : ∀ a, a < o + 2 → v2 a = v a := fun a ha => (hB1.1 a ha).1
    have e2 : ∀ a, a < o + 2 → r3 a = r1 a := fun a ha => (hB1.1 a ha).2
    have hlo := ho.lt (by decide)
    have hb : ∀ o, o < 874 → kd o = 7 → o + 2 < 816 := by decide +kernel
    have hb := hb o ho.1 ho.2
    refine ⟨fun a ha => ⟨e1 a (by omega), by rw [hr4, up2_of _ _ _ _ (by omega), e2 a (by omega), hr1, up2_of _ _ _ _ (by omega)]⟩, fun a h1 h2 => ?_, hZ⟩
    have hc : a = o ∨ a = o + 1 ∨ a = o + 2 := by omega
    rcases hc with rfl | rfl | rfl
    · refine ⟨(e1 a (by omega)).trans (hv0.trans (iv_n hlo (by rw [ho.2]; decide)).symm), ?_⟩
      have e3 := e2 a (by omega)
      funext k
      rw [hr4]
      simp only [up2, if_true, rf, ho.2, e3, hr1, hr0, n0]
      by_cases k0 : k = 0
      · subst k0; rfl
      · by_cases k1 : k = 1
        · subst k1; rfl
        · simp [k0, k1]
    · exact row0 (by omega) (Or.inl (ch7_0 ho).2.1.2) ((e1 _ (by omega)).trans (hZ0 _ (by omega)).1) (by rw [hr4, up2_of _ _ _ _ (by omega), e2 _ (by omega), hr1, up2_of _ _ _ _ (by omega)]; exact (hZ0 _ (by omega)).2)
    · have q := hB1.2.1 (o + 2) (by omega) (by omega)
      exact ⟨q.1, by rw [hr4, up2_of _ _ _ _ (by omega)]; exact q.2⟩
  refine W.widen (k := 2) (n := 10) (by decide) (by decide) ?_
  exact W.vret hx hb hr (fun t ht hW => ⟨⟨(v2, r4), rfl, hBt, by rw [ht]; exact hz, by rw [ht]; exact hP, va_K.moved hW.alike hK, hX.warm hW⟩, hS.F ht⟩) hS.2.2 dX7_init_23
