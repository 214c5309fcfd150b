set_option maxHeartbeats 4000000 in
set_option maxRecDepth 100000 in
/-- End.beginConnection(CALLING, 0) at the first connection -/
theorem c0_begin0 (l : Launch) (dC : Nat → ClassId) (dI : Nat → Nat → Nat) (base : Nat) (cy : Nat → ClassId) (o : Nat) (ho : isO 0 o) (v : VV) (h9 : v o 9 = 0) : CV l yX0_beginConnection (.code yX0_beginConnection cX0_beginConnection 3 none :: TB) { frames := 2, cells := 0, slots := 0, locals := 41 } dC dI base cy [.ref (base + o), .int 1, .int 0] v (fun v' : VV => Fr (fun a => o ≤ a ∧ a < o + 146) v v' ∧ v' o 9 = 1 ∧ v' o 0 = v o 0) := by
  refine Met.ofW (cc := cX0_beginConnection) (maxL := 3) (ret := none) (by decide) rfl ?_
  intro p e s m args below meth c s₁ B hml hv
  obtain ⟨rfl, hP, hK⟩ := hv
  have hx := B.exec
  have hb := B.bytes
  have hr := B.returns
  have hts0 := atoms_spec (ws := (.code yX0_beginConnection cX0_beginConnection 3 none :: TB)) B.pre
  have hts : ∀ w ∈ TB, w.before ([.ref (base + o), .int 1, .int 0]).toArray s = true := fun w h => hts0 w (List.mem_cons_of_mem _ h)
  have hown : s.vm.findClass RX0 = some m.cls := findClass_of_methodNamed B.named
  have hlocks := B.notSynchronized
  have hS : va_S (fun q => base ≤ q) s.heap s.heap [] := va_S.rf
  have hl := lv_entry ([.ref (base + o), .int 1, .int 0]) (n := 3) (Nat.le_of_ble_eq_true rfl)
  rw [lg_entry_eq]
  generalize (lg_sl ([.ref (base + o), .int 1, .int 0]) ++ List.replicate (3 - (lg_sl ([.ref (base + o), .int 1, .int 0])).length) Slot.unset).toArray = ls at hl ⊢
  have hl : lv_has ls 3 [(0, .ref (base + o)), (1, .int 1), (2, .int 0)] := hl
  refine lv_aload_n hx hb dX0_beginConnection_0 rfl (lv_at hl 0 rfl) ?_
  have q1 := ch0_2 ho
  refine w_gR (C := RX0) (T := TX0) (N := 15) (ci := 0) hx hb hts in0 hown hK hP 2 ho.1 ho rfl (by decide) q1.1 (hts _ mf_X0_12) dX0_beginConnection_1 ?_
  refine k_V (As := []) (rest := []) ⟨hx, hb, hml, hown, hts⟩ (c3_clear l dC dI base cy (o + 1) (ch0_2 ho).2 v) (cwV 0 hts (gV ml_X0_74 mi_X3_clear mx_X3_clear mn_X3 mo_X3_clear) rfl rfl rfl (by decide +kernel) ⟨by decide, by decide⟩) hK hP hS q1.2 (by decide) rfl rfl hl.1 rfl (Nat.le_of_ble_eq_true rfl) dX0_beginConnection_4 ⟨Nat.zero_le _, Nat.zero_le _⟩ (fun v2 H locs hv2 hP hS => ?_)
  have eb := endB o ho.1 ho.2
  have g1 : Fr (fun a => o < a ∧ a < o + 146) v v2 := by
    rw [hv2]
    repeat (first | exact Fr.rf | refine Fr.up ?_ _ _ _ (by omega))
  refine lv_aload_n hx hb dX0_beginConnection_7 rfl (lv_at hl 0 rfl) ?_
  have q3 := ch0_3 ho
  refine w_gR (C := RX0) (T := TX0) (N := 15) (ci := 0) hx hb hts in0 hown hK hP 3 ho.1 ho rfl (by decide) q3.1 (hts _ mf_X0_21) dX0_beginConnection_8 ?_
  refine k_V (As := []) (rest := []) ⟨hx, hb, hml, hown, hts⟩ (c1_clear l dC dI base cy (o + 123) (ch0_3 ho).2 v2) (cwV 0 hts (gV ml_X0_77 mi_X1_clear mx_X1_clear mn_X1 mo_X1_clear) rfl rfl rfl (by decide +kernel) ⟨by decide, by decide⟩) hK hP hS q3.2 (by decide) rfl rfl hl.1 rfl (Nat.le_of_ble_eq_true rfl) dX0_beginConnection_11 ⟨Nat.zero_le _, Nat.zero_le _⟩ (fun v4 H locs hv4 hP hS => ?_)
  have g2 : Fr (fun a => o < a ∧ a < o + 146) v v4 := g1.tr (hv4.w (fun a h => by omega))
  refine lv_aload_n hx hb dX0_beginConnection_14 rfl (lv_at hl 0 rfl) ?_
  have q5 := ch0_4 ho
  refine w_gR (C := RX0) (T := TX0) (N := 15) (ci := 0) hx hb hts in0 hown hK hP 4 ho.1 ho rfl (by decide) q5.1 (hts _ mf_X0_28) dX0_beginConnection_15 ?_
  refine k_V (As := []) (rest := []) ⟨hx, hb, hml, hown, hts⟩ (c7_clear l dC dI base cy (o + 140) (ch0_4 ho).2 v4) (cwV 0 hts (gV ml_X0_78 mi_X7_clear mx_X7_clear mn_X7 mo_X7_clear) rfl rfl rfl (by decide +kernel) ⟨by decide, by decide⟩) hK hP hS q5.2 (by decide) rfl rfl hl.1 rfl (Nat.le_of_ble_eq_true rfl) dX0_beginConnection_18 ⟨Nat.zero_le _, Nat.zero_le _⟩ (fun v6 H locs hv6 hP hS => ?_)
  have g3 : Fr (fun a => o < a ∧ a < o + 146) v v6 := by
    refine g2.tr ?_
    rw [hv6]
    repeat (first | exact Fr.rf | refine Fr.up ?_ _ _ _ (by omega))
  refine lv_aload_n hx hb dX0_beginConnection_21 rfl (lv_at hl 0 rfl) ?_
  have q7 := ch0_5 ho
  refine w_gR (C := RX0) (T := TX0) (N := 15) (ci := 0) hx hb hts in0 hown hK hP 5 ho.1 ho rfl (by decide) q7.1 (hts _ mf_X0_35) dX0_beginConnection_22 ?_
  refine k_V (As := []) (rest := []) ⟨hx, hb, hml, hown, hts⟩ (c6_clear l dC dI base cy (o + 143) (ch0_5 ho).2 v6) (cwV 0 hts (gV ml_X0_79 mi_X6_clear mx_X6_clear mn_X6 mo_X6_clear) rfl rfl rfl (by decide +kernel) ⟨by decide, by decide⟩) hK hP hS q7.2 (by decide) rfl rfl hl.1 rfl (Nat.le_of_ble_eq_true rfl) dX0_beginConnection_25 ⟨Nat.zero_le _, Nat.zero_le _⟩ (fun v8 H locs hv8 hP hS => ?_)
  have g4 : Fr (fun a => o < a ∧ a < o + 146) v v8 := by
    refine g3.tr ?_
    rw [hv8]
    repeat (first | exact Fr.rf | refine Fr.up ?_ _ _ _ (by omega))
  have go : v8 o = v o := g4 o (by omega)
  refine lv_aload_n hx hb dX0_beginConnection_28 rfl (lv_at hl 0 rfl) ?_
  refine lv_aload_n hx hb dX0_beginConnection_29 rfl (lv_at hl 0 rfl) ?_
  refine w_gI (C := RX0) (T := TX0) (N := 15) (ci := 0) hx hb hts in0 hown hK hP 9 ho.1 ho rfl (by decide) (hts _ mf_X0_71) dX0_beginConnection_30 ?_
  refine lv_topi (fun x30 ex30 => ?_)
  refine lv_ldc (v := 65535) hx hb hown (hts _ mk_X0_80) dX0_beginConnection_33 ?_
  refine lv_icmp_ne (tgt := 42) hx hb dX0_beginConnection_35 (by decide) (fun c35 => ?_) (fun c35 => ?_)
  · refine lv_aload_n hx hb dX0_beginConnection_42 rfl (lv_at hl 0 rfl) ?_
    refine w_gI (C := RX0) (T := TX0) (N := 15) (ci := 0) hx hb hts in0 hown hK hP 9 ho.1 ho rfl (by decide) (hts _ mf_X0_71) dX0_beginConnection_43 ?_
    refine lv_topi (fun x43 ex43 => ?_)
    refine lv_iconst (v := 1) hx hb dX0_beginConnection_46 (by decide) ?_
    refine lv_iadd hx hb dX0_beginConnection_47 ?_
    refine lv_topi (fun x47 ex47 => ?_)
    refine w_pI (C := RX0) (T := TX0) (N := 15) (ci := 0) hx hb hts in0 tyX0 tyX0_ok nmX0 hown hK hP hS 9 ho.1 ho rfl (by decide) (hts _ mf_X0_71) rfl (ty := .int) (by decide +kernel) rfl rfl dX0_beginConnection_48 (fun v9 H locs hv9 hP hz hS => ?_)
    refine lv_aload_n hx hb dX0_beginConnection_51 rfl (lv_at hl 0 rfl) ?_
    refine lv_iload_n hx hb dX0_beginConnection_52 rfl (lv_at hl 2 rfl) ?_
    refine w_pI (C := RX0) (T := TX0) (N := 15) (ci := 0) hx hb hts in0 tyX0 tyX0_ok nmX0 hown hK hP hS 10 ho.1 ho rfl (by decide) (hts _ mf_X0_81) rfl (ty := .int) (by decide +kernel) rfl rfl dX0_beginConnection_53 (fun v10 H locs hv10 hP hz hS => ?_)
    refine lv_aload_n hx hb dX0_beginConnection_56 rfl (lv_at hl 0 rfl) ?_
    refine lv_iconst (v := -1) hx hb dX0_beginConnection_57 (by decide) ?_
    refine w_pI (C := RX0) (T := TX0) (N := 15) (ci := 0) hx hb hts in0 tyX0 tyX0_ok nmX0 hown hK hP hS 11 ho.1 ho rfl (by decide) (hts _ mf_X0_46) rfl (ty := .int) (by decide +kernel) rfl rfl dX0_beginConnection_58 (fun v11 H locs hv11 hP hz hS => ?_)
    refine lv_aload_n hx hb dX0_beginConnection_61 rfl (lv_at hl 0 rfl) ?_
    refine lv_iload_n hx hb dX0_beginConnection_62 rfl (lv_at hl 1 rfl) ?_
    refine lv_iconst (v := 2) hx hb dX0_beginConnection_63 (by decide) ?_
    refine lv_icmp_ne (tgt := 71) hx hb dX0_beginConnection_64 (by decide) (fun c64 => ?_) (fun c64 => ?_)
    · refine lv_iconst (v := 0) hx hb dX0_beginConnection_71 (by decide) ?_
      refine w_pI (C := RX0) (T := TX0) (N := 15) (ci := 0) hx hb hts in0 tyX0 tyX0_ok nmX0 hown hK hP hS 12 ho.1 ho rfl (by decide) (hts _ mf_X0_84) rfl (ty := .boolean) (by decide +kernel) rfl rfl dX0_beginConnection_72 (fun v12 H locs hv12 hP hz hS => ?_)
      refine lv_aload_n hx hb dX0_beginConnection_75 rfl (lv_at hl 0 rfl) ?_
      refine lv_aload_n hx hb dX0_beginConnection_76 rfl (lv_at hl 0 rfl) ?_
      have q13 := ch0_1 ho
      refine w_gR (C := RX0) (T := TX0) (N := 15) (ci := 0) hx hb hts in0 hown hK hP 1 ho.1 ho rfl (by decide) q13.1 (hts _ mf_X0_53) dX0_beginConnection_77 ?_
      refine w_gI (C := RX2) (T := TX2) (N := 11) (ci := 2) hx hb hts in2 hown hK hP 10 q13.2.1 q13.2 rfl (by decide) (hts _ mf_X0_88) dX0_beginConnection_80 ?_
      refine lv_topi (fun x80 ex80 => ?_)
      refine w_pI (C := RX0) (T := TX0) (N := 15) (ci := 0) hx hb hts in0 tyX0 tyX0_ok nmX0 hown hK hP hS 13 ho.1 ho rfl (by decide) (hts _ mf_X0_93) rfl (ty := .int) (by decide +kernel) rfl rfl dX0_beginConnection_83 (fun v14 H locs hv14 hP hz hS => ?_)
      refine lv_aload_n hx hb dX0_beginConnection_86 rfl (lv_at hl 0 rfl) ?_
      refine lv_iload_n hx hb dX0_beginConnection_87 rfl (lv_at hl 1 rfl) ?_
      refine w_pI (C := RX0) (T := TX0) (N := 15) (ci := 0) hx hb hts in0 tyX0 tyX0_ok nmX0 hown hK hP hS 8 ho.1 ho rfl (by decide) (hts _ mf_X0_57) rfl (ty := .int) (by decide +kernel) rfl rfl dX0_beginConnection_88 (fun v15 H locs hv15 hP hz hS => ?_)
      exact W.vret hx hb hr (fun t ht hW => ⟨⟨v15, rfl, by
          subst hv15 hv14 hv12 hv11 hv10 hv9
          refine ⟨(g4.w (fun a h => by omega)).tr (by repeat (first | exact Fr.rf | refine Fr.up ?_ _ _ _ (by omega))), ?_, ?_⟩
          · rw [up2_k _ _ _ _ (by decide), up2_k _ _ _ _ (by decide), up2_k _ _ _ _ (by decide), up2_k _ _ _ _ (by decide), up2_k _ _ _ _ (by decide), up2_s, ex47, ex43, go, h9]; rfl
          · rw [up2_k _ _ _ _ (by decide), up2_k _ _ _ _ (by decide), up2_k _ _ _ _ (by decide), up2_k _ _ _ _ (by decide), up2_k _ _ _ _ (by decide), up2_k _ _ _ _ (by decide), go], by rw [ht]; exact hP, va_K.moved hW.alike hK⟩, hS.F ht⟩) hS.2.2 dX0_beginConnection_91
    · exact absurd c64 (by decide)
  · exact absurd c35 (by rw [ex30, go, h9]; decide)
set_option maxHeartbeats 4000000 in
set_option maxRecDepth 100000 in
/-- End.callPeer() on a new object -/
theorem c0_callPeer0 (l : Launch) (dC : Nat → ClassId) (dI : Nat → Nat → Nat) (base : Nat) (cy : Nat → ClassId) (o : Nat) (ho : isO 0 o) (v : VV) (hf : Fc v) : CI l yX0_callPeer (.code yX0_callPeer cX0_callPeer 1 (some .int) :: TB) { frames := 4, cells := 0, slots := 0, locals := 94 } dC dI base cy [.ref (base + o)] v (fun (x : Int32) (v' : VV) => x = 1 ∧ Fr (fun a => a < 816) v v') := by
  refine Met.ofW (cc := cX0_callPeer) (maxL := 1) (ret := (some .int)) (by decide) rfl ?_
  intro p e s m args below meth c s₁ B hml hv
  obtain ⟨rfl, hP, hK⟩ := hv
  have hx := B.exec
  have hb := B.bytes
  have hr := B.returns
  have hts0 := atoms_spec (ws := (.code yX0_callPeer cX0_callPeer 1 (some .int) :: TB)) B.pre
  have hts : ∀ w ∈ TB, w.before ([.ref (base + o)]).toArray s = true := fun w h => hts0 w (List.mem_cons_of_mem _ h)
  have hown : s.vm.findClass RX0 = some m.cls := findClass_of_methodNamed B.named
  have hlocks := B.notSynchronized
  have hS : va_S (fun q => base ≤ q) s.heap s.heap [] := va_S.rf
  have hl := lv_entry ([.ref (base + o)]) (n := 1) (Nat.le_of_ble_eq_true rfl)
  rw [lg_entry_eq]
  generalize (lg_sl ([.ref (base + o)]) ++ List.replicate (1 - (lg_sl ([.ref (base + o)])).length) Slot.unset).toArray = ls at hl ⊢
  have hl : lv_has ls 1 [(0, .ref (base + o))] := hl
  refine lv_aload_n hx hb dX0_callPeer_0 rfl (lv_at hl 0 rfl) ?_
  refine w_gI (C := RX0) (T := TX0) (N := 15) (ci := 0) hx hb hts in0 hown hK hP 8 ho.1 ho rfl (by decide) (hts _ mf_X0_57) dX0_callPeer_1 ?_
  refine lv_topi (fun x1 ex1 => ?_)
  refine lv_if_eq (tgt := 10) hx hb dX0_callPeer_4 (by decide) (fun c4 => ?_) (fun c4 => ?_)
  · refine lv_aload_n hx hb dX0_callPeer_10 rfl (lv_at hl 0 rfl) ?_
    refine lv_iconst (v := 1) hx hb dX0_callPeer_11 (by decide) ?_
    refine lv_iconst (v := 0) hx hb dX0_callPeer_12 (by decide) ?_
    refine k_V (As := [.int 1, .int 0]) (rest := []) ⟨hx, hb, hml, hown, hts⟩ (c0_begin0 l dC dI base cy o ho v (hf.E ho 9 (by decide) (by decide))) (cwV 2 hts (gV ml_X0_60 mi_X0_beginConnection mx_X0_beginConnection mn_X0 mo_X0_beginConnection) rfl rfl rfl (by decide +kernel) ⟨by decide, by decide⟩) hK hP hS ho (by decide) rfl rfl hl.1 rfl (Nat.le_of_ble_eq_true rfl) dX0_callPeer_13 ⟨Nat.zero_le _, Nat.zero_le _⟩ (fun v1 H locs hv1 hP hS => ?_)
    have eb := endB o ho.1 ho.2
    have g1 := hv1
    refine lv_aload_n hx hb dX0_callPeer_16 rfl (lv_at hl 0 rfl) ?_
    refine lv_sipush (v := 230) hx hb dX0_callPeer_17 (by decide) ?_
    refine k_V (As := [.int 230]) (rest := []) ⟨hx, hb, hml, hown, hts⟩ (c0_awaitLink l dC dI base cy o ho v1 230) (cwV 1 hts (gV ml_X0_64 mi_X0_awaitLink mx_X0_awaitLink mn_X0 mo_X0_awaitLink) rfl rfl rfl (by decide +kernel) ⟨by decide, by decide⟩) hK hP hS ho (by decide) rfl rfl hl.1 rfl (Nat.le_of_ble_eq_true rfl) dX0_callPeer_20 ⟨Nat.zero_le _, Nat.zero_le _⟩ (fun v2 H locs hv2 hP hS => ?_)
    have g2 := hv2
    refine lv_aload_n hx hb dX0_callPeer_23 rfl (lv_at hl 0 rfl) ?_
    refine k_V (As := []) (rest := []) ⟨hx, hb, hml, hown, hts⟩ (c0_sendAwaited0 l dC dI base cy o ho v2 (by rw [g2, up2_o _ _ _ _ _ (by omega), up2_k _ _ _ _ (by decide), g1.2.2]; exact hf.idx ho) 0 (by rw [g2, up2_o _ _ _ _ _ (by omega), up2_o _ _ _ _ _ (by omega), g1.1 1 (by omega), hf.z i2 (by decide) (by decide)]; decide) (by decide) (by rw [g2, up2_o _ _ _ _ _ (by omega), up2_o _ _ _ _ _ (by omega), g1.1 1 (by omega), hf.z i2 (by decide) (by decide)])) (cwV 0 hts (gV ml_X0_68 mi_X0_sendAwaitedLink mx_X0_sendAwaitedLink mn_X0 mo_X0_sendAwaitedLink) rfl rfl rfl (by decide +kernel) ⟨by decide, by decide⟩) hK hP hS ho (by decide) rfl rfl hl.1 rfl (Nat.le_of_ble_eq_true rfl) dX0_callPeer_24 ⟨Nat.zero_le _, Nat.zero_le _⟩ (fun v3 H locs hv3 hP hS => ?_)
    have g3 := hv3
    refine lv_aload_n hx hb dX0_callPeer_27 rfl (lv_at hl 0 rfl) ?_
    refine w_gI (C := RX0) (T := TX0) (N := 15) (ci := 0) hx hb hts in0 hown hK hP 9 ho.1 ho rfl (by decide) (hts _ mf_X0_71) dX0_callPeer_28 ?_
    refine lv_topi (fun x28 ex28 => ?_)
    exact W.iret (v := x28) hx hb hr (fun t ht hW => ⟨⟨x28, v3, rfl, ⟨by rw [ex28, g3 o (by omega), g2, up2_o _ _ _ _ _ (by omega), up2_k _ _ _ _ (by decide), g1.2.1], by
        refine (g1.1.w (fun a h => by omega)).tr (Fr.tr ?_ (g3.w (fun a h => by omega)))
        rw [g2]
        repeat (first | exact Fr.rf | refine Fr.up ?_ _ _ _ (by omega))⟩, by rw [ht]; exact hP, va_K.moved hW.alike hK⟩, hS.F ht⟩) hS.2.2 dX0_callPeer_31
  · exact absurd (by rw [ex1]; exact hf.E ho 8 (by decide) (by decide)) c4
set_option maxHeartbeats 4000000 in
set_option maxRecDepth 100000 in
/-- End.sendMessage at a closed end -/
theorem c0_sendMessage0 (l : Launch) (dC : Nat → ClassId) (dI : Nat → Nat → Nat) (base : Nat) (cy : Nat → ClassId) (o : Nat) (ho : isO 0 o) (v : VV) (t : Nat) (p2 : Int32) (h8 : v o 8 = 0) : CI l yX0_sendMessage (.code yX0_sendMessage cX0_sendMessage 3 (some .int) :: TB) { frames := 0, cells := 0, slots := 0, locals := 0 } dC dI base cy [.ref (base + o), .ref (base + t), .int p2] v (fun (x : Int32) (v' : VV) => v' = v ∧ x = -2) := by
  refine Met.ofW (cc := cX0_sendMessage) (maxL := 3) (ret := (some .int)) (by decide) rfl ?_
  intro p e s m args below meth c s₁ B hml hv
  obtain ⟨rfl, hP, hK⟩ := hv
  have hx := B.exec
  have hb := B.bytes
  have hr := B.returns
  have hts0 := atoms_spec (ws := (.code yX0_sendMessage cX0_sendMessage 3 (some .int) :: TB)) B.pre
  have hts : ∀ w ∈ TB, w.before ([.ref (base + o), .ref (base + t), .int p2]).toArray s = true := fun w h => hts0 w (List.mem_cons_of_mem _ h)
  have hown : s.vm.findClass RX0 = some m.cls := findClass_of_methodNamed B.named
  have hlocks := B.notSynchronized
  have hS : va_S (fun q => base ≤ q) s.heap s.heap [] := va_S.rf
  have hl := lv_entry ([.ref (base + o), .ref (base + t), .int p2]) (n := 3) (Nat.le_of_ble_eq_true rfl)
  rw [lg_entry_eq]
  generalize (lg_sl ([.ref (base + o), .ref (base + t), .int p2]) ++ List.replicate (3 - (lg_sl ([.ref (base + o), .ref (base + t), .int p2])).length) Slot.unset).toArray = ls at hl ⊢
  have hl : lv_has ls 3 [(0, .ref (base + o)), (1, .ref (base + t)), (2, .int p2)] := hl
  refine lv_aload_n hx hb dX0_sendMessage_0 rfl (lv_at hl 0 rfl) ?_
  refine w_gI (C := RX0) (T := TX0) (N := 15) (ci := 0) hx hb hts in0 hown hK hP 8 ho.1 ho rfl (by decide) (hts _ mf_X0_57) dX0_sendMessage_1 ?_
  refine lv_topi (fun x1 ex1 => ?_)
  refine lv_iconst (v := 2) hx hb dX0_sendMessage_4 (by decide) ?_
  refine lv_icmp_eq (tgt := 11) hx hb dX0_sendMessage_5 (by decide) (fun c5 => ?_) (fun c5 => ?_)
  · exact absurd c5 (by rw [ex1, h8]; decide)
  · refine lv_bipush (v := -2) hx hb dX0_sendMessage_8 (by decide) ?_
    exact W.iret (v := (-2)) hx hb hr (fun t ht hW => ⟨⟨(-2), v, rfl, by trivial, by rw [ht]; exact hP, va_K.moved hW.alike hK⟩, hS.F ht⟩) hS.2.2 dX0_sendMessage_10
set_option maxHeartbeats 4000000 in
set_option maxRecDepth 100000 in
/-- End.sendUrgentByte at a closed end -/
theorem c0_sendUrgent0 (l : Launch) (dC : Nat → ClassId) (dI : Nat → Nat → Nat) (base : Nat) (cy : Nat → ClassId) (o : Nat) (ho : isO 0 o) (v : VV) (p1 : Int32) (h8 : v o 8 = 0) : CI l yX0_sendUrgentByte (.code yX0_sendUrgentByte cX0_sendUrgentByte 3 (some .int) :: TB) { frames := 0, cells := 0, slots := 0, locals := 0 } dC dI base cy [.ref (base + o), .int p1] v (fun (x : Int32) (v' : VV) => v' = v ∧ x = -2) := by
  refine Met.ofW (cc := cX0_sendUrgentByte) (maxL := 3) (ret := (some .int)) (by decide) rfl ?_
  intro p e s m args below meth c s₁ B hml hv
  obtain ⟨rfl, hP, hK⟩ := hv
  have hx := B.exec
  have hb := B.bytes
  have hr := B.returns
  have hts0 := atoms_spec (ws := (.code yX0_sendUrgentByte cX0_sendUrgentByte 3 (some .int) :: TB)) B.pre
  have hts : ∀ w ∈ TB, w.before ([.ref (base + o), .int p1]).toArray s = true := fun w h => hts0 w (List.mem_cons_of_mem _ h)
  have hown : s.vm.findClass RX0 = some m.cls := findClass_of_methodNamed B.named
  have hlocks := B.notSynchronized
  have hS : va_S (fun q => base ≤ q) s.heap s.heap [] := va_S.rf
  have hl := lv_entry ([.ref (base + o), .int p1]) (n := 3) (Nat.le_of_ble_eq_true rfl)
  rw [lg_entry_eq]
  generalize (lg_sl ([.ref (base + o), .int p1]) ++ List.replicate (3 - (lg_sl ([.ref (base + o), .int p1])).length) Slot.unset).toArray = ls at hl ⊢
  have hl : lv_has ls 3 [(0, .ref (base + o)), (1, .int p1)] := hl
  refine lv_aload_n hx hb dX0_sendUrgentByte_0 rfl (lv_at hl 0 rfl) ?_
  refine w_gI (C := RX0) (T := TX0) (N := 15) (ci := 0) hx hb hts in0 hown hK hP 8 ho.1 ho rfl (by decide) (hts _ mf_X0_57) dX0_sendUrgentByte_1 ?_
  refine lv_topi (fun x1 ex1 => ?_)
  refine lv_iconst (v := 2) hx hb dX0_sendUrgentByte_4 (by decide) ?_
  refine lv_icmp_eq (tgt := 11) hx hb dX0_sendUrgentByte_5 (by decide) (fun c5 => ?_) (fun c5 => ?_)
  · exact absurd c5 (by rw [ex1, h8]; decide)
  · refine lv_bipush (v := -2) hx hb dX0_sendUrgentByte_8 (by decide) ?_
    exact W.iret (v := (-2)) hx hb hr (fun t ht hW => ⟨⟨(-2), v, rfl, by trivial, by rw [ht]; exact hP, va_K.moved hW.alike hK⟩, hS.F ht⟩) hS.2.2 dX0_sendUrgentByte_10
set_option maxHeartbeats 4000000 in
set_option maxRecDepth 100000 in
/-- End.endConnection at a closed end -/
theorem c0_endConnection0 (l : Launch) (dC : Nat → ClassId) (dI : Nat → Nat → Nat) (base : Nat) (cy : Nat → ClassId) (o : Nat) (ho : isO 0 o) (v : VV) (h8 : v o 8 = 0) : CI l yX0_endConnection (.code yX0_endConnection cX0_endConnection 1 (some .int) :: TB) { frames := 0, cells := 0, slots := 0, locals := 0 } dC dI base cy [.ref (base + o)] v (fun (x : Int32) (v' : VV) => v' = v ∧ x = -2) := by
  refine Met.ofW (cc := cX0_endConnection) (maxL := 1) (ret := (some .int)) (by decide) rfl ?_
  intro p e s m args below meth c s₁ B hml hv
  obtain ⟨rfl, hP, hK⟩ := hv
  have hx := B.exec
  have hb := B.bytes
  have hr := B.returns
  have hts0 := atoms_spec (ws := (.code yX0_endConnection cX0_endConnection 1 (some .int) :: TB)) B.pre
  have hts : ∀ w ∈ TB, w.before ([.ref (base + o)]).toArray s = true := fun w h => hts0 w (List.mem_cons_of_mem _ h)
  have hown : s.vm.findClass RX0 = some m.cls := findClass_of_methodNamed B.named
  have hlocks := B.notSynchronized
  have hS : va_S (fun q => base ≤ q) s.heap s.heap [] := va_S.rf
  have hl := lv_entry ([.ref (base + o)]) (n := 1) (Nat.le_of_ble_eq_true rfl)
  rw [lg_entry_eq]
  generalize (lg_sl ([.ref (base + o)]) ++ List.replicate (1 - (lg_sl ([.ref (base + o)])).length) Slot.unset).toArray = ls at hl ⊢
  have hl : lv_has ls 1 [(0, .ref (base + o))] := hl
  refine lv_aload_n hx hb dX0_endConnection_0 rfl (lv_at hl 0 rfl) ?_
  refine w_gI (C := RX0) (T := TX0) (N := 15) (ci := 0) hx hb hts in0 hown hK hP 8 ho.1 ho rfl (by decide) (hts _ mf_X0_57) dX0_endConnection_1 ?_
  refine lv_topi (fun x1 ex1 => ?_)
  refine lv_iconst (v := 2) hx hb dX0_endConnection_4 (by decide) ?_
  refine lv_icmp_eq (tgt := 19) hx hb dX0_endConnection_5 (by decide) (fun c5 => ?_) (fun c5 => ?_)
  · exact absurd c5 (by rw [ex1, h8]; decide)
  · refine lv_aload_n hx hb dX0_endConnection_8 rfl (lv_at hl 0 rfl) ?_
    refine w_gI (C := RX0) (T := TX0) (N := 15) (ci := 0) hx hb hts in0 hown hK hP 8 ho.1 ho rfl (by decide) (hts _ mf_X0_57) dX0_endConnection_9 ?_
    refine lv_topi (fun x9 ex9 => ?_)
    refine lv_iconst (v := 1) hx hb dX0_endConnection_12 (by decide) ?_
    refine lv_icmp_eq (tgt := 19) hx hb dX0_endConnection_13 (by decide) (fun c13 => ?_) (fun c13 => ?_)
    · exact absurd c13 (by rw [ex9, h8]; decide)
    · refine lv_bipush (v := -2) hx hb dX0_endConnection_16 (by decide) ?_
      exact W.iret (v := (-2)) hx hb hr (fun t ht hW => ⟨⟨(-2), v, rfl, by trivial, by rw [ht]; exact hP, va_K.moved hW.alike hK⟩, hS.F ht⟩) hS.2.2 dX0_endConnection_18
set_option maxHeartbeats 4000000 in
set_option maxRecDepth 100000 in
/-- End.takeMessage() where none is there -/
theorem c0_takeMessage0 (l : Launch) (dC : Nat → ClassId) (dI : Nat → Nat → Nat) (base : Nat) (cy : Nat → ClassId) (o : Nat) (ho : isO 0 o) (v : VV) (h0 : v (o + 123) 10 = 0) : CI l yX0_takeMessage (.code yX0_takeMessage cX0_takeMessage 3 (some .int) :: TB) { frames := 2, cells := 0, slots := 0, locals := 40 } dC dI base cy [.ref (base + o)] v (fun (x : Int32) (v' : VV) => v' = v ∧ x = -2) := by
  refine Met.ofW (cc := cX0_takeMessage) (maxL := 3) (ret := (some .int)) (by decide) rfl ?_
  intro p e s m args below meth c s₁ B hml hv
  obtain ⟨rfl, hP, hK⟩ := hv
  have hx := B.exec
  have hb := B.bytes
  have hr := B.returns
  have hts0 := atoms_spec (ws := (.code yX0_takeMessage cX0_takeMessage 3 (some .int) :: TB)) B.pre
  have hts : ∀ w ∈ TB, w.before ([.ref (base + o)]).toArray s = true := fun w h => hts0 w (List.mem_cons_of_mem _ h)
  have hown : s.vm.findClass RX0 = some m.cls := findClass_of_methodNamed B.named
  have hlocks := B.notSynchronized
  have hS : va_S (fun q => base ≤ q) s.heap s.heap [] := va_S.rf
  have hl := lv_entry ([.ref (base + o)]) (n := 3) (Nat.le_of_ble_eq_true rfl)
  rw [lg_entry_eq]
  generalize (lg_sl ([.ref (base + o)]) ++ List.replicate (3 - (lg_sl ([.ref (base + o)])).length) Slot.unset).toArray = ls at hl ⊢
  have hl : lv_has ls 3 [(0, .ref (base + o))] := hl
  refine lv_aload_n hx hb dX0_takeMessage_0 rfl (lv_at hl 0 rfl) ?_
  have q1 := ch0_3 ho
  refine w_gR (C := RX0) (T := TX0) (N := 15) (ci := 0) hx hb hts in0 hown hK hP 3 ho.1 ho rfl (by decide) q1.1 (hts _ mf_X0_21) dX0_takeMessage_1 ?_
  refine k_I (As := []) (rest := []) ⟨hx, hb, hml, hown, hts⟩ (c1_credit l dC dI base cy (o + 123) (ch0_3 ho).2 v) (cwV 0 hts (gV ml_X0_124 mi_X1_credit mx_X1_credit mn_X1 mo_X1_credit) rfl rfl rfl (by decide +kernel) ⟨by decide, by decide⟩) hK hP hS q1.2 (by decide) rfl rfl hl.1 rfl (Nat.le_of_ble_eq_true rfl) dX0_takeMessage_4 ⟨Nat.zero_le _, Nat.zero_le _⟩ (fun x4 v2 H locs hv2 hP hS => ?_)
  rw [hv2.1] at hP
  have ex4 := hv2.2
  refine lv_if_ne (tgt := 14) hx hb dX0_takeMessage_7 (by decide) (fun c7 => ?_) (fun c7 => ?_)
  · refine lv_iconst (v := 0) hx hb dX0_takeMessage_14 (by decide) ?_
    refine lv_istore_n (lv' := [(1, .int 0), (0, .ref (base + o))]) hx hb dX0_takeMessage_15 rfl hl (by decide) rfl (fun ls hl => ?_)
    refine lv_aload_n hx hb dX0_takeMessage_16 rfl (lv_at hl 1 rfl) ?_
    have q3 := ch0_3 ho
    refine w_gR (C := RX0) (T := TX0) (N := 15) (ci := 0) hx hb hts in0 hown hK hP 3 ho.1 ho rfl (by decide) q3.1 (hts _ mf_X0_21) dX0_takeMessage_17 ?_
    refine k_I (As := []) (rest := []) ⟨hx, hb, hml, hown, hts⟩ (c1_takeNext0 l dC dI base cy (o + 123) (ch0_3 ho).2 v h0) (cwV 0 hts (gV ml_X0_128 mi_X1_takeNext mx_X1_takeNext mn_X1 mo_X1_takeNext) rfl rfl rfl (by decide +kernel) ⟨by decide, by decide⟩) hK hP hS q3.2 (by decide) rfl rfl hl.1 rfl (Nat.le_of_ble_eq_true rfl) dX0_takeMessage_20 ⟨Nat.zero_le _, Nat.zero_le _⟩ (fun x20 v4 H locs hv4 hP hS => ?_)
    rw [hv4.1] at hP
    have ex20 := hv4.2
    refine lv_istore_n (lv' := [(2, .int x20), (1, .int 0), (0, .ref (base + o))]) hx hb dX0_takeMessage_23 rfl hl (by decide) rfl (fun ls hl => ?_)
    refine lv_iload_n hx hb dX0_takeMessage_24 rfl (lv_at hl 0 rfl) ?_
    refine lv_if_lt (tgt := 44) hx hb dX0_takeMessage_25 (by decide) (fun c25 => ?_) (fun c25 => ?_)
    · refine lv_iload_n hx hb dX0_takeMessage_44 rfl (lv_at hl 0 rfl) ?_
      exact W.iret (v := x20) hx hb hr (fun t ht hW => ⟨⟨x20, v, rfl, ⟨rfl, ex20⟩, by rw [ht]; exact hP, va_K.moved hW.alike hK⟩, hS.F ht⟩) hS.2.2 dX0_takeMessage_45
    · exact absurd (by rw [ex20]; decide) c25
  · refine lv_iconst (v := 1) hx hb dX0_takeMessage_10 (by decide) ?_
    refine lv_goto (tgt := 15) hx hb dX0_takeMessage_11 (by decide) ?_
    refine lv_istore_n (lv' := [(1, .int 1), (0, .ref (base + o))]) hx hb dX0_takeMessage_15 rfl hl (by decide) rfl (fun ls hl => ?_)
    refine lv_aload_n hx hb dX0_takeMessage_16 rfl (lv_at hl 1 rfl) ?_
    have q5 := ch0_3 ho
    refine w_gR (C := RX0) (T := TX0) (N := 15) (ci := 0) hx hb hts in0 hown hK hP 3 ho.1 ho rfl (by decide) q5.1 (hts _ mf_X0_21) dX0_takeMessage_17 ?_
    refine k_I (As := []) (rest := []) ⟨hx, hb, hml, hown, hts⟩ (c1_takeNext0 l dC dI base cy (o + 123) (ch0_3 ho).2 v h0) (cwV 0 hts (gV ml_X0_128 mi_X1_takeNext mx_X1_takeNext mn_X1 mo_X1_takeNext) rfl rfl rfl (by decide +kernel) ⟨by decide, by decide⟩) hK hP hS q5.2 (by decide) rfl rfl hl.1 rfl (Nat.le_of_ble_eq_true rfl) dX0_takeMessage_20 ⟨Nat.zero_le _, Nat.zero_le _⟩ (fun x20 v6 H locs hv6 hP hS => ?_)
    rw [hv6.1] at hP
    have ex20 := hv6.2
    refine lv_istore_n (lv' := [(2, .int x20), (1, .int 1), (0, .ref (base + o))]) hx hb dX0_takeMessage_23 rfl hl (by decide) rfl (fun ls hl => ?_)
    refine lv_iload_n hx hb dX0_takeMessage_24 rfl (lv_at hl 0 rfl) ?_
    refine lv_if_lt (tgt := 44) hx hb dX0_takeMessage_25 (by decide) (fun c25 => ?_) (fun c25 => ?_)
    · refine lv_iload_n hx hb dX0_takeMessage_44 rfl (lv_at hl 0 rfl) ?_
      exact W.iret (v := x20) hx hb hr (fun t ht hW => ⟨⟨x20, v, rfl, ⟨rfl, ex20⟩, by rw [ht]; exact hP, va_K.moved hW.alike hK⟩, hS.F ht⟩) hS.2.2 dX0_takeMessage_45
    · exact absurd (by rw [ex20]; decide) c25
set_option maxHeartbeats 4000000 in
set_option maxRecDepth 100000 in
/-- End.hasConnection() of a closed end -/
theorem c0_hasConnection0 (l : Launch) (dC : Nat → ClassId) (dI : Nat → Nat → Nat) (base : Nat) (cy : Nat → ClassId) (o : Nat) (ho : isO 0 o) (v : VV) (h8 : v o 8 = 0) : CI l yX0_hasConnection (.code yX0_hasConnection cX0_hasConnection 1 (some .boolean) :: TB) { frames := 0, cells := 0, slots := 0, locals := 0 } dC dI base cy [.ref (base + o)] v (fun (x : Int32) (v' : VV) => v' = v ∧ x = 0) := by
  refine Met.ofW (cc := cX0_hasConnection) (maxL := 1) (ret := (some .boolean)) (by decide) rfl ?_
  intro p e s m args below meth c s₁ B hml hv
  obtain ⟨rfl, hP, hK⟩ := hv
  have hx := B.exec
  have hb := B.bytes
  have hr := B.returns
  have hts0 := atoms_spec (ws := (.code yX0_hasConnection cX0_hasConnection 1 (some .boolean) :: TB)) B.pre
  have hts : ∀ w ∈ TB, w.before ([.ref (base + o)]).toArray s = true := fun w h => hts0 w (List.mem_cons_of_mem _ h)
  have hown : s.vm.findClass RX0 = some m.cls := findClass_of_methodNamed B.named
  have hlocks := B.notSynchronized
  have hS : va_S (fun q => base ≤ q) s.heap s.heap [] := va_S.rf
  have hl := lv_entry ([.ref (base + o)]) (n := 1) (Nat.le_of_ble_eq_true rfl)
  rw [lg_entry_eq]
  generalize (lg_sl ([.ref (base + o)]) ++ List.replicate (1 - (lg_sl ([.ref (base + o)])).length) Slot.unset).toArray = ls at hl ⊢
  have hl : lv_has ls 1 [(0, .ref (base + o))] := hl
  refine lv_aload_n hx hb dX0_hasConnection_0 rfl (lv_at hl 0 rfl) ?_
  refine w_gI (C := RX0) (T := TX0) (N := 15) (ci := 0) hx hb hts in0 hown hK hP 8 ho.1 ho rfl (by decide) (hts _ mf_X0_57) dX0_hasConnection_1 ?_
  refine lv_topi (fun x1 ex1 => ?_)
  refine lv_iconst (v := 1) hx hb dX0_hasConnection_4 (by decide) ?_
  refine lv_icmp_eq (tgt := 24) hx hb dX0_hasConnection_5 (by decide) (fun c5 => ?_) (fun c5 => ?_)
  · exact absurd c5 (by rw [ex1, h8]; decide)
  · refine lv_aload_n hx hb dX0_hasConnection_8 rfl (lv_at hl 0 rfl) ?_
    refine w_gI (C := RX0) (T := TX0) (N := 15) (ci := 0) hx hb hts in0 hown hK hP 8 ho.1 ho rfl (by decide) (hts _ mf_X0_57) dX0_hasConnection_9 ?_
    refine lv_topi (fun x9 ex9 => ?_)
    refine lv_iconst (v := 2) hx hb dX0_hasConnection_12 (by decide) ?_
    refine lv_icmp_eq (tgt := 24) hx hb dX0_hasConnection_13 (by decide) (fun c13 => ?_) (fun c13 => ?_)
    · exact absurd c13 (by rw [ex9, h8]; decide)
    · refine lv_aload_n hx hb dX0_hasConnection_16 rfl (lv_at hl 0 rfl) ?_
      refine w_gI (C := RX0) (T := TX0) (N := 15) (ci := 0) hx hb hts in0 hown hK hP 8 ho.1 ho rfl (by decide) (hts _ mf_X0_57) dX0_hasConnection_17 ?_
      refine lv_topi (fun x17 ex17 => ?_)
      refine lv_iconst (v := 3) hx hb dX0_hasConnection_20 (by decide) ?_
      refine lv_icmp_ne (tgt := 28) hx hb dX0_hasConnection_21 (by decide) (fun c21 => ?_) (fun c21 => ?_)
      · refine lv_iconst (v := 0) hx hb dX0_hasConnection_28 (by decide) ?_
        exact W.zret (v := 0) hx hb hr (rfl) (fun t ht hW => ⟨⟨0, v, rfl, by trivial, by rw [ht]; exact hP, va_K.moved hW.alike hK⟩, hS.F ht⟩) hS.2.2 dX0_hasConnection_29
      · exact absurd c21 (by rw [ex17, h8]; decide)
set_option maxHeartbeats 4000000 in
set_option maxRecDepth 100000 in
/-- End.passTick() of a closed end -/
theorem c0_passTick0 (l : Launch) (dC : Nat → ClassId) (dI : Nat → Nat → Nat) (base : Nat) (cy : Nat → ClassId) (o : Nat) (ho : isO 0 o) (v : VV) (h8 : v o 8 = 0) : CV l yX0_passTick (.code yX0_passTick cX0_passTick 1 none :: TB) { frames := 1, cells := 0, slots := 0, locals := 20 } dC dI base cy [.ref (base + o)] v (fun v' : VV => v' = v) := by
  refine Met.ofW (cc := cX0_passTick) (maxL := 1) (ret := none) (by decide) rfl ?_
  intro p e s m args below meth c s₁ B hml hv
  obtain ⟨rfl, hP, hK⟩ := hv
  have hx := B.exec
  have hb := B.bytes
  have hr := B.returns
  have hts0 := atoms_spec (ws := (.code yX0_passTick cX0_passTick 1 none :: TB)) B.pre
  have hts : ∀ w ∈ TB, w.before ([.ref (base + o)]).toArray s = true := fun w h => hts0 w (List.mem_cons_of_mem _ h)
  have hown : s.vm.findClass RX0 = some m.cls := findClass_of_methodNamed B.named
  have hlocks := B.notSynchronized
  have hS : va_S (fun q => base ≤ q) s.heap s.heap [] := va_S.rf
  have hl := lv_entry ([.ref (base + o)]) (n := 1) (Nat.le_of_ble_eq_true rfl)
  rw [lg_entry_eq]
  generalize (lg_sl ([.ref (base + o)]) ++ List.replicate (1 - (lg_sl ([.ref (base + o)])).length) Slot.unset).toArray = ls at hl ⊢
  have hl : lv_has ls 1 [(0, .ref (base + o))] := hl
  refine lv_aload_n hx hb dX0_passTick_0 rfl (lv_at hl 0 rfl) ?_
  refine k_I (As := []) (rest := []) ⟨hx, hb, hml, hown, hts⟩ (c0_hasConnection0 l dC dI base cy o ho v h8) (cwV 0 hts (gV ml_X0_164 mi_X0_hasConnection mx_X0_hasConnection mn_X0 mo_X0_hasConnection) rfl rfl rfl (by decide +kernel) ⟨by decide, by decide⟩) hK hP hS ho (by decide) rfl rfl hl.1 rfl (Nat.le_of_ble_eq_true rfl) dX0_passTick_1 ⟨Nat.zero_le _, Nat.zero_le _⟩ (fun x1 v1 H locs hv1 hP hS => ?_)
  rw [hv1.1] at hP
  have ex1 := hv1.2
  refine lv_if_eq (tgt := 62) hx hb dX0_passTick_4 (by decide) (fun c4 => ?_) (fun c4 => ?_)
  · refine lv_aload_n hx hb dX0_passTick_62 rfl (lv_at hl 0 rfl) ?_
    refine w_gI (C := RX0) (T := TX0) (N := 15) (ci := 0) hx hb hts in0 hown hK hP 8 ho.1 ho rfl (by decide) (hts _ mf_X0_57) dX0_passTick_63 ?_
    refine lv_topi (fun x63 ex63 => ?_)
    refine lv_iconst (v := 4) hx hb dX0_passTick_66 (by decide) ?_
    refine lv_icmp_ne (tgt := 92) hx hb dX0_passTick_67 (by decide) (fun c67 => ?_) (fun c67 => ?_)
    · exact W.vret hx hb hr (fun t ht hW => ⟨⟨v, rfl, by trivial, by rw [ht]; exact hP, va_K.moved hW.alike hK⟩, hS.F ht⟩) hS.2.2 dX0_passTick_92
    · exact absurd c67 (by rw [ex63, h8]; decide)
  · exact absurd ex1 c4
set_option maxHeartbeats 4000000 in
set_option maxRecDepth 100000 in
/-- End.tell(what) on a new object -/
theorem c0_tell0 (l : Launch) (dC : Nat → ClassId) (dI : Nat → Nat → Nat) (base : Nat) (cy : Nat → ClassId) (o : Nat) (ho : isO 0 o) (v : VV) (p1 : Int32) (hf : Fc v) : CI l yX0_tell (.code yX0_tell cX0_tell 2 (some .int) :: TB) { frames := 2, cells := 0, slots := 0, locals := 40 } dC dI base cy [.ref (base + o), .int p1] v (fun (x : Int32) (v' : VV) => v' = v ∧ x = told0 p1) := by
  refine Met.ofW (cc := cX0_tell) (maxL := 2) (ret := (some .int)) (by decide) rfl ?_
  intro p e s m args below meth c s₁ B hml hv
  obtain ⟨rfl, hP, hK⟩ := hv
  have hx := B.exec
  have hb := B.bytes
  have hr := B.returns
  have hts0 := atoms_spec (ws := (.code yX0_tell cX0_tell 2 (some .int) :: TB)) B.pre
  have hts : ∀ w ∈ TB, w.before ([.ref (base + o), .int p1]).toArray s = true := fun w h => hts0 w (List.mem_cons_of_mem _ h)
  have hown : s.vm.findClass RX0 = some m.cls := findClass_of_methodNamed B.named
  have hlocks := B.notSynchronized
  have hS : va_S (fun q => base ≤ q) s.heap s.heap [] := va_S.rf
  have hl := lv_entry ([.ref (base + o), .int p1]) (n := 2) (Nat.le_of_ble_eq_true rfl)
  rw [lg_entry_eq]
  generalize (lg_sl ([.ref (base + o), .int p1]) ++ List.replicate (2 - (lg_sl ([.ref (base + o), .int p1])).length) Slot.unset).toArray = ls at hl ⊢
  have hl : lv_has ls 2 [(0, .ref (base + o)), (1, .int p1)] := hl
  have eb := endB o ho.1 ho.2
  refine lv_iload_n hx hb dX0_tell_0 rfl (lv_at hl 1 rfl) ?_
  by_cases s1_0 : p1 = 0
  · refine lv_tableIn (tgt := 56) hx hb dX0_tell_1 (by rw [s1_0]; decide) (by rw [s1_0]; decide) (by rw [s1_0]; rfl) (by decide) ?_
    refine lv_aload_n hx hb dX0_tell_56 rfl (lv_at hl 0 rfl) ?_
    refine w_gI (C := RX0) (T := TX0) (N := 15) (ci := 0) hx hb hts in0 hown hK hP 8 ho.1 ho rfl (by decide) (hts _ mf_X0_57) dX0_tell_57 ?_
    refine lv_topi (fun x57 ex57 => ?_)
    exact W.iret (v := x57) hx hb hr (fun t ht hW => ⟨⟨x57, v, rfl, ⟨rfl, by rw [ex57, hf.E ho 8 (by decide) (by decide), s1_0]; decide⟩, by rw [ht]; exact hP, va_K.moved hW.alike hK⟩, hS.F ht⟩) hS.2.2 dX0_tell_60
  by_cases s1_1 : p1 = 1
  · refine lv_tableIn (tgt := 61) hx hb dX0_tell_1 (by rw [s1_1]; decide) (by rw [s1_1]; decide) (by rw [s1_1]; rfl) (by decide) ?_
    refine lv_aload_n hx hb dX0_tell_61 rfl (lv_at hl 0 rfl) ?_
    refine w_gI (C := RX0) (T := TX0) (N := 15) (ci := 0) hx hb hts in0 hown hK hP 9 ho.1 ho rfl (by decide) (hts _ mf_X0_71) dX0_tell_62 ?_
    refine lv_topi (fun x62 ex62 => ?_)
    exact W.iret (v := x62) hx hb hr (fun t ht hW => ⟨⟨x62, v, rfl, ⟨rfl, by rw [ex62, hf.E ho 9 (by decide) (by decide), s1_1]; decide⟩, by rw [ht]; exact hP, va_K.moved hW.alike hK⟩, hS.F ht⟩) hS.2.2 dX0_tell_65
  by_cases s1_2 : p1 = 2
  · refine lv_tableIn (tgt := 66) hx hb dX0_tell_1 (by rw [s1_2]; decide) (by rw [s1_2]; decide) (by rw [s1_2]; rfl) (by decide) ?_
    refine lv_aload_n hx hb dX0_tell_66 rfl (lv_at hl 0 rfl) ?_
    refine w_gI (C := RX0) (T := TX0) (N := 15) (ci := 0) hx hb hts in0 hown hK hP 10 ho.1 ho rfl (by decide) (hts _ mf_X0_81) dX0_tell_67 ?_
    refine lv_topi (fun x67 ex67 => ?_)
    exact W.iret (v := x67) hx hb hr (fun t ht hW => ⟨⟨x67, v, rfl, ⟨rfl, by rw [ex67, hf.E ho 10 (by decide) (by decide), s1_2]; decide⟩, by rw [ht]; exact hP, va_K.moved hW.alike hK⟩, hS.F ht⟩) hS.2.2 dX0_tell_70
  by_cases s1_3 : p1 = 3
  · refine lv_tableIn (tgt := 71) hx hb dX0_tell_1 (by rw [s1_3]; decide) (by rw [s1_3]; decide) (by rw [s1_3]; rfl) (by decide) ?_
    refine lv_aload_n hx hb dX0_tell_71 rfl (lv_at hl 0 rfl) ?_
    have q1 := ch0_2 ho
    refine w_gR (C := RX0) (T := TX0) (N := 15) (ci := 0) hx hb hts in0 hown hK hP 2 ho.1 ho rfl (by decide) q1.1 (hts _ mf_X0_12) dX0_tell_72 ?_
    refine lv_aload_n hx hb dX0_tell_75 rfl (lv_at hl 0 rfl) ?_
    have q2 := ch0_2 ho
    refine w_gR (C := RX0) (T := TX0) (N := 15) (ci := 0) hx hb hts in0 hown hK hP 2 ho.1 ho rfl (by decide) q2.1 (hts _ mf_X0_12) dX0_tell_76 ?_
    refine w_gI (C := RX3) (T := TX3) (N := 6) (ci := 3) hx hb hts in3 hown hK hP 3 q2.2.1 q2.2 rfl (by decide) (hts _ mf_X0_134) dX0_tell_79 ?_
    refine lv_topi (fun x79 ex79 => ?_)
    refine k_I (As := [.int x79]) (rest := []) ⟨hx, hb, hml, hown, hts⟩ (c3_numberAt l dC dI base cy (o + 1) (ch0_2 ho).2 v x79) (cwV 1 hts (gV ml_X0_137 mi_X3_numberAt mx_X3_numberAt mn_X3 mo_X3_numberAt) rfl rfl rfl (by decide +kernel) ⟨by decide, by decide⟩) hK hP hS q1.2 (by decide) rfl rfl hl.1 rfl (Nat.le_of_ble_eq_true rfl) dX0_tell_82 ⟨Nat.zero_le _, Nat.zero_le _⟩ (fun x82 v3 H locs hv3 hP hS => ?_)
    rw [hv3.1] at hP
    have ex82 := hv3.2
    exact W.iret (v := x82) hx hb hr (fun t ht hW => ⟨⟨x82, v, rfl, ⟨rfl, by rw [ex82, ex79, hf.z (ch0_2 ho).2 (by decide) (by omega) 4, hf.z (ch0_2 ho).2 (by decide) (by omega) 3, s1_3]; decide⟩, by rw [ht]; exact hP, va_K.moved hW.alike hK⟩, hS.F ht⟩) hS.2.2 dX0_tell_85
  by_cases s1_4 : p1 = 4
  · refine lv_tableIn (tgt := 86) hx hb dX0_tell_1 (by rw [s1_4]; decide) (by rw [s1_4]; decide) (by rw [s1_4]; rfl) (by decide) ?_
    refine lv_aload_n hx hb dX0_tell_86 rfl (lv_at hl 0 rfl) ?_
    have q4 := ch0_3 ho
    refine w_gR (C := RX0) (T := TX0) (N := 15) (ci := 0) hx hb hts in0 hown hK hP 3 ho.1 ho rfl (by decide) q4.1 (hts _ mf_X0_21) dX0_tell_87 ?_
    refine w_gI (C := RX1) (T := TX1) (N := 15) (ci := 1) hx hb hts in1 hown hK hP 8 q4.2.1 q4.2 rfl (by decide) (hts _ mf_X0_140) dX0_tell_90 ?_
    refine lv_topi (fun x90 ex90 => ?_)
    exact W.iret (v := x90) hx hb hr (fun t ht hW => ⟨⟨x90, v, rfl, ⟨rfl, by rw [ex90, hf.z (ch0_3 ho).2 (by decide) (by omega) 8, s1_4]; decide⟩, by rw [ht]; exact hP, va_K.moved hW.alike hK⟩, hS.F ht⟩) hS.2.2 dX0_tell_93
  by_cases s1_5 : p1 = 5
  · refine lv_tableIn (tgt := 94) hx hb dX0_tell_1 (by rw [s1_5]; decide) (by rw [s1_5]; decide) (by rw [s1_5]; rfl) (by decide) ?_
    refine lv_aload_n hx hb dX0_tell_94 rfl (lv_at hl 0 rfl) ?_
    have q5 := ch0_3 ho
    refine w_gR (C := RX0) (T := TX0) (N := 15) (ci := 0) hx hb hts in0 hown hK hP 3 ho.1 ho rfl (by decide) q5.1 (hts _ mf_X0_21) dX0_tell_95 ?_
    refine k_I (As := []) (rest := []) ⟨hx, hb, hml, hown, hts⟩ (c1_credit l dC dI base cy (o + 123) (ch0_3 ho).2 v) (cwV 0 hts (gV ml_X0_124 mi_X1_credit mx_X1_credit mn_X1 mo_X1_credit) rfl rfl rfl (by decide +kernel) ⟨by decide, by decide⟩) hK hP hS q5.2 (by decide) rfl rfl hl.1 rfl (Nat.le_of_ble_eq_true rfl) dX0_tell_98 ⟨Nat.zero_le _, Nat.zero_le _⟩ (fun x98 v6 H locs hv6 hP hS => ?_)
    rw [hv6.1] at hP
    have ex98 := hv6.2
    exact W.iret (v := x98) hx hb hr (fun t ht hW => ⟨⟨x98, v, rfl, ⟨rfl, by rw [ex98, hf.z (ch0_3 ho).2 (by decide) (by omega) 11, s1_5]; decide⟩, by rw [ht]; exact hP, va_K.moved hW.alike hK⟩, hS.F ht⟩) hS.2.2 dX0_tell_101
  by_cases s1_6 : p1 = 6
  · refine lv_tableIn (tgt := 102) hx hb dX0_tell_1 (by rw [s1_6]; decide) (by rw [s1_6]; decide) (by rw [s1_6]; rfl) (by decide) ?_
    refine lv_aload_n hx hb dX0_tell_102 rfl (lv_at hl 0 rfl) ?_
    have q7 := ch0_2 ho
    refine w_gR (C := RX0) (T := TX0) (N := 15) (ci := 0) hx hb hts in0 hown hK hP 2 ho.1 ho rfl (by decide) q7.1 (hts _ mf_X0_12) dX0_tell_103 ?_
    refine lv_aload_n hx hb dX0_tell_106 rfl (lv_at hl 0 rfl) ?_
    have q8 := ch0_2 ho
    refine w_gR (C := RX0) (T := TX0) (N := 15) (ci := 0) hx hb hts in0 hown hK hP 2 ho.1 ho rfl (by decide) q8.1 (hts _ mf_X0_12) dX0_tell_107 ?_
    refine w_gI (C := RX3) (T := TX3) (N := 6) (ci := 3) hx hb hts in3 hown hK hP 5 q8.2.1 q8.2 rfl (by decide) (hts _ mf_X0_143) dX0_tell_110 ?_
    refine lv_topi (fun x110 ex110 => ?_)
    refine k_I (As := [.int x110]) (rest := []) ⟨hx, hb, hml, hown, hts⟩ (c3_numberAt l dC dI base cy (o + 1) (ch0_2 ho).2 v x110) (cwV 1 hts (gV ml_X0_137 mi_X3_numberAt mx_X3_numberAt mn_X3 mo_X3_numberAt) rfl rfl rfl (by decide +kernel) ⟨by decide, by decide⟩) hK hP hS q7.2 (by decide) rfl rfl hl.1 rfl (Nat.le_of_ble_eq_true rfl) dX0_tell_113 ⟨Nat.zero_le _, Nat.zero_le _⟩ (fun x113 v9 H locs hv9 hP hS => ?_)
    rw [hv9.1] at hP
    have ex113 := hv9.2
    exact W.iret (v := x113) hx hb hr (fun t ht hW => ⟨⟨x113, v, rfl, ⟨rfl, by rw [ex113, ex110, hf.z (ch0_2 ho).2 (by decide) (by omega) 4, hf.z (ch0_2 ho).2 (by decide) (by omega) 5, s1_6]; decide⟩, by rw [ht]; exact hP, va_K.moved hW.alike hK⟩, hS.F ht⟩) hS.2.2 dX0_tell_116
  by_cases s1_7 : p1 = 7
  · refine lv_tableIn (tgt := 117) hx hb dX0_tell_1 (by rw [s1_7]; decide) (by rw [s1_7]; decide) (by rw [s1_7]; rfl) (by decide) ?_
    refine lv_aload_n hx hb dX0_tell_117 rfl (lv_at hl 0 rfl) ?_
    have q10 := ch0_3 ho
    refine w_gR (C := RX0) (T := TX0) (N := 15) (ci := 0) hx hb hts in0 hown hK hP 3 ho.1 ho rfl (by decide) q10.1 (hts _ mf_X0_21) dX0_tell_118 ?_
    refine w_gI (C := RX1) (T := TX1) (N := 15) (ci := 1) hx hb hts in1 hown hK hP 10 q10.2.1 q10.2 rfl (by decide) (hts _ mf_X0_146) dX0_tell_121 ?_
    refine lv_topi (fun x121 ex121 => ?_)
    exact W.iret (v := x121) hx hb hr (fun t ht hW => ⟨⟨x121, v, rfl, ⟨rfl, by rw [ex121, hf.z (ch0_3 ho).2 (by decide) (by omega) 10, s1_7]; decide⟩, by rw [ht]; exact hP, va_K.moved hW.alike hK⟩, hS.F ht⟩) hS.2.2 dX0_tell_124
  by_cases s1_8 : p1 = 8
  · refine lv_tableIn (tgt := 125) hx hb dX0_tell_1 (by rw [s1_8]; decide) (by rw [s1_8]; decide) (by rw [s1_8]; rfl) (by decide) ?_
    refine lv_aload_n hx hb dX0_tell_125 rfl (lv_at hl 0 rfl) ?_
    have q11 := ch0_5 ho
    refine w_gR (C := RX0) (T := TX0) (N := 15) (ci := 0) hx hb hts in0 hown hK hP 5 ho.1 ho rfl (by decide) q11.1 (hts _ mf_X0_35) dX0_tell_126 ?_
    refine w_gI (C := RX6) (T := TX6) (N := 4) (ci := 6) hx hb hts in6 hown hK hP 2 q11.2.1 q11.2 rfl (by decide) (hts _ mf_X0_149) dX0_tell_129 ?_
    refine lv_topi (fun x129 ex129 => ?_)
    exact W.iret (v := x129) hx hb hr (fun t ht hW => ⟨⟨x129, v, rfl, ⟨rfl, by rw [ex129, hf.z (ch0_5 ho).2 (by decide) (by omega) 2, s1_8]; decide⟩, by rw [ht]; exact hP, va_K.moved hW.alike hK⟩, hS.F ht⟩) hS.2.2 dX0_tell_132
  by_cases s1_9 : p1 = 9
  · refine lv_tableIn (tgt := 133) hx hb dX0_tell_1 (by rw [s1_9]; decide) (by rw [s1_9]; decide) (by rw [s1_9]; rfl) (by decide) ?_
    refine lv_aload_n hx hb dX0_tell_133 rfl (lv_at hl 0 rfl) ?_
    refine w_gI (C := RX0) (T := TX0) (N := 15) (ci := 0) hx hb hts in0 hown hK hP 11 ho.1 ho rfl (by decide) (hts _ mf_X0_46) dX0_tell_134 ?_
    refine lv_topi (fun x134 ex134 => ?_)
    exact W.iret (v := x134) hx hb hr (fun t ht hW => ⟨⟨x134, v, rfl, ⟨rfl, by rw [ex134, hf.e11 ho, s1_9]; decide⟩, by rw [ht]; exact hP, va_K.moved hW.alike hK⟩, hS.F ht⟩) hS.2.2 dX0_tell_137
  refine lv_tableOut (tgt := 138) hx hb dX0_tell_1 (by have := lv_neT s1_0 (a := 0) (by decide); have := lv_neT s1_1 (a := 1) (by decide); have := lv_neT s1_2 (a := 2) (by decide); have := lv_neT s1_3 (a := 3) (by decide); have := lv_neT s1_4 (a := 4) (by decide); have := lv_neT s1_5 (a := 5) (by decide); have := lv_neT s1_6 (a := 6) (by decide); have := lv_neT s1_7 (a := 7) (by decide); have := lv_neT s1_8 (a := 8) (by decide); have := lv_neT s1_9 (a := 9) (by decide); omega) (by decide) ?_
  refine lv_iconst (v := -1) hx hb dX0_tell_138 (by decide) ?_
  exact W.iret (v := (-1)) hx hb hr (fun t ht hW => ⟨⟨(-1), v, rfl, ⟨rfl, by simp only [told0]; rw [if_neg (by simp_all), if_neg s1_5]⟩, by rw [ht]; exact hP, va_K.moved hW.alike hK⟩, hS.F ht⟩) hS.2.2 dX0_tell_139
