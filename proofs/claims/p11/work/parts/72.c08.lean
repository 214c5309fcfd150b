def w_X3_readReceipt (o : Nat) (p1 : Int32) (p2 : Int32) (v : VV) (Q : VV → Prop) : Prop :=
  ∀ x2 : Int32, x2 = v o 4 → ∀ x5 : Int32, x5 = p1 - x2 → ∀ x8 : Int32, x8 = x5 &&& 127 → ∀ x12 : Int32, x12 = v o 3 → (x8 ≤ x12 → ∀ x21 : Int32, x21 = v o 1 → ∀ x25 : Int32, x25 = x21 + x8 → ∀ x28 : Int32, x28 = x25 - x25 / 40 * 40 → ∀ v1 : VV, v1 = up2 v o 1 x28 → ∀ x34 : Int32, x34 = v1 o 2 → ∀ x38 : Int32, x38 = x34 - x8 → ∀ v2 : VV, v2 = up2 v1 o 2 x38 → ∀ x44 : Int32, x44 = v2 o 3 → ∀ x48 : Int32, x48 = x44 - x8 → ∀ v3 : VV, v3 = up2 v2 o 3 x48 → ∀ v4 : VV, v4 = up2 v3 o 4 p1 → ∀ v5 : VV, v5 = up2 v4 o 5 p2 → Q v5) ∧ (¬ x8 ≤ x12 → Q v)
set_option maxHeartbeats 4000000 in
set_option maxRecDepth 100000 in
/-- TransportFour$Outbox.readReceipt -/
theorem t_X3_readReceipt (l : Launch) (dC : Nat → ClassId) (dI : Nat → Nat → Nat) (base : Nat) (cy : Nat → ClassId) (o : Nat) (ho : isO 3 o) (p1 : Int32) (p2 : Int32) (v : VV) (Q : VV → Prop) (hw : w_X3_readReceipt o p1 p2 v Q) : CV l yX3_readReceipt (.code yX3_readReceipt cX3_readReceipt 4 none :: TB) { frames := 0, cells := 0, slots := 0, locals := 0 } dC dI base cy [.ref (base + o), .int p1, .int p2] v Q := by
  refine Met.ofW (cc := cX3_readReceipt) (maxL := 4) (ret := none) (by decide) rfl ?_
  intro p e s m args below meth c s₁ B hml hv
  obtain ⟨rfl, hP, hK⟩ := hv
  have hx := B.exec
  have hb := B.bytes
  have hr := B.returns
  have hts0 := atoms_spec (ws := (.code yX3_readReceipt cX3_readReceipt 4 none :: TB)) B.pre
  have hts : ∀ w ∈ TB, w.before ([.ref (base + o), .int p1, .int p2]).toArray s = true := fun w h => hts0 w (List.mem_cons_of_mem _ h)
  have hown : s.vm.findClass RX3 = some m.cls := findClass_of_methodNamed B.named
  have hlocks := B.notSynchronized
  have hS : va_S (fun q => base ≤ q) s.heap s.heap [] := va_S.rf
  have hl := lv_entry ([.ref (base + o), .int p1, .int p2]) (n := 4) (Nat.le_of_ble_eq_true rfl)
  rw [lg_entry_eq]
  generalize (lg_sl ([.ref (base + o), .int p1, .int p2]) ++ List.replicate (4 - (lg_sl ([.ref (base + o), .int p1, .int p2])).length) Slot.unset).toArray = ls at hl ⊢
  have hl : lv_has ls 4 [(0, .ref (base + o)), (1, .int p1), (2, .int p2)] := hl
  have hret : ∀ (pc : Nat) (v : VV) (H : Heap) (locs : List Loc) (ls : Array Slot), decode cX3_readReceipt pc = .ok (.return_, 1) → Q v → va_P (dC, dI) vwCl (Wd base cy rf v 874) H → va_S (fun q => base ≤ q) s.heap H locs → W p l e { frames := 0, cells := 0, slots := 0, locals := 0 } s m ([.ref (base + o), .int p1, .int p2]).toArray below meth c H locs 0 0 (MQ below (va_Qv Q (Hp dC dI base cy) (fun q => base ≤ q)) ([.ref (base + o), .int p1, .int p2]).toArray s 0 0 (fun q => base ≤ q)) (F0 m pc ls []) := fun pc v H locs ls hd hq hP hS => W.vret hx hb hr (fun t ht hW => ⟨⟨v, rfl, hq, by rw [ht]; exact hP, va_K.moved hW.alike hK⟩, hS.F ht⟩) hS.2.2 hd
  refine lv_iload_n hx hb dX3_readReceipt_0 rfl (lv_at hl 1 rfl) ?_
  refine lv_aload_n hx hb dX3_readReceipt_1 rfl (lv_at hl 0 rfl) ?_
  refine w_gI (C := RX3) (T := TX3) (N := 6) (ci := 3) hx hb hts in3 hown hK hP 4 ho.1 ho rfl (by decide) (hts _ mf_X3_25) dX3_readReceipt_2 ?_
  refine lv_topi (fun x2 ex2 => ?_)
  have hw := hw x2 ex2
  refine lv_isub hx hb dX3_readReceipt_5 ?_
  refine lv_topi (fun x5 ex5 => ?_)
  have hw := hw x5 ex5
  refine lv_bipush (v := 127) hx hb dX3_readReceipt_6 (by decide) ?_
  refine lv_iand hx hb dX3_readReceipt_8 ?_
  refine lv_topi (fun x8 ex8 => ?_)
  have hw := hw x8 ex8
  refine lv_istore_n (lv' := [(3, .int x8), (0, .ref (base + o)), (1, .int p1), (2, .int p2)]) hx hb dX3_readReceipt_9 rfl hl (by decide) rfl (fun ls hl => ?_)
  refine lv_iload_n hx hb dX3_readReceipt_10 rfl (lv_at hl 0 rfl) ?_
  refine lv_aload_n hx hb dX3_readReceipt_11 rfl (lv_at hl 1 rfl) ?_
  refine w_gI (C := RX3) (T := TX3) (N := 6) (ci := 3) hx hb hts in3 hown hK hP 3 ho.1 ho rfl (by decide) (hts _ mf_X3_22) dX3_readReceipt_12 ?_
  refine lv_topi (fun x12 ex12 => ?_)
  have hw := hw x12 ex12
  refine lv_icmp_le (tgt := 19) hx hb dX3_readReceipt_15 (by decide) (fun c15 => ?_) (fun c15 => ?_)
  · have hw := hw.1 c15
    refine lv_aload_n hx hb dX3_readReceipt_19 rfl (lv_at hl 1 rfl) ?_
    refine lv_aload_n hx hb dX3_readReceipt_20 rfl (lv_at hl 1 rfl) ?_
    refine w_gI (C := RX3) (T := TX3) (N := 6) (ci := 3) hx hb hts in3 hown hK hP 1 ho.1 ho rfl (by decide) (hts _ mf_X3_31) dX3_readReceipt_21 ?_
    refine lv_topi (fun x21 ex21 => ?_)
    have hw := hw x21 ex21
    refine lv_iload_n hx hb dX3_readReceipt_24 rfl (lv_at hl 0 rfl) ?_
    refine lv_iadd hx hb dX3_readReceipt_25 ?_
    refine lv_topi (fun x25 ex25 => ?_)
    have hw := hw x25 ex25
    refine lv_bipush (v := 40) hx hb dX3_readReceipt_26 (by decide) ?_
    refine lv_irem hx hb dX3_readReceipt_28 (by decide) ?_
    refine lv_topi (fun x28 ex28 => ?_)
    have hw := hw x28 ex28
    refine w_pI (C := RX3) (T := TX3) (N := 6) (ci := 3) hx hb hts in3 tyX3 tyX3_ok nmX3 hown hK hP hS 1 ho.1 ho rfl (by decide) (hts _ mf_X3_31) rfl (ty := .int) (by decide +kernel) rfl rfl dX3_readReceipt_29 (fun v1 H locs hv1 hP hz hS => ?_)
    have hw := hw v1 hv1
    refine lv_aload_n hx hb dX3_readReceipt_32 rfl (lv_at hl 1 rfl) ?_
    refine lv_dup hx hb dX3_readReceipt_33 rfl ?_
    refine w_gI (C := RX3) (T := TX3) (N := 6) (ci := 3) hx hb hts in3 hown hK hP 2 ho.1 ho rfl (by decide) (hts _ mf_X3_18) dX3_readReceipt_34 ?_
    refine lv_topi (fun x34 ex34 => ?_)
    have hw := hw x34 ex34
    refine lv_iload_n hx hb dX3_readReceipt_37 rfl (lv_at hl 0 rfl) ?_
    refine lv_isub hx hb dX3_readReceipt_38 ?_
    refine lv_topi (fun x38 ex38 => ?_)
    have hw := hw x38 ex38
    refine w_pI (C := RX3) (T := TX3) (N := 6) (ci := 3) hx hb hts in3 tyX3 tyX3_ok nmX3 hown hK hP hS 2 ho.1 ho rfl (by decide) (hts _ mf_X3_18) rfl (ty := .int) (by decide +kernel) rfl rfl dX3_readReceipt_39 (fun v2 H locs hv2 hP hz hS => ?_)
    have hw := hw v2 hv2
    refine lv_aload_n hx hb dX3_readReceipt_42 rfl (lv_at hl 1 rfl) ?_
    refine lv_dup hx hb dX3_readReceipt_43 rfl ?_
    refine w_gI (C := RX3) (T := TX3) (N := 6) (ci := 3) hx hb hts in3 hown hK hP 3 ho.1 ho rfl (by decide) (hts _ mf_X3_22) dX3_readReceipt_44 ?_
    refine lv_topi (fun x44 ex44 => ?_)
    have hw := hw x44 ex44
    refine lv_iload_n hx hb dX3_readReceipt_47 rfl (lv_at hl 0 rfl) ?_
    refine lv_isub hx hb dX3_readReceipt_48 ?_
    refine lv_topi (fun x48 ex48 => ?_)
    have hw := hw x48 ex48
    refine w_pI (C := RX3) (T := TX3) (N := 6) (ci := 3) hx hb hts in3 tyX3 tyX3_ok nmX3 hown hK hP hS 3 ho.1 ho rfl (by decide) (hts _ mf_X3_22) rfl (ty := .int) (by decide +kernel) rfl rfl dX3_readReceipt_49 (fun v3 H locs hv3 hP hz hS => ?_)
    have hw := hw v3 hv3
    refine lv_aload_n hx hb dX3_readReceipt_52 rfl (lv_at hl 1 rfl) ?_
    refine lv_iload_n hx hb dX3_readReceipt_53 rfl (lv_at hl 2 rfl) ?_
    refine w_pI (C := RX3) (T := TX3) (N := 6) (ci := 3) hx hb hts in3 tyX3 tyX3_ok nmX3 hown hK hP hS 4 ho.1 ho rfl (by decide) (hts _ mf_X3_25) rfl (ty := .int) (by decide +kernel) rfl rfl dX3_readReceipt_54 (fun v4 H locs hv4 hP hz hS => ?_)
    have hw := hw v4 hv4
    refine lv_aload_n hx hb dX3_readReceipt_57 rfl (lv_at hl 1 rfl) ?_
    refine lv_iload_n hx hb dX3_readReceipt_58 rfl (lv_at hl 3 rfl) ?_
    refine w_pI (C := RX3) (T := TX3) (N := 6) (ci := 3) hx hb hts in3 tyX3 tyX3_ok nmX3 hown hK hP hS 5 ho.1 ho rfl (by decide) (hts _ mf_X3_28) rfl (ty := .int) (by decide +kernel) rfl rfl dX3_readReceipt_59 (fun v5 H locs hv5 hP hz hS => ?_)
    have hw := hw v5 hv5
    exact hret _ _ _ _ _ dX3_readReceipt_62 hw hP hS
  · have hw := hw.2 c15
    exact hret _ _ _ _ _ dX3_readReceipt_18 hw hP hS
def w_X7_readReceipt (o : Nat) (p1 : Int32) (v : VV) (Q : VV → Prop) : Prop :=
  ∀ x1 : Int32, x1 = v o 3 → ∀ x5 : Int32, x5 = x1 + 1 → ∀ x8 : Int32, x8 = x5 &&& 127 → ∀ x11 : Int32, x11 = v o 2 → (x11 = 0 → Q v) ∧ (¬ x11 = 0 → ∀ x21 : Int32, x21 = v (o + 2) 0 → (x21 = 0 → Q v) ∧ (¬ x21 = 0 → (p1 = x8 → ∀ x35 : Int32, x35 = v o 2 → ∀ x39 : Int32, x39 = x35 - 1 → ∀ v1 : VV, v1 = up2 v o 2 x39 → ∀ x54 : Int32, x54 = v1 o 2 → (¬ (1 : Int32) < 0 ∧ ¬ (0 : Int32) < 0 ∧ ¬ x54 < 0 ∧ (Int32.toNatClampNeg 1) + (Int32.toNatClampNeg x54) ≤ 8 ∧ (Int32.toNatClampNeg 0) + (Int32.toNatClampNeg x54) ≤ 8) ∧ ∀ v2 : VV, v2 = up1 v1 (o + 1) (va_cpy (v1 (o + 1)) (v1 (o + 1)) (Int32.toNatClampNeg 1) (Int32.toNatClampNeg 0) (Int32.toNatClampNeg x54)) → ∀ v3 : VV, v3 = up2 v2 o 3 x8 → w_X8_clear (o + 2) v3 (fun (v4 : VV) => Q v4)) ∧ (¬ p1 = x8 → Q v)))
set_option maxHeartbeats 4000000 in
set_option maxRecDepth 100000 in
/-- TransportFour$UrgentOut.readReceipt -/
theorem t_X7_readReceipt (l : Launch) (dC : Nat → ClassId) (dI : Nat → Nat → Nat) (base : Nat) (cy : Nat → ClassId) (o : Nat) (ho : isO 7 o) (p1 : Int32) (v : VV) (Q : VV → Prop) (hw : w_X7_readReceipt o p1 v Q) : CV l yX7_readReceipt (.code yX7_readReceipt cX7_readReceipt 3 none :: TB) { frames := 1, cells := 0, slots := 0, locals := 26 } dC dI base cy [.ref (base + o), .int p1] v Q := by
  refine Met.ofW (cc := cX7_readReceipt) (maxL := 3) (ret := none) (by decide) rfl ?_
  intro p e s m args below meth c s₁ B hml hv
  obtain ⟨rfl, hP, hK⟩ := hv
  have hx := B.exec
  have hb := B.bytes
  have hr := B.returns
  have hts0 := atoms_spec (ws := (.code yX7_readReceipt cX7_readReceipt 3 none :: TB)) B.pre
  have hts : ∀ w ∈ TB, w.before ([.ref (base + o), .int p1]).toArray s = true := fun w h => hts0 w (List.mem_cons_of_mem _ h)
  have hown : s.vm.findClass RX7 = some m.cls := findClass_of_methodNamed B.named
  have hlocks := B.notSynchronized
  have hS : va_S (fun q => base ≤ q) s.heap s.heap [] := va_S.rf
  have hl := lv_entry ([.ref (base + o), .int p1]) (n := 3) (Nat.le_of_ble_eq_true rfl)
  rw [lg_entry_eq]
  generalize (lg_sl ([.ref (base + o), .int p1]) ++ List.replicate (3 - (lg_sl ([.ref (base + o), .int p1])).length) Slot.unset).toArray = ls at hl ⊢
  have hl : lv_has ls 3 [(0, .ref (base + o)), (1, .int p1)] := hl
  have hret : ∀ (pc : Nat) (v : VV) (H : Heap) (locs : List Loc) (ls : Array Slot), decode cX7_readReceipt pc = .ok (.return_, 1) → Q v → va_P (dC, dI) vwCl (Wd base cy rf v 874) H → va_S (fun q => base ≤ q) s.heap H locs → W p l e { frames := 1, cells := 0, slots := 0, locals := 26 } s m ([.ref (base + o), .int p1]).toArray below meth c H locs 0 0 (MQ below (va_Qv Q (Hp dC dI base cy) (fun q => base ≤ q)) ([.ref (base + o), .int p1]).toArray s 0 0 (fun q => base ≤ q)) (F0 m pc ls []) := fun pc v H locs ls hd hq hP hS => W.vret hx hb hr (fun t ht hW => ⟨⟨v, rfl, hq, by rw [ht]; exact hP, va_K.moved hW.alike hK⟩, hS.F ht⟩) hS.2.2 hd
  refine lv_aload_n hx hb dX7_readReceipt_0 rfl (lv_at hl 0 rfl) ?_
  refine w_gI (C := RX7) (T := TX7) (N := 4) (ci := 7) hx hb hts in7 hown hK hP 3 ho.1 ho rfl (by decide) (hts _ mf_X7_26) dX7_readReceipt_1 ?_
  refine lv_topi (fun x1 ex1 => ?_)
  have hw := hw x1 ex1
  refine lv_iconst (v := 1) hx hb dX7_readReceipt_4 (by decide) ?_
  refine lv_iadd hx hb dX7_readReceipt_5 ?_
  refine lv_topi (fun x5 ex5 => ?_)
  have hw := hw x5 ex5
  refine lv_bipush (v := 127) hx hb dX7_readReceipt_6 (by decide) ?_
  refine lv_iand hx hb dX7_readReceipt_8 ?_
  refine lv_topi (fun x8 ex8 => ?_)
  have hw := hw x8 ex8
  refine lv_istore_n (lv' := [(2, .int x8), (0, .ref (base + o)), (1, .int p1)]) hx hb dX7_readReceipt_9 rfl hl (by decide) rfl (fun ls hl => ?_)
  refine lv_aload_n hx hb dX7_readReceipt_10 rfl (lv_at hl 1 rfl) ?_
  refine w_gI (C := RX7) (T := TX7) (N := 4) (ci := 7) hx hb hts in7 hown hK hP 2 ho.1 ho rfl (by decide) (hts _ mf_X7_22) dX7_readReceipt_11 ?_
  refine lv_topi (fun x11 ex11 => ?_)
  have hw := hw x11 ex11
  refine lv_if_eq (tgt := 32) hx hb dX7_readReceipt_14 (by decide) (fun c14 => ?_) (fun c14 => ?_)
  · have hw := hw.1 c14
    exact hret _ _ _ _ _ dX7_readReceipt_32 hw hP hS
  · have hw := hw.2 c14
    refine lv_aload_n hx hb dX7_readReceipt_17 rfl (lv_at hl 1 rfl) ?_
    refine w_gR (C := RX7) (T := TX7) (N := 4) (ci := 7) hx hb hts in7 hown hK hP 1 ho.1 ho rfl (by decide) (ch7_1 ho).1 (hts _ mf_X7_18) dX7_readReceipt_18 ?_
    refine w_gI (C := RX8) (T := TX8) (N := 2) (ci := 8) hx hb hts in8 hown hK hP 0 (ch7_1 ho).2.1 (ch7_1 ho).2 rfl (by decide) (hts _ mf_X7_32) dX7_readReceipt_21 ?_
    refine lv_topi (fun x21 ex21 => ?_)
    have hw := hw x21 ex21
    refine lv_if_eq (tgt := 32) hx hb dX7_readReceipt_24 (by decide) (fun c24 => ?_) (fun c24 => ?_)
    · have hw := hw.1 c24
      exact hret _ _ _ _ _ dX7_readReceipt_32 hw hP hS
    · have hw := hw.2 c24
      refine lv_iload_n hx hb dX7_readReceipt_27 rfl (lv_at hl 2 rfl) ?_
      refine lv_iload_n hx hb dX7_readReceipt_28 rfl (lv_at hl 0 rfl) ?_
      refine lv_icmp_eq (tgt := 33) hx hb dX7_readReceipt_29 (by decide) (fun c29 => ?_) (fun c29 => ?_)
      · have hw := hw.1 c29
        refine lv_aload_n hx hb dX7_readReceipt_33 rfl (lv_at hl 1 rfl) ?_
        refine lv_dup hx hb dX7_readReceipt_34 rfl ?_
        refine w_gI (C := RX7) (T := TX7) (N := 4) (ci := 7) hx hb hts in7 hown hK hP 2 ho.1 ho rfl (by decide) (hts _ mf_X7_22) dX7_readReceipt_35 ?_
        refine lv_topi (fun x35 ex35 => ?_)
        have hw := hw x35 ex35
        refine lv_iconst (v := 1) hx hb dX7_readReceipt_38 (by decide) ?_
        refine lv_isub hx hb dX7_readReceipt_39 ?_
        refine lv_topi (fun x39 ex39 => ?_)
        have hw := hw x39 ex39
        refine w_pI (C := RX7) (T := TX7) (N := 4) (ci := 7) hx hb hts in7 tyX7 tyX7_ok nmX7 hown hK hP hS 2 ho.1 ho rfl (by decide) (hts _ mf_X7_22) rfl (ty := .int) (by decide +kernel) rfl rfl dX7_readReceipt_40 (fun v1 H locs hv1 hP hz hS => ?_)
        have hw := hw v1 hv1
        refine lv_aload_n hx hb dX7_readReceipt_43 rfl (lv_at hl 1 rfl) ?_
        refine w_gR (C := RX7) (T := TX7) (N := 4) (ci := 7) hx hb hts in7 hown hK hP 0 ho.1 ho rfl (by decide) (ch7_0 ho).1 (hts _ mf_X7_9) dX7_readReceipt_44 ?_
        refine lv_iconst (v := 1) hx hb dX7_readReceipt_47 (by decide) ?_
        refine lv_aload_n hx hb dX7_readReceipt_48 rfl (lv_at hl 1 rfl) ?_
        refine w_gR (C := RX7) (T := TX7) (N := 4) (ci := 7) hx hb hts in7 hown hK hP 0 ho.1 ho rfl (by decide) (ch7_0 ho).1 (hts _ mf_X7_9) dX7_readReceipt_49 ?_
        refine lv_iconst (v := 0) hx hb dX7_readReceipt_52 (by decide) ?_
        refine lv_aload_n hx hb dX7_readReceipt_53 rfl (lv_at hl 1 rfl) ?_
        refine w_gI (C := RX7) (T := TX7) (N := 4) (ci := 7) hx hb hts in7 hown hK hP 2 ho.1 ho rfl (by decide) (hts _ mf_X7_22) dX7_readReceipt_54 ?_
        refine lv_topi (fun x54 ex54 => ?_)
        have hw := hw x54 ex54
        obtain ⟨hcp, hw⟩ := hw
        refine w_cp hx hb (hml.trans hl.1.symm) hown (hts _ ml_X7_35) (hts _ mcp_n) (hts _ mcp_s) (hts _ mcp_i) hK hP hS (ch7_0 ho).2.1.1 (ch7_0 ho).2.1 (ch7_0 ho).2.2 (ch7_0 ho).2.1.1 (ch7_0 ho).2.1 (ch7_0 ho).2.2 hcp (by decide) (Nat.le_of_ble_eq_true rfl) dX7_readReceipt_57 (fun v2 H locs hv2 hP hS => ?_)
        have hw := hw v2 hv2
        refine lv_aload_n hx hb dX7_readReceipt_60 rfl (lv_at hl 1 rfl) ?_
        refine lv_iload_n hx hb dX7_readReceipt_61 rfl (lv_at hl 0 rfl) ?_
        refine w_pI (C := RX7) (T := TX7) (N := 4) (ci := 7) hx hb hts in7 tyX7 tyX7_ok nmX7 hown hK hP hS 3 ho.1 ho rfl (by decide) (hts _ mf_X7_26) rfl (ty := .int) (by decide +kernel) rfl rfl dX7_readReceipt_62 (fun v3 H locs hv3 hP hz hS => ?_)
        have hw := hw v3 hv3
        refine lv_aload_n hx hb dX7_readReceipt_65 rfl (lv_at hl 1 rfl) ?_
        refine w_gR (C := RX7) (T := TX7) (N := 4) (ci := 7) hx hb hts in7 hown hK hP 1 ho.1 ho rfl (by decide) (ch7_1 ho).1 (hts _ mf_X7_18) dX7_readReceipt_66 ?_
        refine k_V (As := []) (rest := []) ⟨hx, hb, hml, hown, hts⟩ (t_X8_clear l dC dI base cy (o + 2) (ch7_1 ho).2 v3 _ hw) (cwV 0 hts (gV ml_X7_29 mi_X8_clear mx_X8_clear mn_X8 mo_X8_clear) rfl rfl rfl (by decide +kernel) ⟨by decide, by decide⟩) hK hP hS (ch7_1 ho).2 (by decide) rfl rfl hl.1 rfl (Nat.le_of_ble_eq_true rfl) dX7_readReceipt_69 ⟨Nat.zero_le _, Nat.zero_le _⟩ (fun v4 H locs hw hP hS => ?_)
        exact hret _ _ _ _ _ dX7_readReceipt_72 hw hP hS
      · have hw := hw.2 c29
        exact hret _ _ _ _ _ dX7_readReceipt_32 hw hP hS
def w_X5_reason (o : Nat) (v : VV) (Q : Int32 → VV → Prop) : Prop :=
  ∀ x6 : Int32, x6 = v (o + 1) (Int32.toNatClampNeg 6) → Q x6 v
set_option maxHeartbeats 4000000 in
set_option maxRecDepth 100000 in
/-- TransportFour$Unit.reason -/
theorem t_X5_reason (l : Launch) (dC : Nat → ClassId) (dI : Nat → Nat → Nat) (base : Nat) (cy : Nat → ClassId) (o : Nat) (ho : isO 5 o) (v : VV) (Q : Int32 → VV → Prop) (hw : w_X5_reason o v Q) : CI l yX5_reason (.code yX5_reason cX5_reason 1 (some .int) :: TB) { frames := 0, cells := 0, slots := 0, locals := 0 } dC dI base cy [.ref (base + o)] v Q := by
  refine Met.ofW (cc := cX5_reason) (maxL := 1) (ret := (some .int)) (by decide) rfl ?_
  intro p e s m args below meth c s₁ B hml hv
  obtain ⟨rfl, hP, hK⟩ := hv
  have hx := B.exec
  have hb := B.bytes
  have hr := B.returns
  have hts0 := atoms_spec (ws := (.code yX5_reason cX5_reason 1 (some .int) :: TB)) B.pre
  have hts : ∀ w ∈ TB, w.before ([.ref (base + o)]).toArray s = true := fun w h => hts0 w (List.mem_cons_of_mem _ h)
  have hown : s.vm.findClass RX5 = some m.cls := findClass_of_methodNamed B.named
  have hlocks := B.notSynchronized
  have hS : va_S (fun q => base ≤ q) s.heap s.heap [] := va_S.rf
  have hl := lv_entry ([.ref (base + o)]) (n := 1) (Nat.le_of_ble_eq_true rfl)
  rw [lg_entry_eq]
  generalize (lg_sl ([.ref (base + o)]) ++ List.replicate (1 - (lg_sl ([.ref (base + o)])).length) Slot.unset).toArray = ls at hl ⊢
  have hl : lv_has ls 1 [(0, .ref (base + o))] := hl
  have hret : ∀ (pc : Nat) (x : Int32) (v : VV) (H : Heap) (locs : List Loc) (ls : Array Slot), decode cX5_reason pc = .ok (.ireturn, 1) → Q x v → va_P (dC, dI) vwCl (Wd base cy rf v 874) H → va_S (fun q => base ≤ q) s.heap H locs → W p l e { frames := 0, cells := 0, slots := 0, locals := 0 } s m ([.ref (base + o)]).toArray below meth c H locs 0 0 (MQ below (va_Qi Q (Hp dC dI base cy) (fun q => base ≤ q)) ([.ref (base + o)]).toArray s 0 0 (fun q => base ≤ q)) (F0 m pc ls [.int x]) := fun pc x v H locs ls hd hq hP hS => W.iret (v := x) hx hb hr (fun t ht hW => ⟨⟨x, v, rfl, hq, by rw [ht]; exact hP, va_K.moved hW.alike hK⟩, hS.F ht⟩) hS.2.2 hd
  refine lv_aload_n hx hb dX5_reason_0 rfl (lv_at hl 0 rfl) ?_
  refine w_gR (C := RX5) (T := TX5) (N := 7) (ci := 5) hx hb hts in5 hown hK hP 0 ho.1 ho rfl (by decide) (ch5_0 ho).1 (hts _ mf_X5_9) dX5_reason_1 ?_
  refine lv_bipush (v := 6) hx hb dX5_reason_4 (by decide) ?_
  refine w_ia (N := 17) hx hb hK hP (ch5_0 ho).2.1.1 (ch5_0 ho).2.1 (ch5_0 ho).2.2 (vp_in_nI (n := 6) (by decide) (by decide)) dX5_reason_6 ?_
  refine lv_topi (fun x6 ex6 => ?_)
  have hw := hw x6 ex6
  exact hret _ _ _ _ _ _ dX5_reason_7 hw hP hS
def w_X0_freeze (o : Nat) (v : VV) (Q : VV → Prop) : Prop :=
  ∀ v1 : VV, v1 = up2 v o 8 4 → ∀ x10 : Int32, x10 = v1 1 10 → ∀ v2 : VV, v2 = up2 v1 o 14 x10 → Q v2
set_option maxHeartbeats 4000000 in
set_option maxRecDepth 100000 in
/-- TransportFour$End.freeze -/
theorem t_X0_freeze (l : Launch) (dC : Nat → ClassId) (dI : Nat → Nat → Nat) (base : Nat) (cy : Nat → ClassId) (o : Nat) (ho : isO 0 o) (v : VV) (Q : VV → Prop) (hw : w_X0_freeze o v Q) : CV l yX0_freeze (.code yX0_freeze cX0_freeze 1 none :: TB) { frames := 0, cells := 0, slots := 0, locals := 0 } dC dI base cy [.ref (base + o)] v Q := by
  refine Met.ofW (cc := cX0_freeze) (maxL := 1) (ret := none) (by decide) rfl ?_
  intro p e s m args below meth c s₁ B hml hv
  obtain ⟨rfl, hP, hK⟩ := hv
  have hx := B.exec
  have hb := B.bytes
  have hr := B.returns
  have hts0 := atoms_spec (ws := (.code yX0_freeze cX0_freeze 1 none :: TB)) B.pre
  have hts : ∀ w ∈ TB, w.before ([.ref (base + o)]).toArray s = true := fun w h => hts0 w (List.mem_cons_of_mem _ h)
  have hown : s.vm.findClass RX0 = some m.cls := findClass_of_methodNamed B.named
  have hlocks := B.notSynchronized
  have hS : va_S (fun q => base ≤ q) s.heap s.heap [] := va_S.rf
  have hl := lv_entry ([.ref (base + o)]) (n := 1) (Nat.le_of_ble_eq_true rfl)
  rw [lg_entry_eq]
  generalize (lg_sl ([.ref (base + o)]) ++ List.replicate (1 - (lg_sl ([.ref (base + o)])).length) Slot.unset).toArray = ls at hl ⊢
  have hl : lv_has ls 1 [(0, .ref (base + o))] := hl
  have hret : ∀ (pc : Nat) (v : VV) (H : Heap) (locs : List Loc) (ls : Array Slot), decode cX0_freeze pc = .ok (.return_, 1) → Q v → va_P (dC, dI) vwCl (Wd base cy rf v 874) H → va_S (fun q => base ≤ q) s.heap H locs → W p l e { frames := 0, cells := 0, slots := 0, locals := 0 } s m ([.ref (base + o)]).toArray below meth c H locs 0 0 (MQ below (va_Qv Q (Hp dC dI base cy) (fun q => base ≤ q)) ([.ref (base + o)]).toArray s 0 0 (fun q => base ≤ q)) (F0 m pc ls []) := fun pc v H locs ls hd hq hP hS => W.vret hx hb hr (fun t ht hW => ⟨⟨v, rfl, hq, by rw [ht]; exact hP, va_K.moved hW.alike hK⟩, hS.F ht⟩) hS.2.2 hd
  refine lv_aload_n hx hb dX0_freeze_0 rfl (lv_at hl 0 rfl) ?_
  refine lv_iconst (v := 4) hx hb dX0_freeze_1 (by decide) ?_
  refine w_pI (C := RX0) (T := TX0) (N := 15) (ci := 0) hx hb hts in0 tyX0 tyX0_ok nmX0 hown hK hP hS 8 ho.1 ho rfl (by decide) (hts _ mf_X0_57) rfl (ty := .int) (by decide +kernel) rfl rfl dX0_freeze_2 (fun v1 H locs hv1 hP hz hS => ?_)
  have hw := hw v1 hv1
  refine lv_aload_n hx hb dX0_freeze_5 rfl (lv_at hl 0 rfl) ?_
  refine lv_aload_n hx hb dX0_freeze_6 rfl (lv_at hl 0 rfl) ?_
  refine w_gR (C := RX0) (T := TX0) (N := 15) (ci := 0) hx hb hts in0 hown hK hP 1 ho.1 ho rfl (by decide) (ch0_1 ho).1 (hts _ mf_X0_53) dX0_freeze_7 ?_
  refine w_gI (C := RX2) (T := TX2) (N := 11) (ci := 2) hx hb hts in2 hown hK hP 10 (ch0_1 ho).2.1 (ch0_1 ho).2 rfl (by decide) (hts _ mf_X0_88) dX0_freeze_10 ?_
  refine lv_topi (fun x10 ex10 => ?_)
  have hw := hw x10 ex10
  refine w_pI (C := RX0) (T := TX0) (N := 15) (ci := 0) hx hb hts in0 tyX0 tyX0_ok nmX0 hown hK hP hS 14 ho.1 ho rfl (by decide) (hts _ mf_X0_152) rfl (ty := .int) (by decide +kernel) rfl rfl dX0_freeze_13 (fun v2 H locs hv2 hP hz hS => ?_)
  have hw := hw v2 hv2
  exact hret _ _ _ _ _ dX0_freeze_16 hw hP hS
def w_X0_hearEnd (o : Nat) (p1 : Nat) (v : VV) (Q : VV → Prop) : Prop :=
  w_X5_reason p1 v (fun (x2 : Int32) (v1 : VV) => w_X0_noteReason o x2 v1 (fun (v2 : VV) => w_X5_from p1 v2 (fun (x13 : Int32) (v3 : VV) => ∀ x17 : Int32, x17 = v3 o 9 → w_X0_sendLink o 192 x13 x17 0 v3 (fun (v4 : VV) => ∀ x25 : Int32, x25 = v4 o 8 → (¬ x25 = 1 → w_X0_freeze o v4 (fun (v5 : VV) => Q v5)) ∧ (x25 = 1 → ∀ v6 : VV, v6 = up2 v4 o 8 0 → Q v6)))))
set_option maxHeartbeats 4000000 in
set_option maxRecDepth 100000 in
/-- TransportFour$End.hearEnd -/
theorem t_X0_hearEnd (l : Launch) (dC : Nat → ClassId) (dI : Nat → Nat → Nat) (base : Nat) (cy : Nat → ClassId) (o : Nat) (ho : isO 0 o) (p1 : Nat) (hp1 : isO 5 p1) (v : VV) (Q : VV → Prop) (hw : w_X0_hearEnd o p1 v Q) : CV l yX0_hearEnd (.code yX0_hearEnd cX0_hearEnd 2 none :: TB) { frames := 3, cells := 0, slots := 0, locals := 72 } dC dI base cy [.ref (base + o), .ref (base + p1)] v Q := by
  refine Met.ofW (cc := cX0_hearEnd) (maxL := 2) (ret := none) (by decide) rfl ?_
  intro p e s m args below meth c s₁ B hml hv
  obtain ⟨rfl, hP, hK⟩ := hv
  have hx := B.exec
  have hb := B.bytes
  have hr := B.returns
  have hts0 := atoms_spec (ws := (.code yX0_hearEnd cX0_hearEnd 2 none :: TB)) B.pre
  have hts : ∀ w ∈ TB, w.before ([.ref (base + o), .ref (base + p1)]).toArray s = true := fun w h => hts0 w (List.mem_cons_of_mem _ h)
  have hown : s.vm.findClass RX0 = some m.cls := findClass_of_methodNamed B.named
  have hlocks := B.notSynchronized
  have hS : va_S (fun q => base ≤ q) s.heap s.heap [] := va_S.rf
  have hl := lv_entry ([.ref (base + o), .ref (base + p1)]) (n := 2) (Nat.le_of_ble_eq_true rfl)
  rw [lg_entry_eq]
  generalize (lg_sl ([.ref (base + o), .ref (base + p1)]) ++ List.replicate (2 - (lg_sl ([.ref (base + o), .ref (base + p1)])).length) Slot.unset).toArray = ls at hl ⊢
  have hl : lv_has ls 2 [(0, .ref (base + o)), (1, .ref (base + p1))] := hl
  have hret : ∀ (pc : Nat) (v : VV) (H : Heap) (locs : List Loc) (ls : Array Slot), decode cX0_hearEnd pc = .ok (.return_, 1) → Q v → va_P (dC, dI) vwCl (Wd base cy rf v 874) H → va_S (fun q => base ≤ q) s.heap H locs → W p l e { frames := 3, cells := 0, slots := 0, locals := 72 } s m ([.ref (base + o), .ref (base + p1)]).toArray below meth c H locs 0 0 (MQ below (va_Qv Q (Hp dC dI base cy) (fun q => base ≤ q)) ([.ref (base + o), .ref (base + p1)]).toArray s 0 0 (fun q => base ≤ q)) (F0 m pc ls []) := fun pc v H locs ls hd hq hP hS => W.vret hx hb hr (fun t ht hW => ⟨⟨v, rfl, hq, by rw [ht]; exact hP, va_K.moved hW.alike hK⟩, hS.F ht⟩) hS.2.2 hd
  refine lv_aload_n hx hb dX0_hearEnd_0 rfl (lv_at hl 0 rfl) ?_
  refine lv_aload_n hx hb dX0_hearEnd_1 rfl (lv_at hl 1 rfl) ?_
  refine k_I (As := []) (rest := [.ref (base + o)]) ⟨hx, hb, hml, hown, hts⟩ (t_X5_reason l dC dI base cy p1 hp1 v _ hw) (cwV 0 hts (gV ml_X0_220 mi_X5_reason mx_X5_reason mn_X5 mo_X5_reason) rfl rfl rfl (by decide +kernel) ⟨by decide, by decide⟩) hK hP hS hp1 (by decide) rfl rfl hl.1 rfl (Nat.le_of_ble_eq_true rfl) dX0_hearEnd_2 ⟨Nat.zero_le _, Nat.zero_le _⟩ (fun x2 v1 H locs hw hP hS => ?_)
  refine k_V (As := [.int x2]) (rest := []) ⟨hx, hb, hml, hown, hts⟩ (t_X0_noteReason l dC dI base cy o ho x2 v1 _ hw) (cwV 1 hts (gV ml_X0_121 mi_X0_noteReason mx_X0_noteReason mn_X0 mo_X0_noteReason) rfl rfl rfl (by decide +kernel) ⟨by decide, by decide⟩) hK hP hS ho (by decide) rfl rfl hl.1 rfl (Nat.le_of_ble_eq_true rfl) dX0_hearEnd_5 ⟨Nat.zero_le _, Nat.zero_le _⟩ (fun v2 H locs hw hP hS => ?_)
  refine lv_aload_n hx hb dX0_hearEnd_8 rfl (lv_at hl 0 rfl) ?_
  refine lv_sipush (v := 192) hx hb dX0_hearEnd_9 (by decide) ?_
  refine lv_aload_n hx hb dX0_hearEnd_12 rfl (lv_at hl 1 rfl) ?_
  refine k_I (As := []) (rest := [.int 192, .ref (base + o)]) ⟨hx, hb, hml, hown, hts⟩ (t_X5_from l dC dI base cy p1 hp1 v2 _ hw) (cwV 0 hts (gV ml_X0_178 mi_X5_from mx_X5_from mn_X5 mo_X5_from) rfl rfl rfl (by decide +kernel) ⟨by decide, by decide⟩) hK hP hS hp1 (by decide) rfl rfl hl.1 rfl (Nat.le_of_ble_eq_true rfl) dX0_hearEnd_13 ⟨Nat.zero_le _, Nat.zero_le _⟩ (fun x13 v3 H locs hw hP hS => ?_)
  refine lv_aload_n hx hb dX0_hearEnd_16 rfl (lv_at hl 0 rfl) ?_
  refine w_gI (C := RX0) (T := TX0) (N := 15) (ci := 0) hx hb hts in0 hown hK hP 9 ho.1 ho rfl (by decide) (hts _ mf_X0_71) dX0_hearEnd_17 ?_
  refine lv_topi (fun x17 ex17 => ?_)
  have hw := hw x17 ex17
  refine lv_iconst (v := 0) hx hb dX0_hearEnd_20 (by decide) ?_
  refine k_V (As := [.int 192, .int x13, .int x17, .int 0]) (rest := []) ⟨hx, hb, hml, hown, hts⟩ (t_X0_sendLink l dC dI base cy o ho 192 x13 x17 0 v3 _ hw) (cwV 4 hts (gV ml_X0_181 mi_X0_sendLink mx_X0_sendLink mn_X0 mo_X0_sendLink) rfl rfl rfl (by decide +kernel) ⟨by decide, by decide⟩) hK hP hS ho (by decide) rfl rfl hl.1 rfl (Nat.le_of_ble_eq_true rfl) dX0_hearEnd_21 ⟨Nat.zero_le _, Nat.zero_le _⟩ (fun v4 H locs hw hP hS => ?_)
  refine lv_aload_n hx hb dX0_hearEnd_24 rfl (lv_at hl 0 rfl) ?_
  refine w_gI (C := RX0) (T := TX0) (N := 15) (ci := 0) hx hb hts in0 hown hK hP 8 ho.1 ho rfl (by decide) (hts _ mf_X0_57) dX0_hearEnd_25 ?_
  refine lv_topi (fun x25 ex25 => ?_)
  have hw := hw x25 ex25
  refine lv_iconst (v := 1) hx hb dX0_hearEnd_28 (by decide) ?_
  refine lv_icmp_ne (tgt := 40) hx hb dX0_hearEnd_29 (by decide) (fun c29 => ?_) (fun c29 => ?_)
  · have hw := hw.1 c29
    refine lv_aload_n hx hb dX0_hearEnd_40 rfl (lv_at hl 0 rfl) ?_
    refine k_V (As := []) (rest := []) ⟨hx, hb, hml, hown, hts⟩ (t_X0_freeze l dC dI base cy o ho v4 _ hw) (cwV 0 hts (gV ml_X0_217 mi_X0_freeze mx_X0_freeze mn_X0 mo_X0_freeze) rfl rfl rfl (by decide +kernel) ⟨by decide, by decide⟩) hK hP hS ho (by decide) rfl rfl hl.1 rfl (Nat.le_of_ble_eq_true rfl) dX0_hearEnd_41 ⟨Nat.zero_le _, Nat.zero_le _⟩ (fun v5 H locs hw hP hS => ?_)
    exact hret _ _ _ _ _ dX0_hearEnd_44 hw hP hS
  · have hw := hw.2 c29
    refine lv_aload_n hx hb dX0_hearEnd_32 rfl (lv_at hl 0 rfl) ?_
    refine lv_iconst (v := 0) hx hb dX0_hearEnd_33 (by decide) ?_
    refine w_pI (C := RX0) (T := TX0) (N := 15) (ci := 0) hx hb hts in0 tyX0 tyX0_ok nmX0 hown hK hP hS 8 ho.1 ho rfl (by decide) (hts _ mf_X0_57) rfl (ty := .int) (by decide +kernel) rfl rfl dX0_hearEnd_34 (fun v6 H locs hv6 hP hz hS => ?_)
    have hw := hw v6 hv6
    refine lv_goto (tgt := 44) hx hb dX0_hearEnd_37 (by decide) ?_
    exact hret _ _ _ _ _ dX0_hearEnd_44 hw hP hS
def w_X0_hearForConnection (o : Nat) (p1 : Nat) (p2 : Int32) (v : VV) (Q : VV → Prop) : Prop :=
  (p2 = 16 → w_X5_number p1 v (fun (x103 : Int32) (v1 : VV) => w_X5_headLengthOfKind p1 v1 (fun (x111 : Int32) (v2 : VV) => vp_in x111 17 ∧ ∀ x114 : Int32, x114 = v2 (p1 + 1) (Int32.toNatClampNeg x111) → w_X6_accept (o + 143) x103 x114 v2 (fun (v4 : VV) => ∀ x125 : Int32, x125 = v4 (o + 143) 3 → w_X0_sendNumbered o 32 x125 v4 (fun (v5 : VV) => Q v5))))) ∧ (p2 = 32 → ∀ x165 : Int32, x165 = v o 8 → (¬ x165 = 2 → Q v) ∧ (x165 = 2 → w_X5_number p1 v (fun (x177 : Int32) (v6 : VV) => w_X7_readReceipt (o + 140) x177 v6 (fun (v7 : VV) => w_X0_sendNewUrgent o v7 (fun (v8 : VV) => Q v8))))) ∧ (p2 = 96 → ∀ x135 : Int32, x135 = v o 8 → (¬ x135 = 2 → Q v) ∧ (x135 = 2 → w_X5_number p1 v (fun (x147 : Int32) (v9 : VV) => w_X5_credit p1 v9 (fun (x151 : Int32) (v10 : VV) => w_X3_readReceipt (o + 1) x147 x151 v10 (fun (v11 : VV) => w_X0_sendNewData o v11 (fun (v12 : VV) => Q v12)))))) ∧ (p2 = 128 → w_X0_hearEnd o p1 v (fun (v13 : VV) => Q v13)) ∧ (p2 = 192 → ∀ x199 : Int32, x199 = v o 8 → (¬ x199 = 3 → Q v) ∧ (x199 = 3 → w_X0_freeze o v (fun (v14 : VV) => Q v14))) ∧ (p2 = 208 → w_X0_acceptsAnswer o p1 v (fun (x70 : Int32) (v15 : VV) => (x70 = 0 → Q v15) ∧ (¬ x70 = 0 → w_X0_sendReceipt o v15 (fun (v16 : VV) => Q v16)))) ∧ (p2 = 240 → w_X1_accept (o + 123) p1 v (fun (v17 : VV) => w_X0_sendReceipt o v17 (fun (v18 : VV) => Q v18))) ∧ (¬ p2 = 16 → ¬ p2 = 32 → ¬ p2 = 96 → ¬ p2 = 128 → ¬ p2 = 192 → ¬ p2 = 208 → ¬ p2 = 240 → Q v)
set_option maxHeartbeats 4000000 in
set_option maxRecDepth 100000 in
/-- TransportFour$End.hearForConnection -/
theorem t_X0_hearForConnection (l : Launch) (dC : Nat → ClassId) (dI : Nat → Nat → Nat) (base : Nat) (cy : Nat → ClassId) (o : Nat) (ho : isO 0 o) (p1 : Nat) (hp1 : isO 5 p1) (p2 : Int32) (v : VV) (Q : VV → Prop) (hw : w_X0_hearForConnection o p1 p2 v Q) : CV l yX0_hearForConnection (.code yX0_hearForConnection cX0_hearForConnection 3 none :: TB) { frames := 4, cells := 0, slots := 0, locals := 94 } dC dI base cy [.ref (base + o), .ref (base + p1), .int p2] v Q := by
  refine Met.ofW (cc := cX0_hearForConnection) (maxL := 3) (ret := none) (by decide) rfl ?_
  intro p e s m args below meth c s₁ B hml hv
  obtain ⟨rfl, hP, hK⟩ := hv
  have hx := B.exec
  have hb := B.bytes
  have hr := B.returns
  have hts0 := atoms_spec (ws := (.code yX0_hearForConnection cX0_hearForConnection 3 none :: TB)) B.pre
  have hts : ∀ w ∈ TB, w.before ([.ref (base + o), .ref (base + p1), .int p2]).toArray s = true := fun w h => hts0 w (List.mem_cons_of_mem _ h)
  have hown : s.vm.findClass RX0 = some m.cls := findClass_of_methodNamed B.named
  have hlocks := B.notSynchronized
  have hS : va_S (fun q => base ≤ q) s.heap s.heap [] := va_S.rf
  have hl := lv_entry ([.ref (base + o), .ref (base + p1), .int p2]) (n := 3) (Nat.le_of_ble_eq_true rfl)
  rw [lg_entry_eq]
  generalize (lg_sl ([.ref (base + o), .ref (base + p1), .int p2]) ++ List.replicate (3 - (lg_sl ([.ref (base + o), .ref (base + p1), .int p2])).length) Slot.unset).toArray = ls at hl ⊢
  have hl : lv_has ls 3 [(0, .ref (base + o)), (1, .ref (base + p1)), (2, .int p2)] := hl
  have hret : ∀ (pc : Nat) (v : VV) (H : Heap) (locs : List Loc) (ls : Array Slot), decode cX0_hearForConnection pc = .ok (.return_, 1) → Q v → va_P (dC, dI) vwCl (Wd base cy rf v 874) H → va_S (fun q => base ≤ q) s.heap H locs → W p l e { frames := 4, cells := 0, slots := 0, locals := 94 } s m ([.ref (base + o), .ref (base + p1), .int p2]).toArray below meth c H locs 0 0 (MQ below (va_Qv Q (Hp dC dI base cy) (fun q => base ≤ q)) ([.ref (base + o), .ref (base + p1), .int p2]).toArray s 0 0 (fun q => base ≤ q)) (F0 m pc ls []) := fun pc v H locs ls hd hq hP hS => W.vret hx hb hr (fun t ht hW => ⟨⟨v, rfl, hq, by rw [ht]; exact hP, va_K.moved hW.alike hK⟩, hS.F ht⟩) hS.2.2 hd
  refine lv_iload_n hx hb dX0_hearForConnection_0 rfl (lv_at hl 2 rfl) ?_
  by_cases z1_16 : p2 = 16
  · refine lv_lookup (tgt := 98) hx hb dX0_hearForConnection_1 (by decide) (by rw [z1_16]) (by decide) ?_
    have hw := hw.1 z1_16
    refine lv_aload_n hx hb dX0_hearForConnection_98 rfl (lv_at hl 0 rfl) ?_
    refine w_gR (C := RX0) (T := TX0) (N := 15) (ci := 0) hx hb hts in0 hown hK hP 5 ho.1 ho rfl (by decide) (ch0_5 ho).1 (hts _ mf_X0_35) dX0_hearForConnection_99 ?_
    refine lv_aload_n hx hb dX0_hearForConnection_102 rfl (lv_at hl 1 rfl) ?_
    refine k_I (As := []) (rest := [.ref (base + (o + 143))]) ⟨hx, hb, hml, hown, hts⟩ (t_X5_number l dC dI base cy p1 hp1 v _ hw) (cwV 0 hts (gV ml_X0_193 mi_X5_number mx_X5_number mn_X5 mo_X5_number) rfl rfl rfl (by decide +kernel) ⟨by decide, by decide⟩) hK hP hS hp1 (by decide) rfl rfl hl.1 rfl (Nat.le_of_ble_eq_true rfl) dX0_hearForConnection_103 ⟨Nat.zero_le _, Nat.zero_le _⟩ (fun x103 v1 H locs hw hP hS => ?_)
    refine lv_aload_n hx hb dX0_hearForConnection_106 rfl (lv_at hl 1 rfl) ?_
    refine w_gR (C := RX5) (T := TX5) (N := 7) (ci := 5) hx hb hts in5 hown hK hP 0 hp1.1 hp1 rfl (by decide) (ch5_0 hp1).1 (hts _ mf_X0_196) dX0_hearForConnection_107 ?_
    refine lv_aload_n hx hb dX0_hearForConnection_110 rfl (lv_at hl 1 rfl) ?_
    refine k_I (As := []) (rest := [.ref (base + (p1 + 1)), .int x103, .ref (base + (o + 143))]) ⟨hx, hb, hml, hown, hts⟩ (t_X5_headLengthOfKind l dC dI base cy p1 hp1 v1 _ hw) (cwV 0 hts (gV ml_X0_200 mi_X5_headLengthOfKind mx_X5_headLengthOfKind mn_X5 mo_X5_headLengthOfKind) rfl rfl rfl (by decide +kernel) ⟨by decide, by decide⟩) hK hP hS hp1 (by decide) rfl rfl hl.1 rfl (Nat.le_of_ble_eq_true rfl) dX0_hearForConnection_111 ⟨Nat.zero_le _, Nat.zero_le _⟩ (fun x111 v2 H locs hw hP hS => ?_)
    obtain ⟨hi3, hw⟩ := hw
    refine w_ia (N := 17) hx hb hK hP (ch5_0 hp1).2.1.1 (ch5_0 hp1).2.1 (ch5_0 hp1).2.2 hi3 dX0_hearForConnection_114 ?_
    refine lv_topi (fun x114 ex114 => ?_)
    have hw := hw x114 ex114
    refine k_V (As := [.int x103, .int x114]) (rest := []) ⟨hx, hb, hml, hown, hts⟩ (t_X6_accept l dC dI base cy (o + 143) (ch0_5 ho).2 x103 x114 v2 _ hw) (cwV 2 hts (gV ml_X0_203 mi_X6_accept mx_X6_accept mn_X6 mo_X6_accept) rfl rfl rfl (by decide +kernel) ⟨by decide, by decide⟩) hK hP hS (ch0_5 ho).2 (by decide) rfl rfl hl.1 rfl (Nat.le_of_ble_eq_true rfl) dX0_hearForConnection_115 ⟨Nat.zero_le _, Nat.zero_le _⟩ (fun v4 H locs hw hP hS => ?_)
    refine lv_aload_n hx hb dX0_hearForConnection_118 rfl (lv_at hl 0 rfl) ?_
    refine lv_bipush (v := 32) hx hb dX0_hearForConnection_119 (by decide) ?_
    refine lv_aload_n hx hb dX0_hearForConnection_121 rfl (lv_at hl 0 rfl) ?_
    refine w_gR (C := RX0) (T := TX0) (N := 15) (ci := 0) hx hb hts in0 hown hK hP 5 ho.1 ho rfl (by decide) (ch0_5 ho).1 (hts _ mf_X0_35) dX0_hearForConnection_122 ?_
    refine w_gI (C := RX6) (T := TX6) (N := 4) (ci := 6) hx hb hts in6 hown hK hP 3 (ch0_5 ho).2.1 (ch0_5 ho).2 rfl (by decide) (hts _ mf_X0_205) dX0_hearForConnection_125 ?_
    refine lv_topi (fun x125 ex125 => ?_)
    have hw := hw x125 ex125
    refine k_V (As := [.int 32, .int x125]) (rest := []) ⟨hx, hb, hml, hown, hts⟩ (t_X0_sendNumbered l dC dI base cy o ho 32 x125 v4 _ hw) (cwV 2 hts (gV ml_X0_206 mi_X0_sendNumbered mx_X0_sendNumbered mn_X0 mo_X0_sendNumbered) rfl rfl rfl (by decide +kernel) ⟨by decide, by decide⟩) hK hP hS ho (by decide) rfl rfl hl.1 rfl (Nat.le_of_ble_eq_true rfl) dX0_hearForConnection_128 ⟨Nat.zero_le _, Nat.zero_le _⟩ (fun v5 H locs hw hP hS => ?_)
    refine lv_goto (tgt := 213) hx hb dX0_hearForConnection_131 (by decide) ?_
    exact hret _ _ _ _ _ dX0_hearForConnection_213 hw hP hS
  by_cases z1_32 : p2 = 32
  · refine lv_lookup (tgt := 164) hx hb dX0_hearForConnection_1 (by decide) (by rw [z1_32]) (by decide) ?_
    have hw := hw.2.1 z1_32
    refine lv_aload_n hx hb dX0_hearForConnection_164 rfl (lv_at hl 0 rfl) ?_
    refine w_gI (C := RX0) (T := TX0) (N := 15) (ci := 0) hx hb hts in0 hown hK hP 8 ho.1 ho rfl (by decide) (hts _ mf_X0_57) dX0_hearForConnection_165 ?_
    refine lv_topi (fun x165 ex165 => ?_)
    have hw := hw x165 ex165
    refine lv_iconst (v := 2) hx hb dX0_hearForConnection_168 (by decide) ?_
    refine lv_icmp_ne (tgt := 213) hx hb dX0_hearForConnection_169 (by decide) (fun c169 => ?_) (fun c169 => ?_)
    · have hw := hw.1 c169
      exact hret _ _ _ _ _ dX0_hearForConnection_213 hw hP hS
    · have hw := hw.2 c169
      refine lv_aload_n hx hb dX0_hearForConnection_172 rfl (lv_at hl 0 rfl) ?_
      refine w_gR (C := RX0) (T := TX0) (N := 15) (ci := 0) hx hb hts in0 hown hK hP 4 ho.1 ho rfl (by decide) (ch0_4 ho).1 (hts _ mf_X0_28) dX0_hearForConnection_173 ?_
      refine lv_aload_n hx hb dX0_hearForConnection_176 rfl (lv_at hl 1 rfl) ?_
      refine k_I (As := []) (rest := [.ref (base + (o + 140))]) ⟨hx, hb, hml, hown, hts⟩ (t_X5_number l dC dI base cy p1 hp1 v _ hw) (cwV 0 hts (gV ml_X0_193 mi_X5_number mx_X5_number mn_X5 mo_X5_number) rfl rfl rfl (by decide +kernel) ⟨by decide, by decide⟩) hK hP hS hp1 (by decide) rfl rfl hl.1 rfl (Nat.le_of_ble_eq_true rfl) dX0_hearForConnection_177 ⟨Nat.zero_le _, Nat.zero_le _⟩ (fun x177 v6 H locs hw hP hS => ?_)
      refine k_V (As := [.int x177]) (rest := []) ⟨hx, hb, hml, hown, hts⟩ (t_X7_readReceipt l dC dI base cy (o + 140) (ch0_4 ho).2 x177 v6 _ hw) (cwV 1 hts (gV ml_X0_212 mi_X7_readReceipt mx_X7_readReceipt mn_X7 mo_X7_readReceipt) rfl rfl rfl (by decide +kernel) ⟨by decide, by decide⟩) hK hP hS (ch0_4 ho).2 (by decide) rfl rfl hl.1 rfl (Nat.le_of_ble_eq_true rfl) dX0_hearForConnection_180 ⟨Nat.zero_le _, Nat.zero_le _⟩ (fun v7 H locs hw hP hS => ?_)
      refine lv_aload_n hx hb dX0_hearForConnection_183 rfl (lv_at hl 0 rfl) ?_
      refine k_V (As := []) (rest := []) ⟨hx, hb, hml, hown, hts⟩ (t_X0_sendNewUrgent l dC dI base cy o ho v7 _ hw) (cwV 0 hts (gV ml_X0_114 mi_X0_sendNewUrgent mx_X0_sendNewUrgent mn_X0 mo_X0_sendNewUrgent) rfl rfl rfl (by decide +kernel) ⟨by decide, by decide⟩) hK hP hS ho (by decide) rfl rfl hl.1 rfl (Nat.le_of_ble_eq_true rfl) dX0_hearForConnection_184 ⟨Nat.zero_le _, Nat.zero_le _⟩ (fun v8 H locs hw hP hS => ?_)
      refine lv_goto (tgt := 213) hx hb dX0_hearForConnection_187 (by decide) ?_
      exact hret _ _ _ _ _ dX0_hearForConnection_213 hw hP hS
  by_cases z1_96 : p2 = 96
  · refine lv_lookup (tgt := 134) hx hb dX0_hearForConnection_1 (by decide) (by rw [z1_96]) (by decide) ?_
    have hw := hw.2.2.1 z1_96
    refine lv_aload_n hx hb dX0_hearForConnection_134 rfl (lv_at hl 0 rfl) ?_
    refine w_gI (C := RX0) (T := TX0) (N := 15) (ci := 0) hx hb hts in0 hown hK hP 8 ho.1 ho rfl (by decide) (hts _ mf_X0_57) dX0_hearForConnection_135 ?_
    refine lv_topi (fun x135 ex135 => ?_)
    have hw := hw x135 ex135
    refine lv_iconst (v := 2) hx hb dX0_hearForConnection_138 (by decide) ?_
    refine lv_icmp_ne (tgt := 213) hx hb dX0_hearForConnection_139 (by decide) (fun c139 => ?_) (fun c139 => ?_)
    · have hw := hw.1 c139
      exact hret _ _ _ _ _ dX0_hearForConnection_213 hw hP hS
    · have hw := hw.2 c139
      refine lv_aload_n hx hb dX0_hearForConnection_142 rfl (lv_at hl 0 rfl) ?_
      refine w_gR (C := RX0) (T := TX0) (N := 15) (ci := 0) hx hb hts in0 hown hK hP 2 ho.1 ho rfl (by decide) (ch0_2 ho).1 (hts _ mf_X0_12) dX0_hearForConnection_143 ?_
      refine lv_aload_n hx hb dX0_hearForConnection_146 rfl (lv_at hl 1 rfl) ?_
      refine k_I (As := []) (rest := [.ref (base + (o + 1))]) ⟨hx, hb, hml, hown, hts⟩ (t_X5_number l dC dI base cy p1 hp1 v _ hw) (cwV 0 hts (gV ml_X0_193 mi_X5_number mx_X5_number mn_X5 mo_X5_number) rfl rfl rfl (by decide +kernel) ⟨by decide, by decide⟩) hK hP hS hp1 (by decide) rfl rfl hl.1 rfl (Nat.le_of_ble_eq_true rfl) dX0_hearForConnection_147 ⟨Nat.zero_le _, Nat.zero_le _⟩ (fun x147 v9 H locs hw hP hS => ?_)
      refine lv_aload_n hx hb dX0_hearForConnection_150 rfl (lv_at hl 1 rfl) ?_
      refine k_I (As := []) (rest := [.int x147, .ref (base + (o + 1))]) ⟨hx, hb, hml, hown, hts⟩ (t_X5_credit l dC dI base cy p1 hp1 v9 _ hw) (cwV 0 hts (gV ml_X0_185 mi_X5_credit mx_X5_credit mn_X5 mo_X5_credit) rfl rfl rfl (by decide +kernel) ⟨by decide, by decide⟩) hK hP hS hp1 (by decide) rfl rfl hl.1 rfl (Nat.le_of_ble_eq_true rfl) dX0_hearForConnection_151 ⟨Nat.zero_le _, Nat.zero_le _⟩ (fun x151 v10 H locs hw hP hS => ?_)
      refine k_V (As := [.int x147, .int x151]) (rest := []) ⟨hx, hb, hml, hown, hts⟩ (t_X3_readReceipt l dC dI base cy (o + 1) (ch0_2 ho).2 x147 x151 v10 _ hw) (cwV 2 hts (gV ml_X0_209 mi_X3_readReceipt mx_X3_readReceipt mn_X3 mo_X3_readReceipt) rfl rfl rfl (by decide +kernel) ⟨by decide, by decide⟩) hK hP hS (ch0_2 ho).2 (by decide) rfl rfl hl.1 rfl (Nat.le_of_ble_eq_true rfl) dX0_hearForConnection_154 ⟨Nat.zero_le _, Nat.zero_le _⟩ (fun v11 H locs hw hP hS => ?_)
      refine lv_aload_n hx hb dX0_hearForConnection_157 rfl (lv_at hl 0 rfl) ?_
      refine k_V (As := []) (rest := []) ⟨hx, hb, hml, hown, hts⟩ (t_X0_sendNewData l dC dI base cy o ho v11 _ hw) (cwV 0 hts (gV ml_X0_104 mi_X0_sendNewData mx_X0_sendNewData mn_X0 mo_X0_sendNewData) rfl rfl rfl (by decide +kernel) ⟨by decide, by decide⟩) hK hP hS ho (by decide) rfl rfl hl.1 rfl (Nat.le_of_ble_eq_true rfl) dX0_hearForConnection_158 ⟨Nat.zero_le _, Nat.zero_le _⟩ (fun v12 H locs hw hP hS => ?_)
      refine lv_goto (tgt := 213) hx hb dX0_hearForConnection_161 (by decide) ?_
      exact hret _ _ _ _ _ dX0_hearForConnection_213 hw hP hS
  by_cases z1_128 : p2 = 128
  · refine lv_lookup (tgt := 190) hx hb dX0_hearForConnection_1 (by decide) (by rw [z1_128]) (by decide) ?_
    have hw := hw.2.2.2.1 z1_128
    refine lv_aload_n hx hb dX0_hearForConnection_190 rfl (lv_at hl 0 rfl) ?_
    refine lv_aload_n hx hb dX0_hearForConnection_191 rfl (lv_at hl 1 rfl) ?_
    refine k_V (As := [.ref (base + p1)]) (rest := []) ⟨hx, hb, hml, hown, hts⟩ (t_X0_hearEnd l dC dI base cy o ho p1 hp1 v _ hw) (cwV 1 hts (gV ml_X0_214 mi_X0_hearEnd mx_X0_hearEnd mn_X0 mo_X0_hearEnd) rfl rfl rfl (by decide +kernel) ⟨by decide, by decide⟩) hK hP hS ho (by decide) rfl rfl hl.1 rfl (Nat.le_of_ble_eq_true rfl) dX0_hearForConnection_192 ⟨Nat.zero_le _, Nat.zero_le _⟩ (fun v13 H locs hw hP hS => ?_)
    refine lv_goto (tgt := 213) hx hb dX0_hearForConnection_195 (by decide) ?_
    exact hret _ _ _ _ _ dX0_hearForConnection_213 hw hP hS
  by_cases z1_192 : p2 = 192
  · refine lv_lookup (tgt := 198) hx hb dX0_hearForConnection_1 (by decide) (by rw [z1_192]) (by decide) ?_
    have hw := hw.2.2.2.2.1 z1_192
    refine lv_aload_n hx hb dX0_hearForConnection_198 rfl (lv_at hl 0 rfl) ?_
    refine w_gI (C := RX0) (T := TX0) (N := 15) (ci := 0) hx hb hts in0 hown hK hP 8 ho.1 ho rfl (by decide) (hts _ mf_X0_57) dX0_hearForConnection_199 ?_
    refine lv_topi (fun x199 ex199 => ?_)
    have hw := hw x199 ex199
    refine lv_iconst (v := 3) hx hb dX0_hearForConnection_202 (by decide) ?_
    refine lv_icmp_ne (tgt := 213) hx hb dX0_hearForConnection_203 (by decide) (fun c203 => ?_) (fun c203 => ?_)
    · have hw := hw.1 c203
      exact hret _ _ _ _ _ dX0_hearForConnection_213 hw hP hS
    · have hw := hw.2 c203
      refine lv_aload_n hx hb dX0_hearForConnection_206 rfl (lv_at hl 0 rfl) ?_
      refine k_V (As := []) (rest := []) ⟨hx, hb, hml, hown, hts⟩ (t_X0_freeze l dC dI base cy o ho v _ hw) (cwV 0 hts (gV ml_X0_217 mi_X0_freeze mx_X0_freeze mn_X0 mo_X0_freeze) rfl rfl rfl (by decide +kernel) ⟨by decide, by decide⟩) hK hP hS ho (by decide) rfl rfl hl.1 rfl (Nat.le_of_ble_eq_true rfl) dX0_hearForConnection_207 ⟨Nat.zero_le _, Nat.zero_le _⟩ (fun v14 H locs hw hP hS => ?_)
      refine lv_goto (tgt := 213) hx hb dX0_hearForConnection_210 (by decide) ?_
      exact hret _ _ _ _ _ dX0_hearForConnection_213 hw hP hS
  by_cases z1_208 : p2 = 208
  · refine lv_lookup (tgt := 68) hx hb dX0_hearForConnection_1 (by decide) (by rw [z1_208]) (by decide) ?_
    have hw := hw.2.2.2.2.2.1 z1_208
    refine lv_aload_n hx hb dX0_hearForConnection_68 rfl (lv_at hl 0 rfl) ?_
    refine lv_aload_n hx hb dX0_hearForConnection_69 rfl (lv_at hl 1 rfl) ?_
    refine k_I (As := [.ref (base + p1)]) (rest := []) ⟨hx, hb, hml, hown, hts⟩ (t_X0_acceptsAnswer l dC dI base cy o ho p1 hp1 v _ hw) (cwV 1 hts (gV ml_X0_186 mi_X0_acceptsAnswer mx_X0_acceptsAnswer mn_X0 mo_X0_acceptsAnswer) rfl rfl rfl (by decide +kernel) ⟨by decide, by decide⟩) hK hP hS ho (by decide) rfl rfl hl.1 rfl (Nat.le_of_ble_eq_true rfl) dX0_hearForConnection_70 ⟨Nat.zero_le _, Nat.zero_le _⟩ (fun x70 v15 H locs hw hP hS => ?_)
    refine lv_if_eq (tgt := 213) hx hb dX0_hearForConnection_73 (by decide) (fun c73 => ?_) (fun c73 => ?_)
    · have hw := hw.1 c73
      exact hret _ _ _ _ _ dX0_hearForConnection_213 hw hP hS
    · have hw := hw.2 c73
      refine lv_aload_n hx hb dX0_hearForConnection_76 rfl (lv_at hl 0 rfl) ?_
      refine k_V (As := []) (rest := []) ⟨hx, hb, hml, hown, hts⟩ (t_X0_sendReceipt l dC dI base cy o ho v15 _ hw) (cwV 0 hts (gV ml_X0_131 mi_X0_sendReceipt mx_X0_sendReceipt mn_X0 mo_X0_sendReceipt) rfl rfl rfl (by decide +kernel) ⟨by decide, by decide⟩) hK hP hS ho (by decide) rfl rfl hl.1 rfl (Nat.le_of_ble_eq_true rfl) dX0_hearForConnection_77 ⟨Nat.zero_le _, Nat.zero_le _⟩ (fun v16 H locs hw hP hS => ?_)
      refine lv_goto (tgt := 213) hx hb dX0_hearForConnection_80 (by decide) ?_
      exact hret _ _ _ _ _ dX0_hearForConnection_213 hw hP hS
  by_cases z1_240 : p2 = 240
  · refine lv_lookup (tgt := 83) hx hb dX0_hearForConnection_1 (by decide) (by rw [z1_240]) (by decide) ?_
    have hw := hw.2.2.2.2.2.2.1 z1_240
    refine lv_aload_n hx hb dX0_hearForConnection_83 rfl (lv_at hl 0 rfl) ?_
    refine w_gR (C := RX0) (T := TX0) (N := 15) (ci := 0) hx hb hts in0 hown hK hP 3 ho.1 ho rfl (by decide) (ch0_3 ho).1 (hts _ mf_X0_21) dX0_hearForConnection_84 ?_
    refine lv_aload_n hx hb dX0_hearForConnection_87 rfl (lv_at hl 1 rfl) ?_
    refine k_V (As := [.ref (base + p1)]) (rest := []) ⟨hx, hb, hml, hown, hts⟩ (t_X1_accept l dC dI base cy (o + 123) (ch0_3 ho).2 p1 hp1 v _ hw) (cwV 1 hts (gV ml_X0_190 mi_X1_accept mx_X1_accept mn_X1 mo_X1_accept) rfl rfl rfl (by decide +kernel) ⟨by decide, by decide⟩) hK hP hS (ch0_3 ho).2 (by decide) rfl rfl hl.1 rfl (Nat.le_of_ble_eq_true rfl) dX0_hearForConnection_88 ⟨Nat.zero_le _, Nat.zero_le _⟩ (fun v17 H locs hw hP hS => ?_)
    refine lv_aload_n hx hb dX0_hearForConnection_91 rfl (lv_at hl 0 rfl) ?_
    refine k_V (As := []) (rest := []) ⟨hx, hb, hml, hown, hts⟩ (t_X0_sendReceipt l dC dI base cy o ho v17 _ hw) (cwV 0 hts (gV ml_X0_131 mi_X0_sendReceipt mx_X0_sendReceipt mn_X0 mo_X0_sendReceipt) rfl rfl rfl (by decide +kernel) ⟨by decide, by decide⟩) hK hP hS ho (by decide) rfl rfl hl.1 rfl (Nat.le_of_ble_eq_true rfl) dX0_hearForConnection_92 ⟨Nat.zero_le _, Nat.zero_le _⟩ (fun v18 H locs hw hP hS => ?_)
    refine lv_goto (tgt := 213) hx hb dX0_hearForConnection_95 (by decide) ?_
    exact hret _ _ _ _ _ dX0_hearForConnection_213 hw hP hS
  have hw := hw.2.2.2.2.2.2.2 z1_16 z1_32 z1_96 z1_128 z1_192 z1_208 z1_240
  refine lv_lookup (tgt := 213) (off := 212) hx hb dX0_hearForConnection_1 (by decide) (by exact (lv_osw z1_16 (by decide)).trans ((lv_osw z1_32 (by decide)).trans ((lv_osw z1_96 (by decide)).trans ((lv_osw z1_128 (by decide)).trans ((lv_osw z1_192 (by decide)).trans ((lv_osw z1_208 (by decide)).trans ((lv_osw z1_240 (by decide)).trans (rfl)))))))) (by decide) ?_
  exact hret _ _ _ _ _ dX0_hearForConnection_213 hw hP hS
def b_X0_hear_65 (o : Nat) (p1 : Nat) (Q : VV → Prop) (a2 : Int32) (v : VV) : Prop :=
  (¬ a2 = 128 → Q v) ∧ (a2 = 128 → w_X5_from p1 v (fun (x77 : Int32) (v1 : VV) => w_X5_to p1 v1 (fun (x81 : Int32) (v2 : VV) => w_X0_sendLink o 192 x77 x81 0 v2 (fun (v3 : VV) => Q v3))))
set_option maxHeartbeats 4000000 in
set_option maxRecDepth 100000 in
theorem tb_X0_hear_65 {p : Program} {l : Launch} {e : Env} {s : State} {m : MethodId} {args : Array Value} {below : List Frame} {meth : Method} {c : Code} {QQ : State → Prop} {dC : Nat → ClassId} {dI : Nat → Nat → Nat} {base : Nat} {cy : Nat → ClassId} (hx : p.tables.exec = Jvm.exec) (hb : c.code = cX0_hear) (hml : c.maxLocals = 3) (hown : s.vm.findClass RX0 = some m.cls) (hts : ∀ w ∈ TB, w.before args s = true) (hK : va_K (dC, dI) vwCl (tyL cy) s) (o : Nat) (ho : isO 0 o) (p1 : Nat) (hp1 : isO 5 p1) (Q : VV → Prop) (hret : ∀ (pc : Nat) (v : VV) (H : Heap) (locs : List Loc) (ls : Array Slot), decode cX0_hear pc = .ok (.return_, 1) → Q v → va_P (dC, dI) vwCl (Wd base cy rf v 874) H → va_S (fun q => base ≤ q) s.heap H locs → W p l e { frames := 5, cells := 0, slots := 0, locals := 116 } s m args below meth c H locs 0 0 QQ (F0 m pc ls [])) (a2 : Int32) (v : VV) (H : Heap) (locs : List Loc) (ls : Array Slot) (hw : b_X0_hear_65 o p1 Q  a2 v) : lv_has ls 3 [(0, .ref (base + o)), (1, .ref (base + p1)), (2, .int a2)] → va_P (dC, dI) vwCl (Wd base cy rf v 874) H → va_S (fun q => base ≤ q) s.heap H locs → W p l e { frames := 5, cells := 0, slots := 0, locals := 116 } s m args below meth c H locs 0 0 QQ (F0 m 65 ls []) := by
  intro hl hP hS
  refine lv_iload_n hx hb dX0_hear_65 rfl (lv_at hl 2 rfl) ?_
  refine lv_sipush (v := 128) hx hb dX0_hear_66 (by decide) ?_
  refine lv_icmp_ne (tgt := 88) hx hb dX0_hear_69 (by decide) (fun c69 => ?_) (fun c69 => ?_)
  · have hw := hw.1 c69
    exact hret _ _ _ _ _ dX0_hear_88 hw hP hS
  · have hw := hw.2 c69
    refine lv_aload_n hx hb dX0_hear_72 rfl (lv_at hl 0 rfl) ?_
    refine lv_sipush (v := 192) hx hb dX0_hear_73 (by decide) ?_
    refine lv_aload_n hx hb dX0_hear_76 rfl (lv_at hl 1 rfl) ?_
    refine k_I (As := []) (rest := [.int 192, .ref (base + o)]) ⟨hx, hb, hml, hown, hts⟩ (t_X5_from l dC dI base cy p1 hp1 v _ hw) (cwV 0 hts (gV ml_X0_178 mi_X5_from mx_X5_from mn_X5 mo_X5_from) rfl rfl rfl (by decide +kernel) ⟨by decide, by decide⟩) hK hP hS hp1 (by decide) rfl rfl hl.1 rfl (Nat.le_of_ble_eq_true rfl) dX0_hear_77 ⟨Nat.zero_le _, Nat.zero_le _⟩ (fun x77 v1 H locs hw hP hS => ?_)
    refine lv_aload_n hx hb dX0_hear_80 rfl (lv_at hl 1 rfl) ?_
    refine k_I (As := []) (rest := [.int x77, .int 192, .ref (base + o)]) ⟨hx, hb, hml, hown, hts⟩ (t_X5_to l dC dI base cy p1 hp1 v1 _ hw) (cwV 0 hts (gV ml_X0_168 mi_X5_to mx_X5_to mn_X5 mo_X5_to) rfl rfl rfl (by decide +kernel) ⟨by decide, by decide⟩) hK hP hS hp1 (by decide) rfl rfl hl.1 rfl (Nat.le_of_ble_eq_true rfl) dX0_hear_81 ⟨Nat.zero_le _, Nat.zero_le _⟩ (fun x81 v2 H locs hw hP hS => ?_)
    refine lv_iconst (v := 0) hx hb dX0_hear_84 (by decide) ?_
    refine k_V (As := [.int 192, .int x77, .int x81, .int 0]) (rest := []) ⟨hx, hb, hml, hown, hts⟩ (t_X0_sendLink l dC dI base cy o ho 192 x77 x81 0 v2 _ hw) (cwV 4 hts (gV ml_X0_181 mi_X0_sendLink mx_X0_sendLink mn_X0 mo_X0_sendLink) rfl rfl rfl (by decide +kernel) ⟨by decide, by decide⟩) hK hP hS ho (by decide) rfl rfl hl.1 rfl (Nat.le_of_ble_eq_true rfl) dX0_hear_85 ⟨Nat.zero_le _, Nat.zero_le _⟩ (fun v3 H locs hw hP hS => ?_)
    exact hret _ _ _ _ _ dX0_hear_88 hw hP hS
def w_X0_hear (o : Nat) (p1 : Nat) (v : VV) (Q : VV → Prop) : Prop :=
  w_X5_kind p1 v (fun (x1 : Int32) (v1 : VV) => (¬ x1 = 224 → w_X0_hasConnection o v1 (fun (x21 : Int32) (v2 : VV) => (x21 = 0 → b_X0_hear_65 o p1 Q  x1 v2) ∧ (¬ x21 = 0 → w_X5_to p1 v2 (fun (x28 : Int32) (v3 : VV) => ∀ x32 : Int32, x32 = v3 o 9 → (¬ x28 = x32 → b_X0_hear_65 o p1 Q  x1 v3) ∧ (x28 = x32 → ∀ x43 : Int32, x43 = v3 1 10 → ∀ v4 : VV, v4 = up2 v3 o 13 x43 → w_X0_endWaitOf o 214 v4 (fun (v5 : VV) => w_X0_hearForConnection o p1 x1 v5 (fun (v6 : VV) => Q v6))))))) ∧ (x1 = 224 → w_X0_hearCall o p1 v1 (fun (v7 : VV) => Q v7)))
set_option maxHeartbeats 4000000 in
set_option maxRecDepth 100000 in
/-- TransportFour$End.hear -/
theorem t_X0_hear (l : Launch) (dC : Nat → ClassId) (dI : Nat → Nat → Nat) (base : Nat) (cy : Nat → ClassId) (o : Nat) (ho : isO 0 o) (p1 : Nat) (hp1 : isO 5 p1) (v : VV) (Q : VV → Prop) (hw : w_X0_hear o p1 v Q) : CV l yX0_hear (.code yX0_hear cX0_hear 3 none :: TB) { frames := 5, cells := 0, slots := 0, locals := 116 } dC dI base cy [.ref (base + o), .ref (base + p1)] v Q := by
  refine Met.ofW (cc := cX0_hear) (maxL := 3) (ret := none) (by decide) rfl ?_
  intro p e s m args below meth c s₁ B hml hv
  obtain ⟨rfl, hP, hK⟩ := hv
  have hx := B.exec
  have hb := B.bytes
  have hr := B.returns
  have hts0 := atoms_spec (ws := (.code yX0_hear cX0_hear 3 none :: TB)) B.pre
  have hts : ∀ w ∈ TB, w.before ([.ref (base + o), .ref (base + p1)]).toArray s = true := fun w h => hts0 w (List.mem_cons_of_mem _ h)
  have hown : s.vm.findClass RX0 = some m.cls := findClass_of_methodNamed B.named
  have hlocks := B.notSynchronized
  have hS : va_S (fun q => base ≤ q) s.heap s.heap [] := va_S.rf
  have hl := lv_entry ([.ref (base + o), .ref (base + p1)]) (n := 3) (Nat.le_of_ble_eq_true rfl)
  rw [lg_entry_eq]
  generalize (lg_sl ([.ref (base + o), .ref (base + p1)]) ++ List.replicate (3 - (lg_sl ([.ref (base + o), .ref (base + p1)])).length) Slot.unset).toArray = ls at hl ⊢
  have hl : lv_has ls 3 [(0, .ref (base + o)), (1, .ref (base + p1))] := hl
  have hret : ∀ (pc : Nat) (v : VV) (H : Heap) (locs : List Loc) (ls : Array Slot), decode cX0_hear pc = .ok (.return_, 1) → Q v → va_P (dC, dI) vwCl (Wd base cy rf v 874) H → va_S (fun q => base ≤ q) s.heap H locs → W p l e { frames := 5, cells := 0, slots := 0, locals := 116 } s m ([.ref (base + o), .ref (base + p1)]).toArray below meth c H locs 0 0 (MQ below (va_Qv Q (Hp dC dI base cy) (fun q => base ≤ q)) ([.ref (base + o), .ref (base + p1)]).toArray s 0 0 (fun q => base ≤ q)) (F0 m pc ls []) := fun pc v H locs ls hd hq hP hS => W.vret hx hb hr (fun t ht hW => ⟨⟨v, rfl, hq, by rw [ht]; exact hP, va_K.moved hW.alike hK⟩, hS.F ht⟩) hS.2.2 hd
  refine lv_aload_n hx hb dX0_hear_0 rfl (lv_at hl 1 rfl) ?_
  refine k_I (As := []) (rest := []) ⟨hx, hb, hml, hown, hts⟩ (t_X5_kind l dC dI base cy p1 hp1 v _ hw) (cwV 0 hts (gV ml_X0_155 mi_X5_kind mx_X5_kind mn_X5 mo_X5_kind) rfl rfl rfl (by decide +kernel) ⟨by decide, by decide⟩) hK hP hS hp1 (by decide) rfl rfl hl.1 rfl (Nat.le_of_ble_eq_true rfl) dX0_hear_1 ⟨Nat.zero_le _, Nat.zero_le _⟩ (fun x1 v1 H locs hw hP hS => ?_)
  refine lv_istore_n (lv' := [(2, .int x1), (0, .ref (base + o)), (1, .ref (base + p1))]) hx hb dX0_hear_4 rfl hl (by decide) rfl (fun ls hl => ?_)
  refine lv_iload_n hx hb dX0_hear_5 rfl (lv_at hl 0 rfl) ?_
  refine lv_sipush (v := 224) hx hb dX0_hear_6 (by decide) ?_
  refine lv_icmp_ne (tgt := 20) hx hb dX0_hear_9 (by decide) (fun c9 => ?_) (fun c9 => ?_)
  · have hw := hw.1 c9
    refine lv_aload_n hx hb dX0_hear_20 rfl (lv_at hl 1 rfl) ?_
    refine k_I (As := []) (rest := []) ⟨hx, hb, hml, hown, hts⟩ (t_X0_hasConnection l dC dI base cy o ho v1 _ hw) (cwV 0 hts (gV ml_X0_164 mi_X0_hasConnection mx_X0_hasConnection mn_X0 mo_X0_hasConnection) rfl rfl rfl (by decide +kernel) ⟨by decide, by decide⟩) hK hP hS ho (by decide) rfl rfl hl.1 rfl (Nat.le_of_ble_eq_true rfl) dX0_hear_21 ⟨Nat.zero_le _, Nat.zero_le _⟩ (fun x21 v2 H locs hw hP hS => ?_)
    refine lv_if_eq (tgt := 65) hx hb dX0_hear_24 (by decide) (fun c24 => ?_) (fun c24 => ?_)
    · have hw := hw.1 c24
      exact tb_X0_hear_65 hx hb hml hown hts hK o ho p1 hp1 _ hret  x1 v2 _ _ _ hw (lv_sub hl [1, 2, 0] rfl) hP hS
    · have hw := hw.2 c24
      refine lv_aload_n hx hb dX0_hear_27 rfl (lv_at hl 2 rfl) ?_
      refine k_I (As := []) (rest := []) ⟨hx, hb, hml, hown, hts⟩ (t_X5_to l dC dI base cy p1 hp1 v2 _ hw) (cwV 0 hts (gV ml_X0_168 mi_X5_to mx_X5_to mn_X5 mo_X5_to) rfl rfl rfl (by decide +kernel) ⟨by decide, by decide⟩) hK hP hS hp1 (by decide) rfl rfl hl.1 rfl (Nat.le_of_ble_eq_true rfl) dX0_hear_28 ⟨Nat.zero_le _, Nat.zero_le _⟩ (fun x28 v3 H locs hw hP hS => ?_)
      refine lv_aload_n hx hb dX0_hear_31 rfl (lv_at hl 1 rfl) ?_
      refine w_gI (C := RX0) (T := TX0) (N := 15) (ci := 0) hx hb hts in0 hown hK hP 9 ho.1 ho rfl (by decide) (hts _ mf_X0_71) dX0_hear_32 ?_
      refine lv_topi (fun x32 ex32 => ?_)
      have hw := hw x32 ex32
      refine lv_icmp_ne (tgt := 65) hx hb dX0_hear_35 (by decide) (fun c35 => ?_) (fun c35 => ?_)
      · have hw := hw.1 c35
        exact tb_X0_hear_65 hx hb hml hown hts hK o ho p1 hp1 _ hret  x1 v3 _ _ _ hw (lv_sub hl [1, 2, 0] rfl) hP hS
      · have hw := hw.2 c35
        refine lv_aload_n hx hb dX0_hear_38 rfl (lv_at hl 1 rfl) ?_
        refine lv_aload_n hx hb dX0_hear_39 rfl (lv_at hl 1 rfl) ?_
        refine w_gR (C := RX0) (T := TX0) (N := 15) (ci := 0) hx hb hts in0 hown hK hP 1 ho.1 ho rfl (by decide) (ch0_1 ho).1 (hts _ mf_X0_53) dX0_hear_40 ?_
        refine w_gI (C := RX2) (T := TX2) (N := 11) (ci := 2) hx hb hts in2 hown hK hP 10 (ch0_1 ho).2.1 (ch0_1 ho).2 rfl (by decide) (hts _ mf_X0_88) dX0_hear_43 ?_
        refine lv_topi (fun x43 ex43 => ?_)
        have hw := hw x43 ex43
        refine w_pI (C := RX0) (T := TX0) (N := 15) (ci := 0) hx hb hts in0 tyX0 tyX0_ok nmX0 hown hK hP hS 13 ho.1 ho rfl (by decide) (hts _ mf_X0_93) rfl (ty := .int) (by decide +kernel) rfl rfl dX0_hear_46 (fun v4 H locs hv4 hP hz hS => ?_)
        have hw := hw v4 hv4
        refine lv_aload_n hx hb dX0_hear_49 rfl (lv_at hl 1 rfl) ?_
        refine lv_sipush (v := 214) hx hb dX0_hear_50 (by decide) ?_
        refine k_V (As := [.int 214]) (rest := []) ⟨hx, hb, hml, hown, hts⟩ (t_X0_endWaitOf l dC dI base cy o ho 214 v4 _ hw) (cwV 1 hts (gV ml_X0_171 mi_X0_endWaitOf mx_X0_endWaitOf mn_X0 mo_X0_endWaitOf) rfl rfl rfl (by decide +kernel) ⟨by decide, by decide⟩) hK hP hS ho (by decide) rfl rfl hl.1 rfl (Nat.le_of_ble_eq_true rfl) dX0_hear_53 ⟨Nat.zero_le _, Nat.zero_le _⟩ (fun v5 H locs hw hP hS => ?_)
        refine lv_aload_n hx hb dX0_hear_56 rfl (lv_at hl 1 rfl) ?_
        refine lv_aload_n hx hb dX0_hear_57 rfl (lv_at hl 2 rfl) ?_
        refine lv_iload_n hx hb dX0_hear_58 rfl (lv_at hl 0 rfl) ?_
        refine k_V (As := [.ref (base + p1), .int x1]) (rest := []) ⟨hx, hb, hml, hown, hts⟩ (t_X0_hearForConnection l dC dI base cy o ho p1 hp1 x1 v5 _ hw) (cwV 2 hts (gV ml_X0_174 mi_X0_hearForConnection mx_X0_hearForConnection mn_X0 mo_X0_hearForConnection) rfl rfl rfl (by decide +kernel) ⟨by decide, by decide⟩) hK hP hS ho (by decide) rfl rfl hl.1 rfl (Nat.le_of_ble_eq_true rfl) dX0_hear_59 ⟨Nat.zero_le _, Nat.zero_le _⟩ (fun v6 H locs hw hP hS => ?_)
        refine lv_goto (tgt := 88) hx hb dX0_hear_62 (by decide) ?_
        exact hret _ _ _ _ _ dX0_hear_88 hw hP hS
  · have hw := hw.2 c9
    refine lv_aload_n hx hb dX0_hear_12 rfl (lv_at hl 1 rfl) ?_
    refine lv_aload_n hx hb dX0_hear_13 rfl (lv_at hl 2 rfl) ?_
    refine k_V (As := [.ref (base + p1)]) (rest := []) ⟨hx, hb, hml, hown, hts⟩ (t_X0_hearCall l dC dI base cy o ho p1 hp1 v1 _ hw) (cwV 1 hts (gV ml_X0_160 mi_X0_hearCall mx_X0_hearCall mn_X0 mo_X0_hearCall) rfl rfl rfl (by decide +kernel) ⟨by decide, by decide⟩) hK hP hS ho (by decide) rfl rfl hl.1 rfl (Nat.le_of_ble_eq_true rfl) dX0_hear_14 ⟨Nat.zero_le _, Nat.zero_le _⟩ (fun v7 H locs hw hP hS => ?_)
    refine lv_goto (tgt := 88) hx hb dX0_hear_17 (by decide) ?_
    exact hret _ _ _ _ _ dX0_hear_88 hw hP hS
