def w_X0_endWaitOf (o : Nat) (p1 : Int32) (v : VV) (Q : VV → Prop) : Prop :=
  ∀ x1 : Int32, x1 = v o 7 → (¬ x1 = p1 → Q v) ∧ (x1 = p1 → w_X0_awaitLink o 0 v (fun (v1 : VV) => Q v1))
set_option maxHeartbeats 4000000 in
set_option maxRecDepth 100000 in
/-- TransportFour$End.endWaitOf -/
theorem t_X0_endWaitOf (l : Launch) (dC : Nat → ClassId) (dI : Nat → Nat → Nat) (base : Nat) (cy : Nat → ClassId) (o : Nat) (ho : isO 0 o) (p1 : Int32) (v : VV) (Q : VV → Prop) (hw : w_X0_endWaitOf o p1 v Q) : CV l yX0_endWaitOf (.code yX0_endWaitOf cX0_endWaitOf 2 none :: TB) { frames := 2, cells := 0, slots := 0, locals := 41 } dC dI base cy [.ref (base + o), .int p1] v Q := by
  refine Met.ofW (cc := cX0_endWaitOf) (maxL := 2) (ret := none) (by decide) rfl ?_
  intro p e s m args below meth c s₁ B hml hv
  obtain ⟨rfl, hP, hK⟩ := hv
  have hx := B.exec
  have hb := B.bytes
  have hr := B.returns
  have hts0 := atoms_spec (ws := (.code yX0_endWaitOf cX0_endWaitOf 2 none :: TB)) B.pre
  have hts : ∀ w ∈ TB, w.before ([.ref (base + o), .int p1]).toArray s = true := fun w h => hts0 w (List.mem_cons_of_mem _ h)
  have hown : s.vm.findClass RX0 = some m.cls := findClass_of_methodNamed B.named
  have hlocks := B.notSynchronized
  have hS : va_S (fun q => base ≤ q) s.heap s.heap [] := va_S.rf
  have hl := lv_entry ([.ref (base + o), .int p1]) (n := 2) (Nat.le_of_ble_eq_true rfl)
  rw [lg_entry_eq]
  generalize (lg_sl ([.ref (base + o), .int p1]) ++ List.replicate (2 - (lg_sl ([.ref (base + o), .int p1])).length) Slot.unset).toArray = ls at hl ⊢
  have hl : lv_has ls 2 [(0, .ref (base + o)), (1, .int p1)] := hl
  have hret : ∀ (pc : Nat) (v : VV) (H : Heap) (locs : List Loc) (ls : Array Slot), decode cX0_endWaitOf pc = .ok (.return_, 1) → Q v → va_P (dC, dI) vwCl (Wd base cy rf v 874) H → va_S (fun q => base ≤ q) s.heap H locs → W p l e { frames := 2, cells := 0, slots := 0, locals := 41 } s m ([.ref (base + o), .int p1]).toArray below meth c H locs 0 0 (MQ below (va_Qv Q (Hp dC dI base cy) (fun q => base ≤ q)) ([.ref (base + o), .int p1]).toArray s 0 0 (fun q => base ≤ q)) (F0 m pc ls []) := fun pc v H locs ls hd hq hP hS => W.vret hx hb hr (fun t ht hW => ⟨⟨v, rfl, hq, by rw [ht]; exact hP, va_K.moved hW.alike hK⟩, hS.F ht⟩) hS.2.2 hd
  refine lv_aload_n hx hb dX0_endWaitOf_0 rfl (lv_at hl 0 rfl) ?_
  refine w_gI (C := RX0) (T := TX0) (N := 15) (ci := 0) hx hb hts in0 hown hK hP 7 ho.1 ho rfl (by decide) (hts _ mf_X0_257) dX0_endWaitOf_1 ?_
  refine lv_topi (fun x1 ex1 => ?_)
  have hw := hw x1 ex1
  refine lv_iload_n hx hb dX0_endWaitOf_4 rfl (lv_at hl 1 rfl) ?_
  refine lv_icmp_ne (tgt := 13) hx hb dX0_endWaitOf_5 (by decide) (fun c5 => ?_) (fun c5 => ?_)
  · have hw := hw.1 c5
    exact hret _ _ _ _ _ dX0_endWaitOf_13 hw hP hS
  · have hw := hw.2 c5
    refine lv_aload_n hx hb dX0_endWaitOf_8 rfl (lv_at hl 0 rfl) ?_
    refine lv_iconst (v := 0) hx hb dX0_endWaitOf_9 (by decide) ?_
    refine k_V (As := [.int 0]) (rest := []) ⟨hx, hb, hml, hown, hts⟩ (t_X0_awaitLink l dC dI base cy o ho 0 v _ hw) (cwV 1 hts (gV ml_X0_64 mi_X0_awaitLink mx_X0_awaitLink mn_X0 mo_X0_awaitLink) rfl rfl rfl (by decide +kernel) ⟨by decide, by decide⟩) hK hP hS ho (by decide) rfl rfl hl.1 rfl (Nat.le_of_ble_eq_true rfl) dX0_endWaitOf_10 ⟨Nat.zero_le _, Nat.zero_le _⟩ (fun v1 H locs hw hP hS => ?_)
    exact hret _ _ _ _ _ dX0_endWaitOf_13 hw hP hS
def b_X0_acceptsAnswer_64 (o : Nat) (p1 : Nat) (Q : Int32 → VV → Prop)  (v : VV) : Prop :=
  Q 0 v
set_option maxHeartbeats 4000000 in
set_option maxRecDepth 100000 in
theorem tb_X0_acceptsAnswer_64 {p : Program} {l : Launch} {e : Env} {s : State} {m : MethodId} {args : Array Value} {below : List Frame} {meth : Method} {c : Code} {QQ : State → Prop} {dC : Nat → ClassId} {dI : Nat → Nat → Nat} {base : Nat} {cy : Nat → ClassId} (hx : p.tables.exec = Jvm.exec) (hb : c.code = cX0_acceptsAnswer) (hml : c.maxLocals = 2) (hown : s.vm.findClass RX0 = some m.cls) (hts : ∀ w ∈ TB, w.before args s = true) (hK : va_K (dC, dI) vwCl (tyL cy) s) (o : Nat) (ho : isO 0 o) (p1 : Nat) (hp1 : isO 5 p1) (Q : Int32 → VV → Prop) (hret : ∀ (pc : Nat) (x : Int32) (v : VV) (H : Heap) (locs : List Loc) (ls : Array Slot), decode cX0_acceptsAnswer pc = .ok (.ireturn, 1) → (x = 0 ∨ x = 1) → Q x v → va_P (dC, dI) vwCl (Wd base cy rf v 874) H → va_S (fun q => base ≤ q) s.heap H locs → W p l e { frames := 3, cells := 0, slots := 0, locals := 62 } s m args below meth c H locs 0 0 QQ (F0 m pc ls [.int x]))  (v : VV) (H : Heap) (locs : List Loc) (ls : Array Slot) (hw : b_X0_acceptsAnswer_64 o p1 Q   v) : lv_has ls 2 [(0, .ref (base + o)), (1, .ref (base + p1))] → va_P (dC, dI) vwCl (Wd base cy rf v 874) H → va_S (fun q => base ≤ q) s.heap H locs → W p l e { frames := 3, cells := 0, slots := 0, locals := 62 } s m args below meth c H locs 0 0 QQ (F0 m 64 ls []) := by
  intro hl hP hS
  refine lv_iconst (v := 0) hx hb dX0_acceptsAnswer_64 (by decide) ?_
  exact hret _ _ _ _ _ _ dX0_acceptsAnswer_65 (by decide) hw hP hS
def w_X0_acceptsAnswer (o : Nat) (p1 : Nat) (v : VV) (Q : Int32 → VV → Prop) : Prop :=
  ∀ x1 : Int32, x1 = v o 8 → (¬ x1 = 1 → ∀ x42 : Int32, x42 = v o 8 → (¬ x42 = 2 → b_X0_acceptsAnswer_64 o p1 Q   v) ∧ (x42 = 2 → ∀ x50 : Int32, x50 = v o 10 → w_X5_from p1 v (fun (x54 : Int32) (v1 : VV) => (¬ x50 = x54 → b_X0_acceptsAnswer_64 o p1 Q   v1) ∧ (x50 = x54 → Q 1 v1)))) ∧ (x1 = 1 → ∀ v2 : VV, v2 = up2 v o 8 2 → w_X5_from p1 v2 (fun (x15 : Int32) (v3 : VV) => ∀ v4 : VV, v4 = up2 v3 o 10 x15 → w_X5_credit p1 v4 (fun (x26 : Int32) (v5 : VV) => ∀ v6 : VV, v6 = up2 v5 (o + 1) 5 x26 → w_X0_endWaitOf o 230 v6 (fun (v7 : VV) => Q 1 v7))))
set_option maxHeartbeats 4000000 in
set_option maxRecDepth 100000 in
/-- TransportFour$End.acceptsAnswer -/
theorem t_X0_acceptsAnswer (l : Launch) (dC : Nat → ClassId) (dI : Nat → Nat → Nat) (base : Nat) (cy : Nat → ClassId) (o : Nat) (ho : isO 0 o) (p1 : Nat) (hp1 : isO 5 p1) (v : VV) (Q : Int32 → VV → Prop) (hw : w_X0_acceptsAnswer o p1 v Q) : CI l yX0_acceptsAnswer (.code yX0_acceptsAnswer cX0_acceptsAnswer 2 (some .boolean) :: TB) { frames := 3, cells := 0, slots := 0, locals := 62 } dC dI base cy [.ref (base + o), .ref (base + p1)] v Q := by
  refine Met.ofW (cc := cX0_acceptsAnswer) (maxL := 2) (ret := (some .boolean)) (by decide) rfl ?_
  intro p e s m args below meth c s₁ B hml hv
  obtain ⟨rfl, hP, hK⟩ := hv
  have hx := B.exec
  have hb := B.bytes
  have hr := B.returns
  have hts0 := atoms_spec (ws := (.code yX0_acceptsAnswer cX0_acceptsAnswer 2 (some .boolean) :: TB)) B.pre
  have hts : ∀ w ∈ TB, w.before ([.ref (base + o), .ref (base + p1)]).toArray s = true := fun w h => hts0 w (List.mem_cons_of_mem _ h)
  have hown : s.vm.findClass RX0 = some m.cls := findClass_of_methodNamed B.named
  have hlocks := B.notSynchronized
  have hS : va_S (fun q => base ≤ q) s.heap s.heap [] := va_S.rf
  have hl := lv_entry ([.ref (base + o), .ref (base + p1)]) (n := 2) (Nat.le_of_ble_eq_true rfl)
  rw [lg_entry_eq]
  generalize (lg_sl ([.ref (base + o), .ref (base + p1)]) ++ List.replicate (2 - (lg_sl ([.ref (base + o), .ref (base + p1)])).length) Slot.unset).toArray = ls at hl ⊢
  have hl : lv_has ls 2 [(0, .ref (base + o)), (1, .ref (base + p1))] := hl
  have hret : ∀ (pc : Nat) (x : Int32) (v : VV) (H : Heap) (locs : List Loc) (ls : Array Slot), decode cX0_acceptsAnswer pc = .ok (.ireturn, 1) → (x = 0 ∨ x = 1) → Q x v → va_P (dC, dI) vwCl (Wd base cy rf v 874) H → va_S (fun q => base ≤ q) s.heap H locs → W p l e { frames := 3, cells := 0, slots := 0, locals := 62 } s m ([.ref (base + o), .ref (base + p1)]).toArray below meth c H locs 0 0 (MQ below (va_Qi Q (Hp dC dI base cy) (fun q => base ≤ q)) ([.ref (base + o), .ref (base + p1)]).toArray s 0 0 (fun q => base ≤ q)) (F0 m pc ls [.int x]) := fun pc x v H locs ls hd hz hq hP hS => W.zret (v := x) hx hb hr (zb_n hz) (fun t ht hW => ⟨⟨x, v, rfl, hq, by rw [ht]; exact hP, va_K.moved hW.alike hK⟩, hS.F ht⟩) hS.2.2 hd
  refine lv_aload_n hx hb dX0_acceptsAnswer_0 rfl (lv_at hl 0 rfl) ?_
  refine w_gI (C := RX0) (T := TX0) (N := 15) (ci := 0) hx hb hts in0 hown hK hP 8 ho.1 ho rfl (by decide) (hts _ mf_X0_57) dX0_acceptsAnswer_1 ?_
  refine lv_topi (fun x1 ex1 => ?_)
  have hw := hw x1 ex1
  refine lv_iconst (v := 1) hx hb dX0_acceptsAnswer_4 (by decide) ?_
  refine lv_icmp_ne (tgt := 41) hx hb dX0_acceptsAnswer_5 (by decide) (fun c5 => ?_) (fun c5 => ?_)
  · have hw := hw.1 c5
    refine lv_aload_n hx hb dX0_acceptsAnswer_41 rfl (lv_at hl 0 rfl) ?_
    refine w_gI (C := RX0) (T := TX0) (N := 15) (ci := 0) hx hb hts in0 hown hK hP 8 ho.1 ho rfl (by decide) (hts _ mf_X0_57) dX0_acceptsAnswer_42 ?_
    refine lv_topi (fun x42 ex42 => ?_)
    have hw := hw x42 ex42
    refine lv_iconst (v := 2) hx hb dX0_acceptsAnswer_45 (by decide) ?_
    refine lv_icmp_ne (tgt := 64) hx hb dX0_acceptsAnswer_46 (by decide) (fun c46 => ?_) (fun c46 => ?_)
    · have hw := hw.1 c46
      exact tb_X0_acceptsAnswer_64 hx hb hml hown hts hK o ho p1 hp1 _ hret   v _ _ _ hw (lv_sub hl [0, 1] rfl) hP hS
    · have hw := hw.2 c46
      refine lv_aload_n hx hb dX0_acceptsAnswer_49 rfl (lv_at hl 0 rfl) ?_
      refine w_gI (C := RX0) (T := TX0) (N := 15) (ci := 0) hx hb hts in0 hown hK hP 10 ho.1 ho rfl (by decide) (hts _ mf_X0_81) dX0_acceptsAnswer_50 ?_
      refine lv_topi (fun x50 ex50 => ?_)
      have hw := hw x50 ex50
      refine lv_aload_n hx hb dX0_acceptsAnswer_53 rfl (lv_at hl 1 rfl) ?_
      refine k_I (As := []) (rest := [.int x50]) ⟨hx, hb, hml, hown, hts⟩ (t_X5_from l dC dI base cy p1 hp1 v _ hw) (cwV 0 hts (gV ml_X0_178 mi_X5_from mx_X5_from mn_X5 mo_X5_from) rfl rfl rfl (by decide +kernel) ⟨by decide, by decide⟩) hK hP hS hp1 (by decide) rfl rfl hl.1 rfl (Nat.le_of_ble_eq_true rfl) dX0_acceptsAnswer_54 ⟨Nat.zero_le _, Nat.zero_le _⟩ (fun x54 v1 H locs hw hP hS => ?_)
      refine lv_icmp_ne (tgt := 64) hx hb dX0_acceptsAnswer_57 (by decide) (fun c57 => ?_) (fun c57 => ?_)
      · have hw := hw.1 c57
        exact tb_X0_acceptsAnswer_64 hx hb hml hown hts hK o ho p1 hp1 _ hret   v1 _ _ _ hw (lv_sub hl [0, 1] rfl) hP hS
      · have hw := hw.2 c57
        refine lv_iconst (v := 1) hx hb dX0_acceptsAnswer_60 (by decide) ?_
        refine lv_goto (tgt := 65) hx hb dX0_acceptsAnswer_61 (by decide) ?_
        exact hret _ _ _ _ _ _ dX0_acceptsAnswer_65 (by decide) hw hP hS
  · have hw := hw.2 c5
    refine lv_aload_n hx hb dX0_acceptsAnswer_8 rfl (lv_at hl 0 rfl) ?_
    refine lv_iconst (v := 2) hx hb dX0_acceptsAnswer_9 (by decide) ?_
    refine w_pI (C := RX0) (T := TX0) (N := 15) (ci := 0) hx hb hts in0 tyX0 tyX0_ok nmX0 hown hK hP hS 8 ho.1 ho rfl (by decide) (hts _ mf_X0_57) rfl (ty := .int) (by decide +kernel) rfl rfl dX0_acceptsAnswer_10 (fun v2 H locs hv2 hP hz hS => ?_)
    have hw := hw v2 hv2
    refine lv_aload_n hx hb dX0_acceptsAnswer_13 rfl (lv_at hl 0 rfl) ?_
    refine lv_aload_n hx hb dX0_acceptsAnswer_14 rfl (lv_at hl 1 rfl) ?_
    refine k_I (As := []) (rest := [.ref (base + o)]) ⟨hx, hb, hml, hown, hts⟩ (t_X5_from l dC dI base cy p1 hp1 v2 _ hw) (cwV 0 hts (gV ml_X0_178 mi_X5_from mx_X5_from mn_X5 mo_X5_from) rfl rfl rfl (by decide +kernel) ⟨by decide, by decide⟩) hK hP hS hp1 (by decide) rfl rfl hl.1 rfl (Nat.le_of_ble_eq_true rfl) dX0_acceptsAnswer_15 ⟨Nat.zero_le _, Nat.zero_le _⟩ (fun x15 v3 H locs hw hP hS => ?_)
    refine w_pI (C := RX0) (T := TX0) (N := 15) (ci := 0) hx hb hts in0 tyX0 tyX0_ok nmX0 hown hK hP hS 10 ho.1 ho rfl (by decide) (hts _ mf_X0_81) rfl (ty := .int) (by decide +kernel) rfl rfl dX0_acceptsAnswer_18 (fun v4 H locs hv4 hP hz hS => ?_)
    have hw := hw v4 hv4
    refine lv_aload_n hx hb dX0_acceptsAnswer_21 rfl (lv_at hl 0 rfl) ?_
    refine w_gR (C := RX0) (T := TX0) (N := 15) (ci := 0) hx hb hts in0 hown hK hP 2 ho.1 ho rfl (by decide) (ch0_2 ho).1 (hts _ mf_X0_12) dX0_acceptsAnswer_22 ?_
    refine lv_aload_n hx hb dX0_acceptsAnswer_25 rfl (lv_at hl 1 rfl) ?_
    refine k_I (As := []) (rest := [.ref (base + (o + 1))]) ⟨hx, hb, hml, hown, hts⟩ (t_X5_credit l dC dI base cy p1 hp1 v4 _ hw) (cwV 0 hts (gV ml_X0_185 mi_X5_credit mx_X5_credit mn_X5 mo_X5_credit) rfl rfl rfl (by decide +kernel) ⟨by decide, by decide⟩) hK hP hS hp1 (by decide) rfl rfl hl.1 rfl (Nat.le_of_ble_eq_true rfl) dX0_acceptsAnswer_26 ⟨Nat.zero_le _, Nat.zero_le _⟩ (fun x26 v5 H locs hw hP hS => ?_)
    refine w_pI (C := RX3) (T := TX3) (N := 6) (ci := 3) hx hb hts in3 tyX3 tyX3_ok nmX3 hown hK hP hS 5 (ch0_2 ho).2.1 (ch0_2 ho).2 rfl (by decide) (hts _ mf_X0_143) rfl (ty := .int) (by decide +kernel) rfl rfl dX0_acceptsAnswer_29 (fun v6 H locs hv6 hP hz hS => ?_)
    have hw := hw v6 hv6
    refine lv_aload_n hx hb dX0_acceptsAnswer_32 rfl (lv_at hl 0 rfl) ?_
    refine lv_sipush (v := 230) hx hb dX0_acceptsAnswer_33 (by decide) ?_
    refine k_V (As := [.int 230]) (rest := []) ⟨hx, hb, hml, hown, hts⟩ (t_X0_endWaitOf l dC dI base cy o ho 230 v6 _ hw) (cwV 1 hts (gV ml_X0_171 mi_X0_endWaitOf mx_X0_endWaitOf mn_X0 mo_X0_endWaitOf) rfl rfl rfl (by decide +kernel) ⟨by decide, by decide⟩) hK hP hS ho (by decide) rfl rfl hl.1 rfl (Nat.le_of_ble_eq_true rfl) dX0_acceptsAnswer_36 ⟨Nat.zero_le _, Nat.zero_le _⟩ (fun v7 H locs hw hP hS => ?_)
    refine lv_iconst (v := 1) hx hb dX0_acceptsAnswer_39 (by decide) ?_
    exact hret _ _ _ _ _ _ dX0_acceptsAnswer_40 (by decide) hw hP hS
def w_X5_number (o : Nat) (v : VV) (Q : Int32 → VV → Prop) : Prop :=
  ∀ x5 : Int32, x5 = v (o + 1) (Int32.toNatClampNeg 4) → ∀ x8 : Int32, x8 = x5 &&& 127 → Q x8 v
set_option maxHeartbeats 4000000 in
set_option maxRecDepth 100000 in
/-- TransportFour$Unit.number -/
theorem t_X5_number (l : Launch) (dC : Nat → ClassId) (dI : Nat → Nat → Nat) (base : Nat) (cy : Nat → ClassId) (o : Nat) (ho : isO 5 o) (v : VV) (Q : Int32 → VV → Prop) (hw : w_X5_number o v Q) : CI l yX5_number (.code yX5_number cX5_number 1 (some .int) :: TB) { frames := 0, cells := 0, slots := 0, locals := 0 } dC dI base cy [.ref (base + o)] v Q := by
  refine Met.ofW (cc := cX5_number) (maxL := 1) (ret := (some .int)) (by decide) rfl ?_
  intro p e s m args below meth c s₁ B hml hv
  obtain ⟨rfl, hP, hK⟩ := hv
  have hx := B.exec
  have hb := B.bytes
  have hr := B.returns
  have hts0 := atoms_spec (ws := (.code yX5_number cX5_number 1 (some .int) :: TB)) B.pre
  have hts : ∀ w ∈ TB, w.before ([.ref (base + o)]).toArray s = true := fun w h => hts0 w (List.mem_cons_of_mem _ h)
  have hown : s.vm.findClass RX5 = some m.cls := findClass_of_methodNamed B.named
  have hlocks := B.notSynchronized
  have hS : va_S (fun q => base ≤ q) s.heap s.heap [] := va_S.rf
  have hl := lv_entry ([.ref (base + o)]) (n := 1) (Nat.le_of_ble_eq_true rfl)
  rw [lg_entry_eq]
  generalize (lg_sl ([.ref (base + o)]) ++ List.replicate (1 - (lg_sl ([.ref (base + o)])).length) Slot.unset).toArray = ls at hl ⊢
  have hl : lv_has ls 1 [(0, .ref (base + o))] := hl
  have hret : ∀ (pc : Nat) (x : Int32) (v : VV) (H : Heap) (locs : List Loc) (ls : Array Slot), decode cX5_number pc = .ok (.ireturn, 1) → Q x v → va_P (dC, dI) vwCl (Wd base cy rf v 874) H → va_S (fun q => base ≤ q) s.heap H locs → W p l e { frames := 0, cells := 0, slots := 0, locals := 0 } s m ([.ref (base + o)]).toArray below meth c H locs 0 0 (MQ below (va_Qi Q (Hp dC dI base cy) (fun q => base ≤ q)) ([.ref (base + o)]).toArray s 0 0 (fun q => base ≤ q)) (F0 m pc ls [.int x]) := fun pc x v H locs ls hd hq hP hS => W.iret (v := x) hx hb hr (fun t ht hW => ⟨⟨x, v, rfl, hq, by rw [ht]; exact hP, va_K.moved hW.alike hK⟩, hS.F ht⟩) hS.2.2 hd
  refine lv_aload_n hx hb dX5_number_0 rfl (lv_at hl 0 rfl) ?_
  refine w_gR (C := RX5) (T := TX5) (N := 7) (ci := 5) hx hb hts in5 hown hK hP 0 ho.1 ho rfl (by decide) (ch5_0 ho).1 (hts _ mf_X5_9) dX5_number_1 ?_
  refine lv_iconst (v := 4) hx hb dX5_number_4 (by decide) ?_
  refine w_ia (N := 17) hx hb hK hP (ch5_0 ho).2.1.1 (ch5_0 ho).2.1 (ch5_0 ho).2.2 (vp_in_nI (n := 4) (by decide) (by decide)) dX5_number_5 ?_
  refine lv_topi (fun x5 ex5 => ?_)
  have hw := hw x5 ex5
  refine lv_bipush (v := 127) hx hb dX5_number_6 (by decide) ?_
  refine lv_iand hx hb dX5_number_8 ?_
  refine lv_topi (fun x8 ex8 => ?_)
  have hw := hw x8 ex8
  exact hret _ _ _ _ _ _ dX5_number_9 hw hP hS
def w_X5_isLast (o : Nat) (v : VV) (Q : Int32 → VV → Prop) : Prop :=
  ∀ x5 : Int32, x5 = v (o + 1) (Int32.toNatClampNeg 4) → ∀ x9 : Int32, x9 = x5 &&& 128 → (x9 = 0 → Q 0 v) ∧ (¬ x9 = 0 → Q 1 v)
set_option maxHeartbeats 4000000 in
set_option maxRecDepth 100000 in
/-- TransportFour$Unit.isLast -/
theorem t_X5_isLast (l : Launch) (dC : Nat → ClassId) (dI : Nat → Nat → Nat) (base : Nat) (cy : Nat → ClassId) (o : Nat) (ho : isO 5 o) (v : VV) (Q : Int32 → VV → Prop) (hw : w_X5_isLast o v Q) : CI l yX5_isLast (.code yX5_isLast cX5_isLast 1 (some .boolean) :: TB) { frames := 0, cells := 0, slots := 0, locals := 0 } dC dI base cy [.ref (base + o)] v Q := by
  refine Met.ofW (cc := cX5_isLast) (maxL := 1) (ret := (some .boolean)) (by decide) rfl ?_
  intro p e s m args below meth c s₁ B hml hv
  obtain ⟨rfl, hP, hK⟩ := hv
  have hx := B.exec
  have hb := B.bytes
  have hr := B.returns
  have hts0 := atoms_spec (ws := (.code yX5_isLast cX5_isLast 1 (some .boolean) :: TB)) B.pre
  have hts : ∀ w ∈ TB, w.before ([.ref (base + o)]).toArray s = true := fun w h => hts0 w (List.mem_cons_of_mem _ h)
  have hown : s.vm.findClass RX5 = some m.cls := findClass_of_methodNamed B.named
  have hlocks := B.notSynchronized
  have hS : va_S (fun q => base ≤ q) s.heap s.heap [] := va_S.rf
  have hl := lv_entry ([.ref (base + o)]) (n := 1) (Nat.le_of_ble_eq_true rfl)
  rw [lg_entry_eq]
  generalize (lg_sl ([.ref (base + o)]) ++ List.replicate (1 - (lg_sl ([.ref (base + o)])).length) Slot.unset).toArray = ls at hl ⊢
  have hl : lv_has ls 1 [(0, .ref (base + o))] := hl
  have hret : ∀ (pc : Nat) (x : Int32) (v : VV) (H : Heap) (locs : List Loc) (ls : Array Slot), decode cX5_isLast pc = .ok (.ireturn, 1) → (x = 0 ∨ x = 1) → Q x v → va_P (dC, dI) vwCl (Wd base cy rf v 874) H → va_S (fun q => base ≤ q) s.heap H locs → W p l e { frames := 0, cells := 0, slots := 0, locals := 0 } s m ([.ref (base + o)]).toArray below meth c H locs 0 0 (MQ below (va_Qi Q (Hp dC dI base cy) (fun q => base ≤ q)) ([.ref (base + o)]).toArray s 0 0 (fun q => base ≤ q)) (F0 m pc ls [.int x]) := fun pc x v H locs ls hd hz hq hP hS => W.zret (v := x) hx hb hr (zb_n hz) (fun t ht hW => ⟨⟨x, v, rfl, hq, by rw [ht]; exact hP, va_K.moved hW.alike hK⟩, hS.F ht⟩) hS.2.2 hd
  refine lv_aload_n hx hb dX5_isLast_0 rfl (lv_at hl 0 rfl) ?_
  refine w_gR (C := RX5) (T := TX5) (N := 7) (ci := 5) hx hb hts in5 hown hK hP 0 ho.1 ho rfl (by decide) (ch5_0 ho).1 (hts _ mf_X5_9) dX5_isLast_1 ?_
  refine lv_iconst (v := 4) hx hb dX5_isLast_4 (by decide) ?_
  refine w_ia (N := 17) hx hb hK hP (ch5_0 ho).2.1.1 (ch5_0 ho).2.1 (ch5_0 ho).2.2 (vp_in_nI (n := 4) (by decide) (by decide)) dX5_isLast_5 ?_
  refine lv_topi (fun x5 ex5 => ?_)
  have hw := hw x5 ex5
  refine lv_sipush (v := 128) hx hb dX5_isLast_6 (by decide) ?_
  refine lv_iand hx hb dX5_isLast_9 ?_
  refine lv_topi (fun x9 ex9 => ?_)
  have hw := hw x9 ex9
  refine lv_if_eq (tgt := 17) hx hb dX5_isLast_10 (by decide) (fun c10 => ?_) (fun c10 => ?_)
  · have hw := hw.1 c10
    refine lv_iconst (v := 0) hx hb dX5_isLast_17 (by decide) ?_
    exact hret _ _ _ _ _ _ dX5_isLast_18 (by decide) hw hP hS
  · have hw := hw.2 c10
    refine lv_iconst (v := 1) hx hb dX5_isLast_13 (by decide) ?_
    refine lv_goto (tgt := 18) hx hb dX5_isLast_14 (by decide) ?_
    exact hret _ _ _ _ _ _ dX5_isLast_18 (by decide) hw hP hS
def w_X1_finishMessage (o : Nat) (v : VV) (Q : VV → Prop) : Prop :=
  ∀ x5 : Int32, x5 = v o 10 → ∀ x9 : Int32, x9 = v o 12 → vp_in x5 32 ∧ ∀ v1 : VV, v1 = up2 v (o + 14) (Int32.toNatClampNeg x5) x9 → ∀ x18 : Int32, x18 = v1 o 10 → ∀ x22 : Int32, x22 = v1 o 13 → vp_in x18 32 ∧ ∀ v3 : VV, v3 = up2 v1 (o + 15) (Int32.toNatClampNeg x18) x22 → ∀ x28 : Int32, x28 = v3 o 10 → ∀ x32 : Int32, x32 = x28 + 1 → ∀ v5 : VV, v5 = up2 v3 o 10 x32 → ∀ x38 : Int32, x38 = v5 o 11 → ∀ x42 : Int32, x42 = v5 o 13 → ∀ x45 : Int32, x45 = x38 + x42 → ∀ v6 : VV, v6 = up2 v5 o 11 x45 → ∀ v7 : VV, v7 = up2 v6 o 12 0 → ∀ v8 : VV, v8 = up2 v7 o 13 0 → Q v8
set_option maxHeartbeats 4000000 in
set_option maxRecDepth 100000 in
/-- TransportFour$Inbox.finishMessage -/
theorem t_X1_finishMessage (l : Launch) (dC : Nat → ClassId) (dI : Nat → Nat → Nat) (base : Nat) (cy : Nat → ClassId) (o : Nat) (ho : isO 1 o) (v : VV) (Q : VV → Prop) (hw : w_X1_finishMessage o v Q) : CV l yX1_finishMessage (.code yX1_finishMessage cX1_finishMessage 1 none :: TB) { frames := 0, cells := 0, slots := 0, locals := 0 } dC dI base cy [.ref (base + o)] v Q := by
  refine Met.ofW (cc := cX1_finishMessage) (maxL := 1) (ret := none) (by decide) rfl ?_
  intro p e s m args below meth c s₁ B hml hv
  obtain ⟨rfl, hP, hK⟩ := hv
  have hx := B.exec
  have hb := B.bytes
  have hr := B.returns
  have hts0 := atoms_spec (ws := (.code yX1_finishMessage cX1_finishMessage 1 none :: TB)) B.pre
  have hts : ∀ w ∈ TB, w.before ([.ref (base + o)]).toArray s = true := fun w h => hts0 w (List.mem_cons_of_mem _ h)
  have hown : s.vm.findClass RX1 = some m.cls := findClass_of_methodNamed B.named
  have hlocks := B.notSynchronized
  have hS : va_S (fun q => base ≤ q) s.heap s.heap [] := va_S.rf
  have hl := lv_entry ([.ref (base + o)]) (n := 1) (Nat.le_of_ble_eq_true rfl)
  rw [lg_entry_eq]
  generalize (lg_sl ([.ref (base + o)]) ++ List.replicate (1 - (lg_sl ([.ref (base + o)])).length) Slot.unset).toArray = ls at hl ⊢
  have hl : lv_has ls 1 [(0, .ref (base + o))] := hl
  have hret : ∀ (pc : Nat) (v : VV) (H : Heap) (locs : List Loc) (ls : Array Slot), decode cX1_finishMessage pc = .ok (.return_, 1) → Q v → va_P (dC, dI) vwCl (Wd base cy rf v 874) H → va_S (fun q => base ≤ q) s.heap H locs → W p l e { frames := 0, cells := 0, slots := 0, locals := 0 } s m ([.ref (base + o)]).toArray below meth c H locs 0 0 (MQ below (va_Qv Q (Hp dC dI base cy) (fun q => base ≤ q)) ([.ref (base + o)]).toArray s 0 0 (fun q => base ≤ q)) (F0 m pc ls []) := fun pc v H locs ls hd hq hP hS => W.vret hx hb hr (fun t ht hW => ⟨⟨v, rfl, hq, by rw [ht]; exact hP, va_K.moved hW.alike hK⟩, hS.F ht⟩) hS.2.2 hd
  refine lv_aload_n hx hb dX1_finishMessage_0 rfl (lv_at hl 0 rfl) ?_
  refine w_gR (C := RX1) (T := TX1) (N := 15) (ci := 1) hx hb hts in1 hown hK hP 5 ho.1 ho rfl (by decide) (ch1_5 ho).1 (hts _ mf_X1_30) dX1_finishMessage_1 ?_
  refine lv_aload_n hx hb dX1_finishMessage_4 rfl (lv_at hl 0 rfl) ?_
  refine w_gI (C := RX1) (T := TX1) (N := 15) (ci := 1) hx hb hts in1 hown hK hP 10 ho.1 ho rfl (by decide) (hts _ mf_X1_46) dX1_finishMessage_5 ?_
  refine lv_topi (fun x5 ex5 => ?_)
  have hw := hw x5 ex5
  refine lv_aload_n hx hb dX1_finishMessage_8 rfl (lv_at hl 0 rfl) ?_
  refine w_gI (C := RX1) (T := TX1) (N := 15) (ci := 1) hx hb hts in1 hown hK hP 12 ho.1 ho rfl (by decide) (hts _ mf_X1_52) dX1_finishMessage_9 ?_
  refine lv_topi (fun x9 ex9 => ?_)
  have hw := hw x9 ex9
  obtain ⟨hi2, hw⟩ := hw
  refine w_is (N := 32) hx hb hK hP hS (ch1_5 ho).2.1.1 (ch1_5 ho).2.1 (ch1_5 ho).2.2 hi2 dX1_finishMessage_12 (fun v1 H locs hv1 hP hz hS => ?_)
  have hw := hw v1 hv1
  refine lv_aload_n hx hb dX1_finishMessage_13 rfl (lv_at hl 0 rfl) ?_
  refine w_gR (C := RX1) (T := TX1) (N := 15) (ci := 1) hx hb hts in1 hown hK hP 6 ho.1 ho rfl (by decide) (ch1_6 ho).1 (hts _ mf_X1_33) dX1_finishMessage_14 ?_
  refine lv_aload_n hx hb dX1_finishMessage_17 rfl (lv_at hl 0 rfl) ?_
  refine w_gI (C := RX1) (T := TX1) (N := 15) (ci := 1) hx hb hts in1 hown hK hP 10 ho.1 ho rfl (by decide) (hts _ mf_X1_46) dX1_finishMessage_18 ?_
  refine lv_topi (fun x18 ex18 => ?_)
  have hw := hw x18 ex18
  refine lv_aload_n hx hb dX1_finishMessage_21 rfl (lv_at hl 0 rfl) ?_
  refine w_gI (C := RX1) (T := TX1) (N := 15) (ci := 1) hx hb hts in1 hown hK hP 13 ho.1 ho rfl (by decide) (hts _ mf_X1_55) dX1_finishMessage_22 ?_
  refine lv_topi (fun x22 ex22 => ?_)
  have hw := hw x22 ex22
  obtain ⟨hi4, hw⟩ := hw
  refine w_is (N := 32) hx hb hK hP hS (ch1_6 ho).2.1.1 (ch1_6 ho).2.1 (ch1_6 ho).2.2 hi4 dX1_finishMessage_25 (fun v3 H locs hv3 hP hz hS => ?_)
  have hw := hw v3 hv3
  refine lv_aload_n hx hb dX1_finishMessage_26 rfl (lv_at hl 0 rfl) ?_
  refine lv_dup hx hb dX1_finishMessage_27 rfl ?_
  refine w_gI (C := RX1) (T := TX1) (N := 15) (ci := 1) hx hb hts in1 hown hK hP 10 ho.1 ho rfl (by decide) (hts _ mf_X1_46) dX1_finishMessage_28 ?_
  refine lv_topi (fun x28 ex28 => ?_)
  have hw := hw x28 ex28
  refine lv_iconst (v := 1) hx hb dX1_finishMessage_31 (by decide) ?_
  refine lv_iadd hx hb dX1_finishMessage_32 ?_
  refine lv_topi (fun x32 ex32 => ?_)
  have hw := hw x32 ex32
  refine w_pI (C := RX1) (T := TX1) (N := 15) (ci := 1) hx hb hts in1 tyX1 tyX1_ok nmX1 hown hK hP hS 10 ho.1 ho rfl (by decide) (hts _ mf_X1_46) rfl (ty := .int) (by decide +kernel) rfl rfl dX1_finishMessage_33 (fun v5 H locs hv5 hP hz hS => ?_)
  have hw := hw v5 hv5
  refine lv_aload_n hx hb dX1_finishMessage_36 rfl (lv_at hl 0 rfl) ?_
  refine lv_dup hx hb dX1_finishMessage_37 rfl ?_
  refine w_gI (C := RX1) (T := TX1) (N := 15) (ci := 1) hx hb hts in1 hown hK hP 11 ho.1 ho rfl (by decide) (hts _ mf_X1_49) dX1_finishMessage_38 ?_
  refine lv_topi (fun x38 ex38 => ?_)
  have hw := hw x38 ex38
  refine lv_aload_n hx hb dX1_finishMessage_41 rfl (lv_at hl 0 rfl) ?_
  refine w_gI (C := RX1) (T := TX1) (N := 15) (ci := 1) hx hb hts in1 hown hK hP 13 ho.1 ho rfl (by decide) (hts _ mf_X1_55) dX1_finishMessage_42 ?_
  refine lv_topi (fun x42 ex42 => ?_)
  have hw := hw x42 ex42
  refine lv_iadd hx hb dX1_finishMessage_45 ?_
  refine lv_topi (fun x45 ex45 => ?_)
  have hw := hw x45 ex45
  refine w_pI (C := RX1) (T := TX1) (N := 15) (ci := 1) hx hb hts in1 tyX1 tyX1_ok nmX1 hown hK hP hS 11 ho.1 ho rfl (by decide) (hts _ mf_X1_49) rfl (ty := .int) (by decide +kernel) rfl rfl dX1_finishMessage_46 (fun v6 H locs hv6 hP hz hS => ?_)
  have hw := hw v6 hv6
  refine lv_aload_n hx hb dX1_finishMessage_49 rfl (lv_at hl 0 rfl) ?_
  refine lv_iconst (v := 0) hx hb dX1_finishMessage_50 (by decide) ?_
  refine w_pI (C := RX1) (T := TX1) (N := 15) (ci := 1) hx hb hts in1 tyX1 tyX1_ok nmX1 hown hK hP hS 12 ho.1 ho rfl (by decide) (hts _ mf_X1_52) rfl (ty := .int) (by decide +kernel) rfl rfl dX1_finishMessage_51 (fun v7 H locs hv7 hP hz hS => ?_)
  have hw := hw v7 hv7
  refine lv_aload_n hx hb dX1_finishMessage_54 rfl (lv_at hl 0 rfl) ?_
  refine lv_iconst (v := 0) hx hb dX1_finishMessage_55 (by decide) ?_
  refine w_pI (C := RX1) (T := TX1) (N := 15) (ci := 1) hx hb hts in1 tyX1 tyX1_ok nmX1 hown hK hP hS 13 ho.1 ho rfl (by decide) (hts _ mf_X1_55) rfl (ty := .int) (by decide +kernel) rfl rfl dX1_finishMessage_56 (fun v8 H locs hv8 hP hz hS => ?_)
  have hw := hw v8 hv8
  exact hret _ _ _ _ _ dX1_finishMessage_59 hw hP hS
def w_X1_appendExpected (o : Nat) (v : VV) (Q : VV → Prop) : Prop :=
  ∀ x1 : Int32, x1 = v o 8 → ∀ x6 : Int32, x6 = x1 &&& 7 → vp_in x6 8 ∧ ∀ x13 : Int32, x13 = v (o + 10) (Int32.toNatClampNeg x6) → vp_in x6 8 ∧ ∀ v2 : VV, v2 = up2 v (o + 12) (Int32.toNatClampNeg x6) (vp_nar .boolean 0) → ∀ x24 : Int32, x24 = v2 o 8 → ∀ x28 : Int32, x28 = x24 + 1 → ∀ x31 : Int32, x31 = x28 &&& 127 → ∀ v4 : VV, v4 = up2 v2 o 8 x31 → ∀ x36 : Int32, x36 = v4 o 9 → ∀ x40 : Int32, x40 = x36 + x13 → (256 < x40 → Q v4) ∧ (¬ 256 < x40 → ∀ x50 : Int32, x50 = v4 o 10 → (x50 < 32 → vp_in x6 8 ∧ ∀ t64 : Nat, t64 = o + 1 + 1 + (Int32.toNatClampNeg x6) → ∀ x71 : Int32, x71 = v4 o 9 → (¬ (0 : Int32) < 0 ∧ ¬ x71 < 0 ∧ ¬ x13 < 0 ∧ (Int32.toNatClampNeg 0) + (Int32.toNatClampNeg x13) ≤ 8 ∧ (Int32.toNatClampNeg x71) + (Int32.toNatClampNeg x13) ≤ 256) ∧ ∀ v6 : VV, v6 = up1 v4 (o + 13) (va_cpy (v4 t64) (v4 (o + 13)) (Int32.toNatClampNeg 0) (Int32.toNatClampNeg x71) (Int32.toNatClampNeg x13)) → ∀ x80 : Int32, x80 = v6 o 9 → ∀ x84 : Int32, x84 = x80 + x13 → ∀ v7 : VV, v7 = up2 v6 o 9 x84 → ∀ x90 : Int32, x90 = v7 o 12 → ∀ x94 : Int32, x94 = x90 + x13 → ∀ v8 : VV, v8 = up2 v7 o 12 x94 → ∀ x100 : Int32, x100 = v8 o 13 → ∀ x104 : Int32, x104 = x100 + 1 → ∀ v9 : VV, v9 = up2 v8 o 13 x104 → vp_in x6 8 ∧ ∀ x113 : Int32, x113 = v9 (o + 11) (Int32.toNatClampNeg x6) → (x113 = 0 → Q v9) ∧ (¬ x113 = 0 → w_X1_finishMessage o v9 (fun (v11 : VV) => Q v11))) ∧ (¬ x50 < 32 → Q v4))
set_option maxHeartbeats 4000000 in
set_option maxRecDepth 100000 in
/-- TransportFour$Inbox.appendExpected -/
theorem t_X1_appendExpected (l : Launch) (dC : Nat → ClassId) (dI : Nat → Nat → Nat) (base : Nat) (cy : Nat → ClassId) (o : Nat) (ho : isO 1 o) (v : VV) (Q : VV → Prop) (hw : w_X1_appendExpected o v Q) : CV l yX1_appendExpected (.code yX1_appendExpected cX1_appendExpected 3 none :: TB) { frames := 1, cells := 0, slots := 0, locals := 26 } dC dI base cy [.ref (base + o)] v Q := by
  refine Met.ofW (cc := cX1_appendExpected) (maxL := 3) (ret := none) (by decide) rfl ?_
  intro p e s m args below meth c s₁ B hml hv
  obtain ⟨rfl, hP, hK⟩ := hv
  have hx := B.exec
  have hb := B.bytes
  have hr := B.returns
  have hts0 := atoms_spec (ws := (.code yX1_appendExpected cX1_appendExpected 3 none :: TB)) B.pre
  have hts : ∀ w ∈ TB, w.before ([.ref (base + o)]).toArray s = true := fun w h => hts0 w (List.mem_cons_of_mem _ h)
  have hown : s.vm.findClass RX1 = some m.cls := findClass_of_methodNamed B.named
  have hlocks := B.notSynchronized
  have hS : va_S (fun q => base ≤ q) s.heap s.heap [] := va_S.rf
  have hl := lv_entry ([.ref (base + o)]) (n := 3) (Nat.le_of_ble_eq_true rfl)
  rw [lg_entry_eq]
  generalize (lg_sl ([.ref (base + o)]) ++ List.replicate (3 - (lg_sl ([.ref (base + o)])).length) Slot.unset).toArray = ls at hl ⊢
  have hl : lv_has ls 3 [(0, .ref (base + o))] := hl
  have hret : ∀ (pc : Nat) (v : VV) (H : Heap) (locs : List Loc) (ls : Array Slot), decode cX1_appendExpected pc = .ok (.return_, 1) → Q v → va_P (dC, dI) vwCl (Wd base cy rf v 874) H → va_S (fun q => base ≤ q) s.heap H locs → W p l e { frames := 1, cells := 0, slots := 0, locals := 26 } s m ([.ref (base + o)]).toArray below meth c H locs 0 0 (MQ below (va_Qv Q (Hp dC dI base cy) (fun q => base ≤ q)) ([.ref (base + o)]).toArray s 0 0 (fun q => base ≤ q)) (F0 m pc ls []) := fun pc v H locs ls hd hq hP hS => W.vret hx hb hr (fun t ht hW => ⟨⟨v, rfl, hq, by rw [ht]; exact hP, va_K.moved hW.alike hK⟩, hS.F ht⟩) hS.2.2 hd
  refine lv_aload_n hx hb dX1_appendExpected_0 rfl (lv_at hl 0 rfl) ?_
  refine w_gI (C := RX1) (T := TX1) (N := 15) (ci := 1) hx hb hts in1 hown hK hP 8 ho.1 ho rfl (by decide) (hts _ mf_X1_39) dX1_appendExpected_1 ?_
  refine lv_topi (fun x1 ex1 => ?_)
  have hw := hw x1 ex1
  refine lv_bipush (v := 7) hx hb dX1_appendExpected_4 (by decide) ?_
  refine lv_iand hx hb dX1_appendExpected_6 ?_
  refine lv_topi (fun x6 ex6 => ?_)
  have hw := hw x6 ex6
  refine lv_istore_n (lv' := [(1, .int x6), (0, .ref (base + o))]) hx hb dX1_appendExpected_7 rfl hl (by decide) rfl (fun ls hl => ?_)
  refine lv_aload_n hx hb dX1_appendExpected_8 rfl (lv_at hl 1 rfl) ?_
  refine w_gR (C := RX1) (T := TX1) (N := 15) (ci := 1) hx hb hts in1 hown hK hP 1 ho.1 ho rfl (by decide) (ch1_1 ho).1 (hts _ mf_X1_16) dX1_appendExpected_9 ?_
  refine lv_iload_n hx hb dX1_appendExpected_12 rfl (lv_at hl 0 rfl) ?_
  obtain ⟨hi1, hw⟩ := hw
  refine w_ia (N := 8) hx hb hK hP (ch1_1 ho).2.1.1 (ch1_1 ho).2.1 (ch1_1 ho).2.2 hi1 dX1_appendExpected_13 ?_
  refine lv_topi (fun x13 ex13 => ?_)
  have hw := hw x13 ex13
  refine lv_istore_n (lv' := [(2, .int x13), (1, .int x6), (0, .ref (base + o))]) hx hb dX1_appendExpected_14 rfl hl (by decide) rfl (fun ls hl => ?_)
  refine lv_aload_n hx hb dX1_appendExpected_15 rfl (lv_at hl 2 rfl) ?_
  refine w_gR (C := RX1) (T := TX1) (N := 15) (ci := 1) hx hb hts in1 hown hK hP 3 ho.1 ho rfl (by decide) (ch1_3 ho).1 (hts _ mf_X1_24) dX1_appendExpected_16 ?_
  refine lv_iload_n hx hb dX1_appendExpected_19 rfl (lv_at hl 1 rfl) ?_
  refine lv_iconst (v := 0) hx hb dX1_appendExpected_20 (by decide) ?_
  obtain ⟨hi3, hw⟩ := hw
  refine w_zs (N := 8) hx hb hK hP hS (ch1_3 ho).2.1.1 (ch1_3 ho).2.1 (ch1_3 ho).2.2 hi3 dX1_appendExpected_21 (fun v2 H locs hv2 hP hz hS => ?_)
  have hw := hw v2 hv2
  refine lv_aload_n hx hb dX1_appendExpected_22 rfl (lv_at hl 2 rfl) ?_
  refine lv_aload_n hx hb dX1_appendExpected_23 rfl (lv_at hl 2 rfl) ?_
  refine w_gI (C := RX1) (T := TX1) (N := 15) (ci := 1) hx hb hts in1 hown hK hP 8 ho.1 ho rfl (by decide) (hts _ mf_X1_39) dX1_appendExpected_24 ?_
  refine lv_topi (fun x24 ex24 => ?_)
  have hw := hw x24 ex24
  refine lv_iconst (v := 1) hx hb dX1_appendExpected_27 (by decide) ?_
  refine lv_iadd hx hb dX1_appendExpected_28 ?_
  refine lv_topi (fun x28 ex28 => ?_)
  have hw := hw x28 ex28
  refine lv_bipush (v := 127) hx hb dX1_appendExpected_29 (by decide) ?_
  refine lv_iand hx hb dX1_appendExpected_31 ?_
  refine lv_topi (fun x31 ex31 => ?_)
  have hw := hw x31 ex31
  refine w_pI (C := RX1) (T := TX1) (N := 15) (ci := 1) hx hb hts in1 tyX1 tyX1_ok nmX1 hown hK hP hS 8 ho.1 ho rfl (by decide) (hts _ mf_X1_39) rfl (ty := .int) (by decide +kernel) rfl rfl dX1_appendExpected_32 (fun v4 H locs hv4 hP hz hS => ?_)
  have hw := hw v4 hv4
  refine lv_aload_n hx hb dX1_appendExpected_35 rfl (lv_at hl 2 rfl) ?_
  refine w_gI (C := RX1) (T := TX1) (N := 15) (ci := 1) hx hb hts in1 hown hK hP 9 ho.1 ho rfl (by decide) (hts _ mf_X1_43) dX1_appendExpected_36 ?_
  refine lv_topi (fun x36 ex36 => ?_)
  have hw := hw x36 ex36
  refine lv_iload_n hx hb dX1_appendExpected_39 rfl (lv_at hl 0 rfl) ?_
  refine lv_iadd hx hb dX1_appendExpected_40 ?_
  refine lv_topi (fun x40 ex40 => ?_)
  have hw := hw x40 ex40
  refine lv_aload_n hx hb dX1_appendExpected_41 rfl (lv_at hl 2 rfl) ?_
  refine w_gR (C := RX1) (T := TX1) (N := 15) (ci := 1) hx hb hts in1 hown hK hP 4 ho.1 ho rfl (by decide) (ch1_4 ho).1 (hts _ mf_X1_27) dX1_appendExpected_42 ?_
  refine w_al (N := 256) (x := 256) hx hb hK hP (ch1_4 ho).2.1.1 (ch1_4 ho).2.1 (ch1_4 ho).2.2 (by decide) dX1_appendExpected_45 ?_
  refine lv_icmp_gt (tgt := 58) hx hb dX1_appendExpected_46 (by decide) (fun c46 => ?_) (fun c46 => ?_)
  · have hw := hw.1 c46
    exact hret _ _ _ _ _ dX1_appendExpected_58 hw hP hS
  · have hw := hw.2 c46
    refine lv_aload_n hx hb dX1_appendExpected_49 rfl (lv_at hl 2 rfl) ?_
    refine w_gI (C := RX1) (T := TX1) (N := 15) (ci := 1) hx hb hts in1 hown hK hP 10 ho.1 ho rfl (by decide) (hts _ mf_X1_46) dX1_appendExpected_50 ?_
    refine lv_topi (fun x50 ex50 => ?_)
    have hw := hw x50 ex50
    refine lv_bipush (v := 32) hx hb dX1_appendExpected_53 (by decide) ?_
    refine lv_icmp_lt (tgt := 59) hx hb dX1_appendExpected_55 (by decide) (fun c55 => ?_) (fun c55 => ?_)
    · have hw := hw.1 c55
      refine lv_aload_n hx hb dX1_appendExpected_59 rfl (lv_at hl 2 rfl) ?_
      refine w_gR (C := RX1) (T := TX1) (N := 15) (ci := 1) hx hb hts in1 hown hK hP 0 ho.1 ho rfl (by decide) (ch1_0 ho).1 (hts _ mf_X1_11) dX1_appendExpected_60 ?_
      refine lv_iload_n hx hb dX1_appendExpected_63 rfl (lv_at hl 1 rfl) ?_
      obtain ⟨hi5, hw⟩ := hw
      obtain ⟨t64, et64⟩ : ∃ y : Nat, y = o + 1 + 1 + (Int32.toNatClampNeg x6) := ⟨_, rfl⟩
      have hw := hw t64 et64
      have qt64 := arI (i := (Int32.toNatClampNeg x6)) (ch1_0 ho).2.1 (in_lt hi5)
      rw [← et64] at qt64
      refine w_aaI hx hb hK hP (ch1_0 ho).2.1.1 (ch1_0 ho).2.1 (ch1_0 ho).2.2 hi5 qt64.1 dX1_appendExpected_64 ?_
      refine lv_iconst (v := 0) hx hb dX1_appendExpected_65 (by decide) ?_
      refine lv_aload_n hx hb dX1_appendExpected_66 rfl (lv_at hl 2 rfl) ?_
      refine w_gR (C := RX1) (T := TX1) (N := 15) (ci := 1) hx hb hts in1 hown hK hP 4 ho.1 ho rfl (by decide) (ch1_4 ho).1 (hts _ mf_X1_27) dX1_appendExpected_67 ?_
      refine lv_aload_n hx hb dX1_appendExpected_70 rfl (lv_at hl 2 rfl) ?_
      refine w_gI (C := RX1) (T := TX1) (N := 15) (ci := 1) hx hb hts in1 hown hK hP 9 ho.1 ho rfl (by decide) (hts _ mf_X1_43) dX1_appendExpected_71 ?_
      refine lv_topi (fun x71 ex71 => ?_)
      have hw := hw x71 ex71
      refine lv_iload_n hx hb dX1_appendExpected_74 rfl (lv_at hl 0 rfl) ?_
      obtain ⟨hcp, hw⟩ := hw
      refine w_cp hx hb (hml.trans hl.1.symm) hown (hts _ ml_X1_84) (hts _ mcp_n) (hts _ mcp_s) (hts _ mcp_i) hK hP hS qt64.2.1.1 qt64.2.1 qt64.2.2 (ch1_4 ho).2.1.1 (ch1_4 ho).2.1 (ch1_4 ho).2.2 hcp (by decide) (Nat.le_of_ble_eq_true rfl) dX1_appendExpected_75 (fun v6 H locs hv6 hP hS => ?_)
      have hw := hw v6 hv6
      refine lv_aload_n hx hb dX1_appendExpected_78 rfl (lv_at hl 2 rfl) ?_
      refine lv_dup hx hb dX1_appendExpected_79 rfl ?_
      refine w_gI (C := RX1) (T := TX1) (N := 15) (ci := 1) hx hb hts in1 hown hK hP 9 ho.1 ho rfl (by decide) (hts _ mf_X1_43) dX1_appendExpected_80 ?_
      refine lv_topi (fun x80 ex80 => ?_)
      have hw := hw x80 ex80
      refine lv_iload_n hx hb dX1_appendExpected_83 rfl (lv_at hl 0 rfl) ?_
      refine lv_iadd hx hb dX1_appendExpected_84 ?_
      refine lv_topi (fun x84 ex84 => ?_)
      have hw := hw x84 ex84
      refine w_pI (C := RX1) (T := TX1) (N := 15) (ci := 1) hx hb hts in1 tyX1 tyX1_ok nmX1 hown hK hP hS 9 ho.1 ho rfl (by decide) (hts _ mf_X1_43) rfl (ty := .int) (by decide +kernel) rfl rfl dX1_appendExpected_85 (fun v7 H locs hv7 hP hz hS => ?_)
      have hw := hw v7 hv7
      refine lv_aload_n hx hb dX1_appendExpected_88 rfl (lv_at hl 2 rfl) ?_
      refine lv_dup hx hb dX1_appendExpected_89 rfl ?_
      refine w_gI (C := RX1) (T := TX1) (N := 15) (ci := 1) hx hb hts in1 hown hK hP 12 ho.1 ho rfl (by decide) (hts _ mf_X1_52) dX1_appendExpected_90 ?_
      refine lv_topi (fun x90 ex90 => ?_)
      have hw := hw x90 ex90
      refine lv_iload_n hx hb dX1_appendExpected_93 rfl (lv_at hl 0 rfl) ?_
      refine lv_iadd hx hb dX1_appendExpected_94 ?_
      refine lv_topi (fun x94 ex94 => ?_)
      have hw := hw x94 ex94
      refine w_pI (C := RX1) (T := TX1) (N := 15) (ci := 1) hx hb hts in1 tyX1 tyX1_ok nmX1 hown hK hP hS 12 ho.1 ho rfl (by decide) (hts _ mf_X1_52) rfl (ty := .int) (by decide +kernel) rfl rfl dX1_appendExpected_95 (fun v8 H locs hv8 hP hz hS => ?_)
      have hw := hw v8 hv8
      refine lv_aload_n hx hb dX1_appendExpected_98 rfl (lv_at hl 2 rfl) ?_
      refine lv_dup hx hb dX1_appendExpected_99 rfl ?_
      refine w_gI (C := RX1) (T := TX1) (N := 15) (ci := 1) hx hb hts in1 hown hK hP 13 ho.1 ho rfl (by decide) (hts _ mf_X1_55) dX1_appendExpected_100 ?_
      refine lv_topi (fun x100 ex100 => ?_)
      have hw := hw x100 ex100
      refine lv_iconst (v := 1) hx hb dX1_appendExpected_103 (by decide) ?_
      refine lv_iadd hx hb dX1_appendExpected_104 ?_
      refine lv_topi (fun x104 ex104 => ?_)
      have hw := hw x104 ex104
      refine w_pI (C := RX1) (T := TX1) (N := 15) (ci := 1) hx hb hts in1 tyX1 tyX1_ok nmX1 hown hK hP hS 13 ho.1 ho rfl (by decide) (hts _ mf_X1_55) rfl (ty := .int) (by decide +kernel) rfl rfl dX1_appendExpected_105 (fun v9 H locs hv9 hP hz hS => ?_)
      have hw := hw v9 hv9
      refine lv_aload_n hx hb dX1_appendExpected_108 rfl (lv_at hl 2 rfl) ?_
      refine w_gR (C := RX1) (T := TX1) (N := 15) (ci := 1) hx hb hts in1 hown hK hP 2 ho.1 ho rfl (by decide) (ch1_2 ho).1 (hts _ mf_X1_20) dX1_appendExpected_109 ?_
      refine lv_iload_n hx hb dX1_appendExpected_112 rfl (lv_at hl 1 rfl) ?_
      obtain ⟨hi10, hw⟩ := hw
      refine w_za (N := 8) hx hb hK hP (ch1_2 ho).2.1.1 (ch1_2 ho).2.1 (ch1_2 ho).2.2 hi10 dX1_appendExpected_113 ?_
      refine lv_topi (fun x113 ex113 => ?_)
      have hw := hw x113 ex113
      refine lv_if_eq (tgt := 121) hx hb dX1_appendExpected_114 (by decide) (fun c114 => ?_) (fun c114 => ?_)
      · have hw := hw.1 c114
        exact hret _ _ _ _ _ dX1_appendExpected_121 hw hP hS
      · have hw := hw.2 c114
        refine lv_aload_n hx hb dX1_appendExpected_117 rfl (lv_at hl 2 rfl) ?_
        refine k_V (As := []) (rest := []) ⟨hx, hb, hml, hown, hts⟩ (t_X1_finishMessage l dC dI base cy o ho v9 _ hw) (cwV 0 hts (gV ml_X1_93 mi_X1_finishMessage mx_X1_finishMessage mn_X1 mo_X1_finishMessage) rfl rfl rfl (by decide +kernel) ⟨by decide, by decide⟩) hK hP hS ho (by decide) rfl rfl hl.1 rfl (Nat.le_of_ble_eq_true rfl) dX1_appendExpected_118 ⟨Nat.zero_le _, Nat.zero_le _⟩ (fun v11 H locs hw hP hS => ?_)
        exact hret _ _ _ _ _ dX1_appendExpected_121 hw hP hS
    · have hw := hw.2 c55
      exact hret _ _ _ _ _ dX1_appendExpected_58 hw hP hS
def b_X1_accept_109 (o : Nat) (p1 : Nat) (Q : VV → Prop) (fu : Nat) : Int32 → Int32 → Int32 → Int32 → Int32 → VV → Prop :=
  Nat.rec (motive := fun _ => Int32 → Int32 → Int32 → Int32 → Int32 → VV → Prop) (fun _ _ _ _ _ _ => False) (fun _ ih a2 a3 a4 a5 a6 v => (8 ≤ a6 → Q v) ∧ (¬ 8 ≤ a6 → ∀ x121 : Int32, x121 = v o 8 → ∀ x126 : Int32, x126 = x121 &&& 7 → vp_in x126 8 ∧ ∀ x127 : Int32, x127 = v (o + 12) (Int32.toNatClampNeg x126) → (x127 = 0 → Q v) ∧ (¬ x127 = 0 → w_X1_appendExpected o v (fun (v2 : VV) => ∀ x135 : Int32, x135 = a6 + 1 → ih a2 a3 a4 a5 x135 v2)))) fu
set_option maxHeartbeats 4000000 in
set_option maxRecDepth 100000 in
theorem tb_X1_accept_109 {p : Program} {l : Launch} {e : Env} {s : State} {m : MethodId} {args : Array Value} {below : List Frame} {meth : Method} {c : Code} {QQ : State → Prop} {dC : Nat → ClassId} {dI : Nat → Nat → Nat} {base : Nat} {cy : Nat → ClassId} (hx : p.tables.exec = Jvm.exec) (hb : c.code = cX1_accept) (hml : c.maxLocals = 7) (hown : s.vm.findClass RX1 = some m.cls) (hts : ∀ w ∈ TB, w.before args s = true) (hK : va_K (dC, dI) vwCl (tyL cy) s) (o : Nat) (ho : isO 1 o) (p1 : Nat) (hp1 : isO 5 p1) (Q : VV → Prop) (hret : ∀ (pc : Nat) (v : VV) (H : Heap) (locs : List Loc) (ls : Array Slot), decode cX1_accept pc = .ok (.return_, 1) → Q v → va_P (dC, dI) vwCl (Wd base cy rf v 874) H → va_S (fun q => base ≤ q) s.heap H locs → W p l e { frames := 2, cells := 0, slots := 0, locals := 48 } s m args below meth c H locs 0 0 QQ (F0 m pc ls [])) : ∀ (fu : Nat) (a2 : Int32) (a3 : Int32) (a4 : Int32) (a5 : Int32) (a6 : Int32) (v : VV) (H : Heap) (locs : List Loc) (ls : Array Slot), b_X1_accept_109 o p1 Q  fu a2 a3 a4 a5 a6 v → lv_has ls 7 [(0, .ref (base + o)), (1, .ref (base + p1)), (2, .int a2), (3, .int a3), (4, .int a4), (5, .int a5), (6, .int a6)] → va_P (dC, dI) vwCl (Wd base cy rf v 874) H → va_S (fun q => base ≤ q) s.heap H locs → W p l e { frames := 2, cells := 0, slots := 0, locals := 48 } s m args below meth c H locs 0 0 QQ (F0 m 109 ls []) := by
  intro fu
  induction fu with
  | zero =>
    intro a2 a3 a4 a5 a6 v H locs ls hw hl hP hS
    exact hw.elim
  | succ fu ih =>
    intro a2 a3 a4 a5 a6 v H locs ls hw hl hP hS
    refine lv_iload hx hb dX1_accept_109 (lv_at hl 6 rfl) ?_
    refine lv_bipush (v := 8) hx hb dX1_accept_111 (by decide) ?_
    refine lv_icmp_ge (tgt := 141) hx hb dX1_accept_113 (by decide) (fun c113 => ?_) (fun c113 => ?_)
    · have hw := hw.1 c113
      exact hret _ _ _ _ _ dX1_accept_141 hw hP hS
    · have hw := hw.2 c113
      refine lv_aload_n hx hb dX1_accept_116 rfl (lv_at hl 0 rfl) ?_
      refine w_gR (C := RX1) (T := TX1) (N := 15) (ci := 1) hx hb hts in1 hown hK hP 3 ho.1 ho rfl (by decide) (ch1_3 ho).1 (hts _ mf_X1_24) dX1_accept_117 ?_
      refine lv_aload_n hx hb dX1_accept_120 rfl (lv_at hl 0 rfl) ?_
      refine w_gI (C := RX1) (T := TX1) (N := 15) (ci := 1) hx hb hts in1 hown hK hP 8 ho.1 ho rfl (by decide) (hts _ mf_X1_39) dX1_accept_121 ?_
      refine lv_topi (fun x121 ex121 => ?_)
      have hw := hw x121 ex121
      refine lv_bipush (v := 7) hx hb dX1_accept_124 (by decide) ?_
      refine lv_iand hx hb dX1_accept_126 ?_
      refine lv_topi (fun x126 ex126 => ?_)
      have hw := hw x126 ex126
      obtain ⟨hi1, hw⟩ := hw
      refine w_za (N := 8) hx hb hK hP (ch1_3 ho).2.1.1 (ch1_3 ho).2.1 (ch1_3 ho).2.2 hi1 dX1_accept_127 ?_
      refine lv_topi (fun x127 ex127 => ?_)
      have hw := hw x127 ex127
      refine lv_if_eq (tgt := 141) hx hb dX1_accept_128 (by decide) (fun c128 => ?_) (fun c128 => ?_)
      · have hw := hw.1 c128
        exact hret _ _ _ _ _ dX1_accept_141 hw hP hS
      · have hw := hw.2 c128
        refine lv_aload_n hx hb dX1_accept_131 rfl (lv_at hl 0 rfl) ?_
        refine k_V (As := []) (rest := []) ⟨hx, hb, hml, hown, hts⟩ (t_X1_appendExpected l dC dI base cy o ho v _ hw) (cwV 0 hts (gV ml_X1_90 mi_X1_appendExpected mx_X1_appendExpected mn_X1 mo_X1_appendExpected) rfl rfl rfl (by decide +kernel) ⟨by decide, by decide⟩) hK hP hS ho (by decide) rfl rfl hl.1 rfl (Nat.le_of_ble_eq_true rfl) dX1_accept_132 ⟨Nat.zero_le _, Nat.zero_le _⟩ (fun v2 H locs hw hP hS => ?_)
        obtain ⟨x135, ex135⟩ : ∃ y : Int32, y = a6 + 1 := ⟨_, rfl⟩
        have hw := hw x135 ex135
        refine lv_iinc (v := x135) (lv' := [(6, .int x135), (0, .ref (base + o)), (1, .ref (base + p1)), (2, .int a2), (3, .int a3), (4, .int a4), (5, .int a5)]) hx hb dX1_accept_135 hl (k := 6) rfl (by rw [ex135]; first | rfl | (rw [show Int32.ofInt (-1) = (-1 : Int32) from by decide])) (by decide) rfl (fun ls hl => ?_)
        refine lv_goto (tgt := 109) hx hb dX1_accept_138 (by decide) ?_
        exact ih a2 a3 a4 a5 x135 v2 _ _ _ hw (lv_sub hl [1, 2, 3, 4, 5, 6, 0] rfl) hP hS
def b_X1_accept_31 (o : Nat) (p1 : Nat) (Q : VV → Prop) (a2 : Int32) (a3 : Int32) (s0 : Int32) (v : VV) : Prop :=
  (s0 = 0 → Q v) ∧ (¬ s0 = 0 → vp_in a3 8 ∧ ∀ x43 : Int32, x43 = v (o + 12) (Int32.toNatClampNeg a3) → (x43 = 0 → w_X5_headLengthOfKind p1 v (fun (x49 : Int32) (v2 : VV) => vp_in a3 8 ∧ ∀ v3 : VV, v3 = up2 v2 (o + 12) (Int32.toNatClampNeg a3) (vp_nar .boolean 1) → w_X5_isLast p1 v3 (fun (x67 : Int32) (v5 : VV) => vp_in a3 8 ∧ ∀ v6 : VV, v6 = up2 v5 (o + 11) (Int32.toNatClampNeg a3) (vp_nar .boolean x67) → ∀ x77 : Int32, x77 = v6 p1 1 → ∀ x82 : Int32, x82 = x77 - x49 → vp_in a3 8 ∧ ∀ v8 : VV, v8 = up2 v6 (o + 10) (Int32.toNatClampNeg a3) x82 → vp_in a3 8 ∧ ∀ t95 : Nat, t95 = o + 1 + 1 + (Int32.toNatClampNeg a3) → vp_in a3 8 ∧ ∀ x102 : Int32, x102 = v8 (o + 10) (Int32.toNatClampNeg a3) → (¬ x49 < 0 ∧ ¬ (0 : Int32) < 0 ∧ ¬ x102 < 0 ∧ (Int32.toNatClampNeg x49) + (Int32.toNatClampNeg x102) ≤ 17 ∧ (Int32.toNatClampNeg 0) + (Int32.toNatClampNeg x102) ≤ 8) ∧ ∀ v12 : VV, v12 = up1 v8 t95 (va_cpy (v8 (p1 + 1)) (v8 t95) (Int32.toNatClampNeg x49) (Int32.toNatClampNeg 0) (Int32.toNatClampNeg x102)) → ∃ fu : Nat, b_X1_accept_109 o p1 Q  fu a2 a3 s0 x49 0 v12))) ∧ (¬ x43 = 0 → Q v))
set_option maxHeartbeats 4000000 in
set_option maxRecDepth 100000 in
theorem tb_X1_accept_31 {p : Program} {l : Launch} {e : Env} {s : State} {m : MethodId} {args : Array Value} {below : List Frame} {meth : Method} {c : Code} {QQ : State → Prop} {dC : Nat → ClassId} {dI : Nat → Nat → Nat} {base : Nat} {cy : Nat → ClassId} (hx : p.tables.exec = Jvm.exec) (hb : c.code = cX1_accept) (hml : c.maxLocals = 7) (hown : s.vm.findClass RX1 = some m.cls) (hts : ∀ w ∈ TB, w.before args s = true) (hK : va_K (dC, dI) vwCl (tyL cy) s) (o : Nat) (ho : isO 1 o) (p1 : Nat) (hp1 : isO 5 p1) (Q : VV → Prop) (hret : ∀ (pc : Nat) (v : VV) (H : Heap) (locs : List Loc) (ls : Array Slot), decode cX1_accept pc = .ok (.return_, 1) → Q v → va_P (dC, dI) vwCl (Wd base cy rf v 874) H → va_S (fun q => base ≤ q) s.heap H locs → W p l e { frames := 2, cells := 0, slots := 0, locals := 48 } s m args below meth c H locs 0 0 QQ (F0 m pc ls [])) (a2 : Int32) (a3 : Int32) (s0 : Int32) (v : VV) (H : Heap) (locs : List Loc) (ls : Array Slot) (hw : b_X1_accept_31 o p1 Q  a2 a3 s0 v) : lv_has ls 7 [(0, .ref (base + o)), (1, .ref (base + p1)), (2, .int a2), (3, .int a3)] → va_P (dC, dI) vwCl (Wd base cy rf v 874) H → va_S (fun q => base ≤ q) s.heap H locs → W p l e { frames := 2, cells := 0, slots := 0, locals := 48 } s m args below meth c H locs 0 0 QQ (F0 m 31 ls [.int s0]) := by
  intro hl hP hS
  refine lv_istore (lv' := [(4, .int s0), (0, .ref (base + o)), (1, .ref (base + p1)), (2, .int a2), (3, .int a3)]) hx hb dX1_accept_31 hl (by decide) rfl (fun ls hl => ?_)
  refine lv_iload hx hb dX1_accept_33 (lv_at hl 0 rfl) ?_
  refine lv_if_eq (tgt := 47) hx hb dX1_accept_35 (by decide) (fun c35 => ?_) (fun c35 => ?_)
  · have hw := hw.1 c35
    exact hret _ _ _ _ _ dX1_accept_47 hw hP hS
  · have hw := hw.2 c35
    refine lv_aload_n hx hb dX1_accept_38 rfl (lv_at hl 1 rfl) ?_
    refine w_gR (C := RX1) (T := TX1) (N := 15) (ci := 1) hx hb hts in1 hown hK hP 3 ho.1 ho rfl (by decide) (ch1_3 ho).1 (hts _ mf_X1_24) dX1_accept_39 ?_
    refine lv_iload_n hx hb dX1_accept_42 rfl (lv_at hl 4 rfl) ?_
    obtain ⟨hi1, hw⟩ := hw
    refine w_za (N := 8) hx hb hK hP (ch1_3 ho).2.1.1 (ch1_3 ho).2.1 (ch1_3 ho).2.2 hi1 dX1_accept_43 ?_
    refine lv_topi (fun x43 ex43 => ?_)
    have hw := hw x43 ex43
    refine lv_if_eq (tgt := 48) hx hb dX1_accept_44 (by decide) (fun c44 => ?_) (fun c44 => ?_)
    · have hw := hw.1 c44
      refine lv_aload_n hx hb dX1_accept_48 rfl (lv_at hl 2 rfl) ?_
      refine k_I (As := []) (rest := []) ⟨hx, hb, hml, hown, hts⟩ (t_X5_headLengthOfKind l dC dI base cy p1 hp1 v _ hw) (cwV 0 hts (gV ml_X1_73 mi_X5_headLengthOfKind mx_X5_headLengthOfKind mn_X5 mo_X5_headLengthOfKind) rfl rfl rfl (by decide +kernel) ⟨by decide, by decide⟩) hK hP hS hp1 (by decide) rfl rfl hl.1 rfl (Nat.le_of_ble_eq_true rfl) dX1_accept_49 ⟨Nat.zero_le _, Nat.zero_le _⟩ (fun x49 v2 H locs hw hP hS => ?_)
      refine lv_istore (lv' := [(5, .int x49), (4, .int s0), (0, .ref (base + o)), (1, .ref (base + p1)), (2, .int a2), (3, .int a3)]) hx hb dX1_accept_52 hl (by decide) rfl (fun ls hl => ?_)
      refine lv_aload_n hx hb dX1_accept_54 rfl (lv_at hl 2 rfl) ?_
      refine w_gR (C := RX1) (T := TX1) (N := 15) (ci := 1) hx hb hts in1 hown hK hP 3 ho.1 ho rfl (by decide) (ch1_3 ho).1 (hts _ mf_X1_24) dX1_accept_55 ?_
      refine lv_iload_n hx hb dX1_accept_58 rfl (lv_at hl 5 rfl) ?_
      refine lv_iconst (v := 1) hx hb dX1_accept_59 (by decide) ?_
      obtain ⟨hi4, hw⟩ := hw
      refine w_zs (N := 8) hx hb hK hP hS (ch1_3 ho).2.1.1 (ch1_3 ho).2.1 (ch1_3 ho).2.2 hi4 dX1_accept_60 (fun v3 H locs hv3 hP hz hS => ?_)
      have hw := hw v3 hv3
      refine lv_aload_n hx hb dX1_accept_61 rfl (lv_at hl 2 rfl) ?_
      refine w_gR (C := RX1) (T := TX1) (N := 15) (ci := 1) hx hb hts in1 hown hK hP 2 ho.1 ho rfl (by decide) (ch1_2 ho).1 (hts _ mf_X1_20) dX1_accept_62 ?_
      refine lv_iload_n hx hb dX1_accept_65 rfl (lv_at hl 5 rfl) ?_
      refine lv_aload_n hx hb dX1_accept_66 rfl (lv_at hl 3 rfl) ?_
      refine k_I (As := []) (rest := [.int a3, .ref (base + (o + 11))]) ⟨hx, hb, hml, hown, hts⟩ (t_X5_isLast l dC dI base cy p1 hp1 v3 _ hw) (cwV 0 hts (gV ml_X1_76 mi_X5_isLast mx_X5_isLast mn_X5 mo_X5_isLast) rfl rfl rfl (by decide +kernel) ⟨by decide, by decide⟩) hK hP hS hp1 (by decide) rfl rfl hl.1 rfl (Nat.le_of_ble_eq_true rfl) dX1_accept_67 ⟨Nat.zero_le _, Nat.zero_le _⟩ (fun x67 v5 H locs hw hP hS => ?_)
      obtain ⟨hi7, hw⟩ := hw
      refine w_zs (N := 8) hx hb hK hP hS (ch1_2 ho).2.1.1 (ch1_2 ho).2.1 (ch1_2 ho).2.2 hi7 dX1_accept_70 (fun v6 H locs hv6 hP hz hS => ?_)
      have hw := hw v6 hv6
      refine lv_aload_n hx hb dX1_accept_71 rfl (lv_at hl 2 rfl) ?_
      refine w_gR (C := RX1) (T := TX1) (N := 15) (ci := 1) hx hb hts in1 hown hK hP 1 ho.1 ho rfl (by decide) (ch1_1 ho).1 (hts _ mf_X1_16) dX1_accept_72 ?_
      refine lv_iload_n hx hb dX1_accept_75 rfl (lv_at hl 5 rfl) ?_
      refine lv_aload_n hx hb dX1_accept_76 rfl (lv_at hl 3 rfl) ?_
      refine w_gI (C := RX5) (T := TX5) (N := 7) (ci := 5) hx hb hts in5 hown hK hP 1 hp1.1 hp1 rfl (by decide) (hts _ mf_X1_80) dX1_accept_77 ?_
      refine lv_topi (fun x77 ex77 => ?_)
      have hw := hw x77 ex77
      refine lv_iload hx hb dX1_accept_80 (lv_at hl 0 rfl) ?_
      refine lv_isub hx hb dX1_accept_82 ?_
      refine lv_topi (fun x82 ex82 => ?_)
      have hw := hw x82 ex82
      obtain ⟨hi9, hw⟩ := hw
      refine w_is (N := 8) hx hb hK hP hS (ch1_1 ho).2.1.1 (ch1_1 ho).2.1 (ch1_1 ho).2.2 hi9 dX1_accept_83 (fun v8 H locs hv8 hP hz hS => ?_)
      have hw := hw v8 hv8
      refine lv_aload_n hx hb dX1_accept_84 rfl (lv_at hl 3 rfl) ?_
      refine w_gR (C := RX5) (T := TX5) (N := 7) (ci := 5) hx hb hts in5 hown hK hP 0 hp1.1 hp1 rfl (by decide) (ch5_0 hp1).1 (hts _ mf_X1_83) dX1_accept_85 ?_
      refine lv_iload hx hb dX1_accept_88 (lv_at hl 0 rfl) ?_
      refine lv_aload_n hx hb dX1_accept_90 rfl (lv_at hl 2 rfl) ?_
      refine w_gR (C := RX1) (T := TX1) (N := 15) (ci := 1) hx hb hts in1 hown hK hP 0 ho.1 ho rfl (by decide) (ch1_0 ho).1 (hts _ mf_X1_11) dX1_accept_91 ?_
      refine lv_iload_n hx hb dX1_accept_94 rfl (lv_at hl 5 rfl) ?_
      obtain ⟨hi10, hw⟩ := hw
      obtain ⟨t95, et95⟩ : ∃ y : Nat, y = o + 1 + 1 + (Int32.toNatClampNeg a3) := ⟨_, rfl⟩
      have hw := hw t95 et95
      have qt95 := arI (i := (Int32.toNatClampNeg a3)) (ch1_0 ho).2.1 (in_lt hi10)
      rw [← et95] at qt95
      refine w_aaI hx hb hK hP (ch1_0 ho).2.1.1 (ch1_0 ho).2.1 (ch1_0 ho).2.2 hi10 qt95.1 dX1_accept_95 ?_
      refine lv_iconst (v := 0) hx hb dX1_accept_96 (by decide) ?_
      refine lv_aload_n hx hb dX1_accept_97 rfl (lv_at hl 2 rfl) ?_
      refine w_gR (C := RX1) (T := TX1) (N := 15) (ci := 1) hx hb hts in1 hown hK hP 1 ho.1 ho rfl (by decide) (ch1_1 ho).1 (hts _ mf_X1_16) dX1_accept_98 ?_
      refine lv_iload_n hx hb dX1_accept_101 rfl (lv_at hl 5 rfl) ?_
      obtain ⟨hi11, hw⟩ := hw
      refine w_ia (N := 8) hx hb hK hP (ch1_1 ho).2.1.1 (ch1_1 ho).2.1 (ch1_1 ho).2.2 hi11 dX1_accept_102 ?_
      refine lv_topi (fun x102 ex102 => ?_)
      have hw := hw x102 ex102
      obtain ⟨hcp, hw⟩ := hw
      refine w_cp hx hb (hml.trans hl.1.symm) hown (hts _ ml_X1_84) (hts _ mcp_n) (hts _ mcp_s) (hts _ mcp_i) hK hP hS (ch5_0 hp1).2.1.1 (ch5_0 hp1).2.1 (ch5_0 hp1).2.2 qt95.2.1.1 qt95.2.1 qt95.2.2 hcp (by decide) (Nat.le_of_ble_eq_true rfl) dX1_accept_103 (fun v12 H locs hv12 hP hS => ?_)
      have hw := hw v12 hv12
      refine lv_iconst (v := 0) hx hb dX1_accept_106 (by decide) ?_
      refine lv_istore (lv' := [(6, .int 0), (5, .int x49), (4, .int s0), (0, .ref (base + o)), (1, .ref (base + p1)), (2, .int a2), (3, .int a3)]) hx hb dX1_accept_107 hl (by decide) rfl (fun ls hl => ?_)
      obtain ⟨fu, hw⟩ := hw
      exact tb_X1_accept_109 hx hb hml hown hts hK o ho p1 hp1 _ hret  fu a2 a3 s0 x49 0 v12 _ _ _ hw (lv_sub hl [3, 4, 5, 6, 2, 1, 0] rfl) hP hS
    · have hw := hw.2 c44
      exact hret _ _ _ _ _ dX1_accept_47 hw hP hS
def w_X1_accept (o : Nat) (p1 : Nat) (v : VV) (Q : VV → Prop) : Prop :=
  w_X5_number p1 v (fun (x1 : Int32) (v1 : VV) => ∀ x8 : Int32, x8 = x1 &&& 7 → ∀ x12 : Int32, x12 = v1 o 8 → ∀ x15 : Int32, x15 = x1 - x12 → ∀ x18 : Int32, x18 = x15 &&& 127 → w_X1_credit o v1 (fun (x20 : Int32) (v2 : VV) => (x20 ≤ x18 → b_X1_accept_31 o p1 Q  x1 x8 0 v2) ∧ (¬ x20 ≤ x18 → b_X1_accept_31 o p1 Q  x1 x8 1 v2)))
set_option maxHeartbeats 4000000 in
set_option maxRecDepth 100000 in
/-- TransportFour$Inbox.accept -/
theorem t_X1_accept (l : Launch) (dC : Nat → ClassId) (dI : Nat → Nat → Nat) (base : Nat) (cy : Nat → ClassId) (o : Nat) (ho : isO 1 o) (p1 : Nat) (hp1 : isO 5 p1) (v : VV) (Q : VV → Prop) (hw : w_X1_accept o p1 v Q) : CV l yX1_accept (.code yX1_accept cX1_accept 7 none :: TB) { frames := 2, cells := 0, slots := 0, locals := 48 } dC dI base cy [.ref (base + o), .ref (base + p1)] v Q := by
  refine Met.ofW (cc := cX1_accept) (maxL := 7) (ret := none) (by decide) rfl ?_
  intro p e s m args below meth c s₁ B hml hv
  obtain ⟨rfl, hP, hK⟩ := hv
  have hx := B.exec
  have hb := B.bytes
  have hr := B.returns
  have hts0 := atoms_spec (ws := (.code yX1_accept cX1_accept 7 none :: TB)) B.pre
  have hts : ∀ w ∈ TB, w.before ([.ref (base + o), .ref (base + p1)]).toArray s = true := fun w h => hts0 w (List.mem_cons_of_mem _ h)
  have hown : s.vm.findClass RX1 = some m.cls := findClass_of_methodNamed B.named
  have hlocks := B.notSynchronized
  have hS : va_S (fun q => base ≤ q) s.heap s.heap [] := va_S.rf
  have hl := lv_entry ([.ref (base + o), .ref (base + p1)]) (n := 7) (Nat.le_of_ble_eq_true rfl)
  rw [lg_entry_eq]
  generalize (lg_sl ([.ref (base + o), .ref (base + p1)]) ++ List.replicate (7 - (lg_sl ([.ref (base + o), .ref (base + p1)])).length) Slot.unset).toArray = ls at hl ⊢
  have hl : lv_has ls 7 [(0, .ref (base + o)), (1, .ref (base + p1))] := hl
  have hret : ∀ (pc : Nat) (v : VV) (H : Heap) (locs : List Loc) (ls : Array Slot), decode cX1_accept pc = .ok (.return_, 1) → Q v → va_P (dC, dI) vwCl (Wd base cy rf v 874) H → va_S (fun q => base ≤ q) s.heap H locs → W p l e { frames := 2, cells := 0, slots := 0, locals := 48 } s m ([.ref (base + o), .ref (base + p1)]).toArray below meth c H locs 0 0 (MQ below (va_Qv Q (Hp dC dI base cy) (fun q => base ≤ q)) ([.ref (base + o), .ref (base + p1)]).toArray s 0 0 (fun q => base ≤ q)) (F0 m pc ls []) := fun pc v H locs ls hd hq hP hS => W.vret hx hb hr (fun t ht hW => ⟨⟨v, rfl, hq, by rw [ht]; exact hP, va_K.moved hW.alike hK⟩, hS.F ht⟩) hS.2.2 hd
  refine lv_aload_n hx hb dX1_accept_0 rfl (lv_at hl 1 rfl) ?_
  refine k_I (As := []) (rest := []) ⟨hx, hb, hml, hown, hts⟩ (t_X5_number l dC dI base cy p1 hp1 v _ hw) (cwV 0 hts (gV ml_X1_64 mi_X5_number mx_X5_number mn_X5 mo_X5_number) rfl rfl rfl (by decide +kernel) ⟨by decide, by decide⟩) hK hP hS hp1 (by decide) rfl rfl hl.1 rfl (Nat.le_of_ble_eq_true rfl) dX1_accept_1 ⟨Nat.zero_le _, Nat.zero_le _⟩ (fun x1 v1 H locs hw hP hS => ?_)
  refine lv_istore_n (lv' := [(2, .int x1), (0, .ref (base + o)), (1, .ref (base + p1))]) hx hb dX1_accept_4 rfl hl (by decide) rfl (fun ls hl => ?_)
  refine lv_iload_n hx hb dX1_accept_5 rfl (lv_at hl 0 rfl) ?_
  refine lv_bipush (v := 7) hx hb dX1_accept_6 (by decide) ?_
  refine lv_iand hx hb dX1_accept_8 ?_
  refine lv_topi (fun x8 ex8 => ?_)
  have hw := hw x8 ex8
  refine lv_istore_n (lv' := [(3, .int x8), (2, .int x1), (0, .ref (base + o)), (1, .ref (base + p1))]) hx hb dX1_accept_9 rfl hl (by decide) rfl (fun ls hl => ?_)
  refine lv_iload_n hx hb dX1_accept_10 rfl (lv_at hl 1 rfl) ?_
  refine lv_aload_n hx hb dX1_accept_11 rfl (lv_at hl 2 rfl) ?_
  refine w_gI (C := RX1) (T := TX1) (N := 15) (ci := 1) hx hb hts in1 hown hK hP 8 ho.1 ho rfl (by decide) (hts _ mf_X1_39) dX1_accept_12 ?_
  refine lv_topi (fun x12 ex12 => ?_)
  have hw := hw x12 ex12
  refine lv_isub hx hb dX1_accept_15 ?_
  refine lv_topi (fun x15 ex15 => ?_)
  have hw := hw x15 ex15
  refine lv_bipush (v := 127) hx hb dX1_accept_16 (by decide) ?_
  refine lv_iand hx hb dX1_accept_18 ?_
  refine lv_topi (fun x18 ex18 => ?_)
  have hw := hw x18 ex18
  refine lv_aload_n hx hb dX1_accept_19 rfl (lv_at hl 2 rfl) ?_
  refine k_I (As := []) (rest := [.int x18]) ⟨hx, hb, hml, hown, hts⟩ (t_X1_credit l dC dI base cy o ho v1 _ hw) (cwV 0 hts (gV ml_X1_70 mi_X1_credit mx_X1_credit mn_X1 mo_X1_credit) rfl rfl rfl (by decide +kernel) ⟨by decide, by decide⟩) hK hP hS ho (by decide) rfl rfl hl.1 rfl (Nat.le_of_ble_eq_true rfl) dX1_accept_20 ⟨Nat.zero_le _, Nat.zero_le _⟩ (fun x20 v2 H locs hw hP hS => ?_)
  refine lv_icmp_ge (tgt := 30) hx hb dX1_accept_23 (by decide) (fun c23 => ?_) (fun c23 => ?_)
  · have hw := hw.1 c23
    refine lv_iconst (v := 0) hx hb dX1_accept_30 (by decide) ?_
    exact tb_X1_accept_31 hx hb hml hown hts hK o ho p1 hp1 _ hret  x1 x8 0 v2 _ _ _ hw (lv_sub hl [2, 3, 1, 0] rfl) hP hS
  · have hw := hw.2 c23
    refine lv_iconst (v := 1) hx hb dX1_accept_26 (by decide) ?_
    refine lv_goto (tgt := 31) hx hb dX1_accept_27 (by decide) ?_
    exact tb_X1_accept_31 hx hb hml hown hts hK o ho p1 hp1 _ hret  x1 x8 1 v2 _ _ _ hw (lv_sub hl [2, 3, 1, 0] rfl) hP hS
def w_X6_accept (o : Nat) (p1 : Int32) (p2 : Int32) (v : VV) (Q : VV → Prop) : Prop :=
  ∀ x2 : Int32, x2 = v o 3 → (¬ p1 = x2 → Q v) ∧ (p1 = x2 → ∀ x9 : Int32, x9 = v o 2 → (x9 < 512 → ∀ x24 : Int32, x24 = v o 1 → ∀ x28 : Int32, x28 = v o 2 → ∀ x31 : Int32, x31 = x24 + x28 → ∀ x35 : Int32, x35 = x31 - x31 / 512 * 512 → vp_in x35 512 ∧ ∀ v1 : VV, v1 = up2 v (o + 1) (Int32.toNatClampNeg x35) p2 → ∀ x40 : Int32, x40 = v1 o 2 → ∀ x44 : Int32, x44 = x40 + 1 → ∀ v3 : VV, v3 = up2 v1 o 2 x44 → ∀ x50 : Int32, x50 = v3 o 3 → ∀ x54 : Int32, x54 = x50 + 1 → ∀ x57 : Int32, x57 = x54 &&& 127 → ∀ v4 : VV, v4 = up2 v3 o 3 x57 → Q v4) ∧ (¬ x9 < 512 → Q v))
set_option maxHeartbeats 4000000 in
set_option maxRecDepth 100000 in
/-- TransportFour$UrgentIn.accept -/
theorem t_X6_accept (l : Launch) (dC : Nat → ClassId) (dI : Nat → Nat → Nat) (base : Nat) (cy : Nat → ClassId) (o : Nat) (ho : isO 6 o) (p1 : Int32) (p2 : Int32) (v : VV) (Q : VV → Prop) (hw : w_X6_accept o p1 p2 v Q) : CV l yX6_accept (.code yX6_accept cX6_accept 3 none :: TB) { frames := 0, cells := 0, slots := 0, locals := 0 } dC dI base cy [.ref (base + o), .int p1, .int p2] v Q := by
  refine Met.ofW (cc := cX6_accept) (maxL := 3) (ret := none) (by decide) rfl ?_
  intro p e s m args below meth c s₁ B hml hv
  obtain ⟨rfl, hP, hK⟩ := hv
  have hx := B.exec
  have hb := B.bytes
  have hr := B.returns
  have hts0 := atoms_spec (ws := (.code yX6_accept cX6_accept 3 none :: TB)) B.pre
  have hts : ∀ w ∈ TB, w.before ([.ref (base + o), .int p1, .int p2]).toArray s = true := fun w h => hts0 w (List.mem_cons_of_mem _ h)
  have hown : s.vm.findClass RX6 = some m.cls := findClass_of_methodNamed B.named
  have hlocks := B.notSynchronized
  have hS : va_S (fun q => base ≤ q) s.heap s.heap [] := va_S.rf
  have hl := lv_entry ([.ref (base + o), .int p1, .int p2]) (n := 3) (Nat.le_of_ble_eq_true rfl)
  rw [lg_entry_eq]
  generalize (lg_sl ([.ref (base + o), .int p1, .int p2]) ++ List.replicate (3 - (lg_sl ([.ref (base + o), .int p1, .int p2])).length) Slot.unset).toArray = ls at hl ⊢
  have hl : lv_has ls 3 [(0, .ref (base + o)), (1, .int p1), (2, .int p2)] := hl
  have hret : ∀ (pc : Nat) (v : VV) (H : Heap) (locs : List Loc) (ls : Array Slot), decode cX6_accept pc = .ok (.return_, 1) → Q v → va_P (dC, dI) vwCl (Wd base cy rf v 874) H → va_S (fun q => base ≤ q) s.heap H locs → W p l e { frames := 0, cells := 0, slots := 0, locals := 0 } s m ([.ref (base + o), .int p1, .int p2]).toArray below meth c H locs 0 0 (MQ below (va_Qv Q (Hp dC dI base cy) (fun q => base ≤ q)) ([.ref (base + o), .int p1, .int p2]).toArray s 0 0 (fun q => base ≤ q)) (F0 m pc ls []) := fun pc v H locs ls hd hq hP hS => W.vret hx hb hr (fun t ht hW => ⟨⟨v, rfl, hq, by rw [ht]; exact hP, va_K.moved hW.alike hK⟩, hS.F ht⟩) hS.2.2 hd
  refine lv_iload_n hx hb dX6_accept_0 rfl (lv_at hl 1 rfl) ?_
  refine lv_aload_n hx hb dX6_accept_1 rfl (lv_at hl 0 rfl) ?_
  refine w_gI (C := RX6) (T := TX6) (N := 4) (ci := 6) hx hb hts in6 hown hK hP 3 ho.1 ho rfl (by decide) (hts _ mf_X6_19) dX6_accept_2 ?_
  refine lv_topi (fun x2 ex2 => ?_)
  have hw := hw x2 ex2
  refine lv_icmp_ne (tgt := 18) hx hb dX6_accept_5 (by decide) (fun c5 => ?_) (fun c5 => ?_)
  · have hw := hw.1 c5
    exact hret _ _ _ _ _ dX6_accept_18 hw hP hS
  · have hw := hw.2 c5
    refine lv_aload_n hx hb dX6_accept_8 rfl (lv_at hl 0 rfl) ?_
    refine w_gI (C := RX6) (T := TX6) (N := 4) (ci := 6) hx hb hts in6 hown hK hP 2 ho.1 ho rfl (by decide) (hts _ mf_X6_15) dX6_accept_9 ?_
    refine lv_topi (fun x9 ex9 => ?_)
    have hw := hw x9 ex9
    refine lv_sipush (v := 512) hx hb dX6_accept_12 (by decide) ?_
    refine lv_icmp_lt (tgt := 19) hx hb dX6_accept_15 (by decide) (fun c15 => ?_) (fun c15 => ?_)
    · have hw := hw.1 c15
      refine lv_aload_n hx hb dX6_accept_19 rfl (lv_at hl 0 rfl) ?_
      refine w_gR (C := RX6) (T := TX6) (N := 4) (ci := 6) hx hb hts in6 hown hK hP 0 ho.1 ho rfl (by decide) (ch6_0 ho).1 (hts _ mf_X6_9) dX6_accept_20 ?_
      refine lv_aload_n hx hb dX6_accept_23 rfl (lv_at hl 0 rfl) ?_
      refine w_gI (C := RX6) (T := TX6) (N := 4) (ci := 6) hx hb hts in6 hown hK hP 1 ho.1 ho rfl (by decide) (hts _ mf_X6_22) dX6_accept_24 ?_
      refine lv_topi (fun x24 ex24 => ?_)
      have hw := hw x24 ex24
      refine lv_aload_n hx hb dX6_accept_27 rfl (lv_at hl 0 rfl) ?_
      refine w_gI (C := RX6) (T := TX6) (N := 4) (ci := 6) hx hb hts in6 hown hK hP 2 ho.1 ho rfl (by decide) (hts _ mf_X6_15) dX6_accept_28 ?_
      refine lv_topi (fun x28 ex28 => ?_)
      have hw := hw x28 ex28
      refine lv_iadd hx hb dX6_accept_31 ?_
      refine lv_topi (fun x31 ex31 => ?_)
      have hw := hw x31 ex31
      refine lv_sipush (v := 512) hx hb dX6_accept_32 (by decide) ?_
      refine lv_irem hx hb dX6_accept_35 (by decide) ?_
      refine lv_topi (fun x35 ex35 => ?_)
      have hw := hw x35 ex35
      refine lv_iload_n hx hb dX6_accept_36 rfl (lv_at hl 2 rfl) ?_
      obtain ⟨hi2, hw⟩ := hw
      refine w_is (N := 512) hx hb hK hP hS (ch6_0 ho).2.1.1 (ch6_0 ho).2.1 (ch6_0 ho).2.2 hi2 dX6_accept_37 (fun v1 H locs hv1 hP hz hS => ?_)
      have hw := hw v1 hv1
      refine lv_aload_n hx hb dX6_accept_38 rfl (lv_at hl 0 rfl) ?_
      refine lv_dup hx hb dX6_accept_39 rfl ?_
      refine w_gI (C := RX6) (T := TX6) (N := 4) (ci := 6) hx hb hts in6 hown hK hP 2 ho.1 ho rfl (by decide) (hts _ mf_X6_15) dX6_accept_40 ?_
      refine lv_topi (fun x40 ex40 => ?_)
      have hw := hw x40 ex40
      refine lv_iconst (v := 1) hx hb dX6_accept_43 (by decide) ?_
      refine lv_iadd hx hb dX6_accept_44 ?_
      refine lv_topi (fun x44 ex44 => ?_)
      have hw := hw x44 ex44
      refine w_pI (C := RX6) (T := TX6) (N := 4) (ci := 6) hx hb hts in6 tyX6 tyX6_ok nmX6 hown hK hP hS 2 ho.1 ho rfl (by decide) (hts _ mf_X6_15) rfl (ty := .int) (by decide +kernel) rfl rfl dX6_accept_45 (fun v3 H locs hv3 hP hz hS => ?_)
      have hw := hw v3 hv3
      refine lv_aload_n hx hb dX6_accept_48 rfl (lv_at hl 0 rfl) ?_
      refine lv_aload_n hx hb dX6_accept_49 rfl (lv_at hl 0 rfl) ?_
      refine w_gI (C := RX6) (T := TX6) (N := 4) (ci := 6) hx hb hts in6 hown hK hP 3 ho.1 ho rfl (by decide) (hts _ mf_X6_19) dX6_accept_50 ?_
      refine lv_topi (fun x50 ex50 => ?_)
      have hw := hw x50 ex50
      refine lv_iconst (v := 1) hx hb dX6_accept_53 (by decide) ?_
      refine lv_iadd hx hb dX6_accept_54 ?_
      refine lv_topi (fun x54 ex54 => ?_)
      have hw := hw x54 ex54
      refine lv_bipush (v := 127) hx hb dX6_accept_55 (by decide) ?_
      refine lv_iand hx hb dX6_accept_57 ?_
      refine lv_topi (fun x57 ex57 => ?_)
      have hw := hw x57 ex57
      refine w_pI (C := RX6) (T := TX6) (N := 4) (ci := 6) hx hb hts in6 tyX6 tyX6_ok nmX6 hown hK hP hS 3 ho.1 ho rfl (by decide) (hts _ mf_X6_19) rfl (ty := .int) (by decide +kernel) rfl rfl dX6_accept_58 (fun v4 H locs hv4 hP hz hS => ?_)
      have hw := hw v4 hv4
      exact hret _ _ _ _ _ dX6_accept_61 hw hP hS
    · have hw := hw.2 c15
      exact hret _ _ _ _ _ dX6_accept_18 hw hP hS
