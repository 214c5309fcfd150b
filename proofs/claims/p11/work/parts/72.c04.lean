def b_X9_urge_18 (p1 : Int32) (p2 : Int32) (Q : Int32 → VV → Prop) (a1 : Int32) (a2 : Int32) (v : VV) : Prop :=
  Q ((-1)) v
set_option maxHeartbeats 4000000 in
set_option maxRecDepth 100000 in
theorem tb_X9_urge_18 {p : Program} {l : Launch} {e : Env} {s : State} {m : MethodId} {args : Array Value} {below : List Frame} {meth : Method} {c : Code} {QQ : State → Prop} {dC : Nat → ClassId} {dI : Nat → Nat → Nat} {base : Nat} {cy : Nat → ClassId} (hx : p.tables.exec = Jvm.exec) (hb : c.code = cX9_urge) (hml : c.maxLocals = 3) (hown : s.vm.findClass RX9 = some m.cls) (hts : ∀ w ∈ TB, w.before args s = true) (hK : va_K (dC, dI) vwCl (tyL cy) s) (p1 : Int32) (p2 : Int32) (Q : Int32 → VV → Prop) (hret : ∀ (pc : Nat) (x : Int32) (v : VV) (H : Heap) (locs : List Loc) (ls : Array Slot), decode cX9_urge pc = .ok (.ireturn, 1) → Q x v → va_P (dC, dI) vwCl (Wd base cy rf v 874) H → va_S (fun q => base ≤ q) s.heap H locs → W p l e { frames := 5, cells := 0, slots := 0, locals := 111 } s m args below meth c H locs 0 0 QQ (F0 m pc ls [.int x])) (a1 : Int32) (a2 : Int32) (v : VV) (H : Heap) (locs : List Loc) (ls : Array Slot) (hw : b_X9_urge_18 p1 p2 Q  a1 a2 v) : lv_has ls 3 [(0, .ref (base + 0)), (1, .int a1), (2, .int a2)] → va_P (dC, dI) vwCl (Wd base cy rf v 874) H → va_S (fun q => base ≤ q) s.heap H locs → W p l e { frames := 5, cells := 0, slots := 0, locals := 111 } s m args below meth c H locs 0 0 QQ (F0 m 18 ls []) := by
  intro hl hP hS
  refine lv_iconst (v := -1) hx hb dX9_urge_18 (by decide) ?_
  exact hret _ _ _ _ _ _ dX9_urge_19 hw hP hS
def w_X9_urge (p1 : Int32) (p2 : Int32) (v : VV) (Q : Int32 → VV → Prop) : Prop :=
  w_X9_isNoEnd p1 v (fun (x1 : Int32) (v1 : VV) => (¬ x1 = 0 → b_X9_urge_18 p1 p2 Q  p1 p2 v1) ∧ (x1 = 0 → (p2 < 0 → b_X9_urge_18 p1 p2 Q  p1 p2 v1) ∧ (¬ p2 < 0 → (p2 ≤ 255 → vp_in p1 2 ∧ ∀ t25 : Nat, t25 = 523 + 146 * (Int32.toNatClampNeg p1) → w_X0_sendUrgentByte t25 p2 v1 (fun (x27 : Int32) (v3 : VV) => Q x27 v3)) ∧ (¬ p2 ≤ 255 → b_X9_urge_18 p1 p2 Q  p1 p2 v1))))
set_option maxHeartbeats 4000000 in
set_option maxRecDepth 100000 in
/-- TransportFour.urge -/
theorem t_X9_urge (l : Launch) (dC : Nat → ClassId) (dI : Nat → Nat → Nat) (base : Nat) (cy : Nat → ClassId) (p1 : Int32) (p2 : Int32) (v : VV) (Q : Int32 → VV → Prop) (hw : w_X9_urge p1 p2 v Q) : CI l yX9_urge (.code yX9_urge cX9_urge 3 (some .int) :: TB) { frames := 5, cells := 0, slots := 0, locals := 111 } dC dI base cy [.ref (base + 0), .int p1, .int p2] v Q := by
  refine Met.ofW (cc := cX9_urge) (maxL := 3) (ret := (some .int)) (by decide) rfl ?_
  intro p e s m args below meth c s₁ B hml hv
  obtain ⟨rfl, hP, hK⟩ := hv
  have hx := B.exec
  have hb := B.bytes
  have hr := B.returns
  have hts0 := atoms_spec (ws := (.code yX9_urge cX9_urge 3 (some .int) :: TB)) B.pre
  have hts : ∀ w ∈ TB, w.before ([.ref (base + 0), .int p1, .int p2]).toArray s = true := fun w h => hts0 w (List.mem_cons_of_mem _ h)
  have hown : s.vm.findClass RX9 = some m.cls := findClass_of_methodNamed B.named
  have hlocks := B.notSynchronized
  have hS : va_S (fun q => base ≤ q) s.heap s.heap [] := va_S.rf
  have hl := lv_entry ([.ref (base + 0), .int p1, .int p2]) (n := 3) (Nat.le_of_ble_eq_true rfl)
  rw [lg_entry_eq]
  generalize (lg_sl ([.ref (base + 0), .int p1, .int p2]) ++ List.replicate (3 - (lg_sl ([.ref (base + 0), .int p1, .int p2])).length) Slot.unset).toArray = ls at hl ⊢
  have hl : lv_has ls 3 [(0, .ref (base + 0)), (1, .int p1), (2, .int p2)] := hl
  have hret : ∀ (pc : Nat) (x : Int32) (v : VV) (H : Heap) (locs : List Loc) (ls : Array Slot), decode cX9_urge pc = .ok (.ireturn, 1) → Q x v → va_P (dC, dI) vwCl (Wd base cy rf v 874) H → va_S (fun q => base ≤ q) s.heap H locs → W p l e { frames := 5, cells := 0, slots := 0, locals := 111 } s m ([.ref (base + 0), .int p1, .int p2]).toArray below meth c H locs 0 0 (MQ below (va_Qi Q (Hp dC dI base cy) (fun q => base ≤ q)) ([.ref (base + 0), .int p1, .int p2]).toArray s 0 0 (fun q => base ≤ q)) (F0 m pc ls [.int x]) := fun pc x v H locs ls hd hq hP hS => W.iret (v := x) hx hb hr (fun t ht hW => ⟨⟨x, v, rfl, hq, by rw [ht]; exact hP, va_K.moved hW.alike hK⟩, hS.F ht⟩) hS.2.2 hd
  refine lv_iload_n hx hb dX9_urge_0 rfl (lv_at hl 1 rfl) ?_
  refine kS_I (As := [.int p1]) (rest := []) ⟨hx, hb, hml, hown, hts⟩ (t_X9_isNoEnd l dC dI base cy p1 v _ hw) (cwS 1 hts (gS ml_X9_29 mt_X9_isNoEnd mn_X9 mo_X9_isNoEnd) rfl rfl rfl (by decide +kernel) ⟨by decide, by decide⟩) hK hP hS rfl hl.1 rfl (Nat.le_of_ble_eq_true rfl) dX9_urge_1 ⟨Nat.zero_le _, Nat.zero_le _⟩ (fun x1 v1 H locs hw hP hS => ?_)
  refine lv_if_ne (tgt := 18) hx hb dX9_urge_4 (by decide) (fun c4 => ?_) (fun c4 => ?_)
  · have hw := hw.1 c4
    exact tb_X9_urge_18 hx hb hml hown hts hK p1 p2 _ hret  p1 p2 v1 _ _ _ hw (lv_sub hl [0, 1, 2] rfl) hP hS
  · have hw := hw.2 c4
    refine lv_iload_n hx hb dX9_urge_7 rfl (lv_at hl 2 rfl) ?_
    refine lv_if_lt (tgt := 18) hx hb dX9_urge_8 (by decide) (fun c8 => ?_) (fun c8 => ?_)
    · have hw := hw.1 c8
      exact tb_X9_urge_18 hx hb hml hown hts hK p1 p2 _ hret  p1 p2 v1 _ _ _ hw (lv_sub hl [0, 1, 2] rfl) hP hS
    · have hw := hw.2 c8
      refine lv_iload_n hx hb dX9_urge_11 rfl (lv_at hl 2 rfl) ?_
      refine lv_sipush (v := 255) hx hb dX9_urge_12 (by decide) ?_
      refine lv_icmp_le (tgt := 20) hx hb dX9_urge_15 (by decide) (fun c15 => ?_) (fun c15 => ?_)
      · have hw := hw.1 c15
        refine lv_aload_n hx hb dX9_urge_20 rfl (lv_at hl 0 rfl) ?_
        refine w_gR (C := RX9) (T := TX9) (N := 4) (ci := 9) hx hb hts in9 hown hK hP 1 th9.1 th9 rfl (by decide) (ch9_1 th9).1 (hts _ mf_X9_21) dX9_urge_21 ?_
        refine lv_iload_n hx hb dX9_urge_24 rfl (lv_at hl 1 rfl) ?_
        obtain ⟨hi2, hw⟩ := hw
        obtain ⟨t25, et25⟩ : ∃ y : Nat, y = 523 + 146 * (Int32.toNatClampNeg p1) := ⟨_, rfl⟩
        have hw := hw t25 et25
        have qt25 := arE (i := (Int32.toNatClampNeg p1)) (in_lt hi2)
        rw [← et25] at qt25
        refine w_aa (q0 := 3) hx hb hK hP (ch9_1 th9).2.1.1 (ch9_1 th9).2.1 (by decide) rfl (ch9_1 th9).2.2 hi2 qt25.1 dX9_urge_25 ?_
        refine lv_iload_n hx hb dX9_urge_26 rfl (lv_at hl 2 rfl) ?_
        refine k_I (As := [.int p2]) (rest := []) ⟨hx, hb, hml, hown, hts⟩ (t_X0_sendUrgentByte l dC dI base cy t25 qt25.2 p2 v1 _ hw) (cwV 1 hts (gV ml_X9_45 mi_X0_sendUrgentByte mx_X0_sendUrgentByte mn_X0 mo_X0_sendUrgentByte) rfl rfl rfl (by decide +kernel) ⟨by decide, by decide⟩) hK hP hS qt25.2 (by decide) rfl rfl hl.1 rfl (Nat.le_of_ble_eq_true rfl) dX9_urge_27 ⟨Nat.zero_le _, Nat.zero_le _⟩ (fun x27 v3 H locs hw hP hS => ?_)
        exact hret _ _ _ _ _ _ dX9_urge_30 hw hP hS
      · have hw := hw.2 c15
        exact tb_X9_urge_18 hx hb hml hown hts hK p1 p2 _ hret  p1 p2 v1 _ _ _ hw (lv_sub hl [0, 1, 2] rfl) hP hS
def w_X3_dropUnsent (o : Nat) (v : VV) (Q : VV → Prop) : Prop :=
  ∀ x2 : Int32, x2 = v o 3 → ∀ v1 : VV, v1 = up2 v o 2 x2 → Q v1
set_option maxHeartbeats 4000000 in
set_option maxRecDepth 100000 in
/-- TransportFour$Outbox.dropUnsent -/
theorem t_X3_dropUnsent (l : Launch) (dC : Nat → ClassId) (dI : Nat → Nat → Nat) (base : Nat) (cy : Nat → ClassId) (o : Nat) (ho : isO 3 o) (v : VV) (Q : VV → Prop) (hw : w_X3_dropUnsent o v Q) : CV l yX3_dropUnsent (.code yX3_dropUnsent cX3_dropUnsent 1 none :: TB) { frames := 0, cells := 0, slots := 0, locals := 0 } dC dI base cy [.ref (base + o)] v Q := by
  refine Met.ofW (cc := cX3_dropUnsent) (maxL := 1) (ret := none) (by decide) rfl ?_
  intro p e s m args below meth c s₁ B hml hv
  obtain ⟨rfl, hP, hK⟩ := hv
  have hx := B.exec
  have hb := B.bytes
  have hr := B.returns
  have hts0 := atoms_spec (ws := (.code yX3_dropUnsent cX3_dropUnsent 1 none :: TB)) B.pre
  have hts : ∀ w ∈ TB, w.before ([.ref (base + o)]).toArray s = true := fun w h => hts0 w (List.mem_cons_of_mem _ h)
  have hown : s.vm.findClass RX3 = some m.cls := findClass_of_methodNamed B.named
  have hlocks := B.notSynchronized
  have hS : va_S (fun q => base ≤ q) s.heap s.heap [] := va_S.rf
  have hl := lv_entry ([.ref (base + o)]) (n := 1) (Nat.le_of_ble_eq_true rfl)
  rw [lg_entry_eq]
  generalize (lg_sl ([.ref (base + o)]) ++ List.replicate (1 - (lg_sl ([.ref (base + o)])).length) Slot.unset).toArray = ls at hl ⊢
  have hl : lv_has ls 1 [(0, .ref (base + o))] := hl
  have hret : ∀ (pc : Nat) (v : VV) (H : Heap) (locs : List Loc) (ls : Array Slot), decode cX3_dropUnsent pc = .ok (.return_, 1) → Q v → va_P (dC, dI) vwCl (Wd base cy rf v 874) H → va_S (fun q => base ≤ q) s.heap H locs → W p l e { frames := 0, cells := 0, slots := 0, locals := 0 } s m ([.ref (base + o)]).toArray below meth c H locs 0 0 (MQ below (va_Qv Q (Hp dC dI base cy) (fun q => base ≤ q)) ([.ref (base + o)]).toArray s 0 0 (fun q => base ≤ q)) (F0 m pc ls []) := fun pc v H locs ls hd hq hP hS => W.vret hx hb hr (fun t ht hW => ⟨⟨v, rfl, hq, by rw [ht]; exact hP, va_K.moved hW.alike hK⟩, hS.F ht⟩) hS.2.2 hd
  refine lv_aload_n hx hb dX3_dropUnsent_0 rfl (lv_at hl 0 rfl) ?_
  refine lv_aload_n hx hb dX3_dropUnsent_1 rfl (lv_at hl 0 rfl) ?_
  refine w_gI (C := RX3) (T := TX3) (N := 6) (ci := 3) hx hb hts in3 hown hK hP 3 ho.1 ho rfl (by decide) (hts _ mf_X3_22) dX3_dropUnsent_2 ?_
  refine lv_topi (fun x2 ex2 => ?_)
  have hw := hw x2 ex2
  refine w_pI (C := RX3) (T := TX3) (N := 6) (ci := 3) hx hb hts in3 tyX3 tyX3_ok nmX3 hown hK hP hS 2 ho.1 ho rfl (by decide) (hts _ mf_X3_18) rfl (ty := .int) (by decide +kernel) rfl rfl dX3_dropUnsent_5 (fun v1 H locs hv1 hP hz hS => ?_)
  have hw := hw v1 hv1
  exact hret _ _ _ _ _ dX3_dropUnsent_8 hw hP hS
def b_X7_dropUnsent_16 (o : Nat) (Q : VV → Prop) (s0 : Int32) (v : VV) : Prop :=
  ∀ v1 : VV, v1 = up2 v o 2 s0 → Q v1
set_option maxHeartbeats 4000000 in
set_option maxRecDepth 100000 in
theorem tb_X7_dropUnsent_16 {p : Program} {l : Launch} {e : Env} {s : State} {m : MethodId} {args : Array Value} {below : List Frame} {meth : Method} {c : Code} {QQ : State → Prop} {dC : Nat → ClassId} {dI : Nat → Nat → Nat} {base : Nat} {cy : Nat → ClassId} (hx : p.tables.exec = Jvm.exec) (hb : c.code = cX7_dropUnsent) (hml : c.maxLocals = 1) (hown : s.vm.findClass RX7 = some m.cls) (hts : ∀ w ∈ TB, w.before args s = true) (hK : va_K (dC, dI) vwCl (tyL cy) s) (o : Nat) (ho : isO 7 o) (Q : VV → Prop) (hret : ∀ (pc : Nat) (v : VV) (H : Heap) (locs : List Loc) (ls : Array Slot), decode cX7_dropUnsent pc = .ok (.return_, 1) → Q v → va_P (dC, dI) vwCl (Wd base cy rf v 874) H → va_S (fun q => base ≤ q) s.heap H locs → W p l e { frames := 0, cells := 0, slots := 0, locals := 0 } s m args below meth c H locs 0 0 QQ (F0 m pc ls [])) (s0 : Int32) (v : VV) (H : Heap) (locs : List Loc) (ls : Array Slot) (hw : b_X7_dropUnsent_16 o Q  s0 v) : lv_has ls 1 [(0, .ref (base + o))] → va_P (dC, dI) vwCl (Wd base cy rf v 874) H → va_S (fun q => base ≤ q) s.heap H locs → W p l e { frames := 0, cells := 0, slots := 0, locals := 0 } s m args below meth c H locs 0 0 QQ (F0 m 16 ls [.int s0, .ref (base + o)]) := by
  intro hl hP hS
  refine w_pI (C := RX7) (T := TX7) (N := 4) (ci := 7) hx hb hts in7 tyX7 tyX7_ok nmX7 hown hK hP hS 2 ho.1 ho rfl (by decide) (hts _ mf_X7_22) rfl (ty := .int) (by decide +kernel) rfl rfl dX7_dropUnsent_16 (fun v1 H locs hv1 hP hz hS => ?_)
  have hw := hw v1 hv1
  exact hret _ _ _ _ _ dX7_dropUnsent_19 hw hP hS
def w_X7_dropUnsent (o : Nat) (v : VV) (Q : VV → Prop) : Prop :=
  ∀ x5 : Int32, x5 = v (o + 2) 0 → (x5 ≤ 0 → b_X7_dropUnsent_16 o Q  0 v) ∧ (¬ x5 ≤ 0 → b_X7_dropUnsent_16 o Q  1 v)
set_option maxHeartbeats 4000000 in
set_option maxRecDepth 100000 in
/-- TransportFour$UrgentOut.dropUnsent -/
theorem t_X7_dropUnsent (l : Launch) (dC : Nat → ClassId) (dI : Nat → Nat → Nat) (base : Nat) (cy : Nat → ClassId) (o : Nat) (ho : isO 7 o) (v : VV) (Q : VV → Prop) (hw : w_X7_dropUnsent o v Q) : CV l yX7_dropUnsent (.code yX7_dropUnsent cX7_dropUnsent 1 none :: TB) { frames := 0, cells := 0, slots := 0, locals := 0 } dC dI base cy [.ref (base + o)] v Q := by
  refine Met.ofW (cc := cX7_dropUnsent) (maxL := 1) (ret := none) (by decide) rfl ?_
  intro p e s m args below meth c s₁ B hml hv
  obtain ⟨rfl, hP, hK⟩ := hv
  have hx := B.exec
  have hb := B.bytes
  have hr := B.returns
  have hts0 := atoms_spec (ws := (.code yX7_dropUnsent cX7_dropUnsent 1 none :: TB)) B.pre
  have hts : ∀ w ∈ TB, w.before ([.ref (base + o)]).toArray s = true := fun w h => hts0 w (List.mem_cons_of_mem _ h)
  have hown : s.vm.findClass RX7 = some m.cls := findClass_of_methodNamed B.named
  have hlocks := B.notSynchronized
  have hS : va_S (fun q => base ≤ q) s.heap s.heap [] := va_S.rf
  have hl := lv_entry ([.ref (base + o)]) (n := 1) (Nat.le_of_ble_eq_true rfl)
  rw [lg_entry_eq]
  generalize (lg_sl ([.ref (base + o)]) ++ List.replicate (1 - (lg_sl ([.ref (base + o)])).length) Slot.unset).toArray = ls at hl ⊢
  have hl : lv_has ls 1 [(0, .ref (base + o))] := hl
  have hret : ∀ (pc : Nat) (v : VV) (H : Heap) (locs : List Loc) (ls : Array Slot), decode cX7_dropUnsent pc = .ok (.return_, 1) → Q v → va_P (dC, dI) vwCl (Wd base cy rf v 874) H → va_S (fun q => base ≤ q) s.heap H locs → W p l e { frames := 0, cells := 0, slots := 0, locals := 0 } s m ([.ref (base + o)]).toArray below meth c H locs 0 0 (MQ below (va_Qv Q (Hp dC dI base cy) (fun q => base ≤ q)) ([.ref (base + o)]).toArray s 0 0 (fun q => base ≤ q)) (F0 m pc ls []) := fun pc v H locs ls hd hq hP hS => W.vret hx hb hr (fun t ht hW => ⟨⟨v, rfl, hq, by rw [ht]; exact hP, va_K.moved hW.alike hK⟩, hS.F ht⟩) hS.2.2 hd
  refine lv_aload_n hx hb dX7_dropUnsent_0 rfl (lv_at hl 0 rfl) ?_
  refine lv_aload_n hx hb dX7_dropUnsent_1 rfl (lv_at hl 0 rfl) ?_
  refine w_gR (C := RX7) (T := TX7) (N := 4) (ci := 7) hx hb hts in7 hown hK hP 1 ho.1 ho rfl (by decide) (ch7_1 ho).1 (hts _ mf_X7_18) dX7_dropUnsent_2 ?_
  refine w_gI (C := RX8) (T := TX8) (N := 2) (ci := 8) hx hb hts in8 hown hK hP 0 (ch7_1 ho).2.1 (ch7_1 ho).2 rfl (by decide) (hts _ mf_X7_32) dX7_dropUnsent_5 ?_
  refine lv_topi (fun x5 ex5 => ?_)
  have hw := hw x5 ex5
  refine lv_if_le (tgt := 15) hx hb dX7_dropUnsent_8 (by decide) (fun c8 => ?_) (fun c8 => ?_)
  · have hw := hw.1 c8
    refine lv_iconst (v := 0) hx hb dX7_dropUnsent_15 (by decide) ?_
    exact tb_X7_dropUnsent_16 hx hb hml hown hts hK o ho _ hret  0 v _ _ _ hw (lv_sub hl [0] rfl) hP hS
  · have hw := hw.2 c8
    refine lv_iconst (v := 1) hx hb dX7_dropUnsent_11 (by decide) ?_
    refine lv_goto (tgt := 16) hx hb dX7_dropUnsent_12 (by decide) ?_
    exact tb_X7_dropUnsent_16 hx hb hml hown hts hK o ho _ hret  1 v _ _ _ hw (lv_sub hl [0] rfl) hP hS
def w_X0_noteReason (o : Nat) (p1 : Int32) (v : VV) (Q : VV → Prop) : Prop :=
  ∀ x1 : Int32, x1 = v o 11 → (¬ x1 = (-1) → Q v) ∧ (x1 = (-1) → ∀ v1 : VV, v1 = up2 v o 11 p1 → Q v1)
set_option maxHeartbeats 4000000 in
set_option maxRecDepth 100000 in
/-- TransportFour$End.noteReason -/
theorem t_X0_noteReason (l : Launch) (dC : Nat → ClassId) (dI : Nat → Nat → Nat) (base : Nat) (cy : Nat → ClassId) (o : Nat) (ho : isO 0 o) (p1 : Int32) (v : VV) (Q : VV → Prop) (hw : w_X0_noteReason o p1 v Q) : CV l yX0_noteReason (.code yX0_noteReason cX0_noteReason 2 none :: TB) { frames := 0, cells := 0, slots := 0, locals := 0 } dC dI base cy [.ref (base + o), .int p1] v Q := by
  refine Met.ofW (cc := cX0_noteReason) (maxL := 2) (ret := none) (by decide) rfl ?_
  intro p e s m args below meth c s₁ B hml hv
  obtain ⟨rfl, hP, hK⟩ := hv
  have hx := B.exec
  have hb := B.bytes
  have hr := B.returns
  have hts0 := atoms_spec (ws := (.code yX0_noteReason cX0_noteReason 2 none :: TB)) B.pre
  have hts : ∀ w ∈ TB, w.before ([.ref (base + o), .int p1]).toArray s = true := fun w h => hts0 w (List.mem_cons_of_mem _ h)
  have hown : s.vm.findClass RX0 = some m.cls := findClass_of_methodNamed B.named
  have hlocks := B.notSynchronized
  have hS : va_S (fun q => base ≤ q) s.heap s.heap [] := va_S.rf
  have hl := lv_entry ([.ref (base + o), .int p1]) (n := 2) (Nat.le_of_ble_eq_true rfl)
  rw [lg_entry_eq]
  generalize (lg_sl ([.ref (base + o), .int p1]) ++ List.replicate (2 - (lg_sl ([.ref (base + o), .int p1])).length) Slot.unset).toArray = ls at hl ⊢
  have hl : lv_has ls 2 [(0, .ref (base + o)), (1, .int p1)] := hl
  have hret : ∀ (pc : Nat) (v : VV) (H : Heap) (locs : List Loc) (ls : Array Slot), decode cX0_noteReason pc = .ok (.return_, 1) → Q v → va_P (dC, dI) vwCl (Wd base cy rf v 874) H → va_S (fun q => base ≤ q) s.heap H locs → W p l e { frames := 0, cells := 0, slots := 0, locals := 0 } s m ([.ref (base + o), .int p1]).toArray below meth c H locs 0 0 (MQ below (va_Qv Q (Hp dC dI base cy) (fun q => base ≤ q)) ([.ref (base + o), .int p1]).toArray s 0 0 (fun q => base ≤ q)) (F0 m pc ls []) := fun pc v H locs ls hd hq hP hS => W.vret hx hb hr (fun t ht hW => ⟨⟨v, rfl, hq, by rw [ht]; exact hP, va_K.moved hW.alike hK⟩, hS.F ht⟩) hS.2.2 hd
  refine lv_aload_n hx hb dX0_noteReason_0 rfl (lv_at hl 0 rfl) ?_
  refine w_gI (C := RX0) (T := TX0) (N := 15) (ci := 0) hx hb hts in0 hown hK hP 11 ho.1 ho rfl (by decide) (hts _ mf_X0_46) dX0_noteReason_1 ?_
  refine lv_topi (fun x1 ex1 => ?_)
  have hw := hw x1 ex1
  refine lv_iconst (v := -1) hx hb dX0_noteReason_4 (by decide) ?_
  refine lv_icmp_ne (tgt := 13) hx hb dX0_noteReason_5 (by decide) (fun c5 => ?_) (fun c5 => ?_)
  · have hw := hw.1 c5
    exact hret _ _ _ _ _ dX0_noteReason_13 hw hP hS
  · have hw := hw.2 c5
    refine lv_aload_n hx hb dX0_noteReason_8 rfl (lv_at hl 0 rfl) ?_
    refine lv_iload_n hx hb dX0_noteReason_9 rfl (lv_at hl 1 rfl) ?_
    refine w_pI (C := RX0) (T := TX0) (N := 15) (ci := 0) hx hb hts in0 tyX0 tyX0_ok nmX0 hown hK hP hS 11 ho.1 ho rfl (by decide) (hts _ mf_X0_46) rfl (ty := .int) (by decide +kernel) rfl rfl dX0_noteReason_10 (fun v1 H locs hv1 hP hz hS => ?_)
    have hw := hw v1 hv1
    exact hret _ _ _ _ _ dX0_noteReason_13 hw hP hS
def b_X0_endConnection_19 (o : Nat) (Q : Int32 → VV → Prop)  (v : VV) : Prop :=
  w_X3_dropUnsent (o + 1) v (fun (v1 : VV) => w_X7_dropUnsent (o + 140) v1 (fun (v2 : VV) => ∀ v3 : VV, v3 = up2 v2 o 8 3 → w_X0_noteReason o 0 v3 (fun (v4 : VV) => w_X0_awaitLink o 128 v4 (fun (v5 : VV) => w_X0_sendAwaitedLink o v5 (fun (v6 : VV) => Q 1 v6)))))
set_option maxHeartbeats 4000000 in
set_option maxRecDepth 100000 in
theorem tb_X0_endConnection_19 {p : Program} {l : Launch} {e : Env} {s : State} {m : MethodId} {args : Array Value} {below : List Frame} {meth : Method} {c : Code} {QQ : State → Prop} {dC : Nat → ClassId} {dI : Nat → Nat → Nat} {base : Nat} {cy : Nat → ClassId} (hx : p.tables.exec = Jvm.exec) (hb : c.code = cX0_endConnection) (hml : c.maxLocals = 1) (hown : s.vm.findClass RX0 = some m.cls) (hts : ∀ w ∈ TB, w.before args s = true) (hK : va_K (dC, dI) vwCl (tyL cy) s) (o : Nat) (ho : isO 0 o) (Q : Int32 → VV → Prop) (hret : ∀ (pc : Nat) (x : Int32) (v : VV) (H : Heap) (locs : List Loc) (ls : Array Slot), decode cX0_endConnection pc = .ok (.ireturn, 1) → Q x v → va_P (dC, dI) vwCl (Wd base cy rf v 874) H → va_S (fun q => base ≤ q) s.heap H locs → W p l e { frames := 4, cells := 0, slots := 0, locals := 92 } s m args below meth c H locs 0 0 QQ (F0 m pc ls [.int x]))  (v : VV) (H : Heap) (locs : List Loc) (ls : Array Slot) (hw : b_X0_endConnection_19 o Q   v) : lv_has ls 1 [(0, .ref (base + o))] → va_P (dC, dI) vwCl (Wd base cy rf v 874) H → va_S (fun q => base ≤ q) s.heap H locs → W p l e { frames := 4, cells := 0, slots := 0, locals := 92 } s m args below meth c H locs 0 0 QQ (F0 m 19 ls []) := by
  intro hl hP hS
  refine lv_aload_n hx hb dX0_endConnection_19 rfl (lv_at hl 0 rfl) ?_
  refine w_gR (C := RX0) (T := TX0) (N := 15) (ci := 0) hx hb hts in0 hown hK hP 2 ho.1 ho rfl (by decide) (ch0_2 ho).1 (hts _ mf_X0_12) dX0_endConnection_20 ?_
  refine k_V (As := []) (rest := []) ⟨hx, hb, hml, hown, hts⟩ (t_X3_dropUnsent l dC dI base cy (o + 1) (ch0_2 ho).2 v _ hw) (cwV 0 hts (gV ml_X0_117 mi_X3_dropUnsent mx_X3_dropUnsent mn_X3 mo_X3_dropUnsent) rfl rfl rfl (by decide +kernel) ⟨by decide, by decide⟩) hK hP hS (ch0_2 ho).2 (by decide) rfl rfl hl.1 rfl (Nat.le_of_ble_eq_true rfl) dX0_endConnection_23 ⟨Nat.zero_le _, Nat.zero_le _⟩ (fun v1 H locs hw hP hS => ?_)
  refine lv_aload_n hx hb dX0_endConnection_26 rfl (lv_at hl 0 rfl) ?_
  refine w_gR (C := RX0) (T := TX0) (N := 15) (ci := 0) hx hb hts in0 hown hK hP 4 ho.1 ho rfl (by decide) (ch0_4 ho).1 (hts _ mf_X0_28) dX0_endConnection_27 ?_
  refine k_V (As := []) (rest := []) ⟨hx, hb, hml, hown, hts⟩ (t_X7_dropUnsent l dC dI base cy (o + 140) (ch0_4 ho).2 v1 _ hw) (cwV 0 hts (gV ml_X0_120 mi_X7_dropUnsent mx_X7_dropUnsent mn_X7 mo_X7_dropUnsent) rfl rfl rfl (by decide +kernel) ⟨by decide, by decide⟩) hK hP hS (ch0_4 ho).2 (by decide) rfl rfl hl.1 rfl (Nat.le_of_ble_eq_true rfl) dX0_endConnection_30 ⟨Nat.zero_le _, Nat.zero_le _⟩ (fun v2 H locs hw hP hS => ?_)
  refine lv_aload_n hx hb dX0_endConnection_33 rfl (lv_at hl 0 rfl) ?_
  refine lv_iconst (v := 3) hx hb dX0_endConnection_34 (by decide) ?_
  refine w_pI (C := RX0) (T := TX0) (N := 15) (ci := 0) hx hb hts in0 tyX0 tyX0_ok nmX0 hown hK hP hS 8 ho.1 ho rfl (by decide) (hts _ mf_X0_57) rfl (ty := .int) (by decide +kernel) rfl rfl dX0_endConnection_35 (fun v3 H locs hv3 hP hz hS => ?_)
  have hw := hw v3 hv3
  refine lv_aload_n hx hb dX0_endConnection_38 rfl (lv_at hl 0 rfl) ?_
  refine lv_iconst (v := 0) hx hb dX0_endConnection_39 (by decide) ?_
  refine k_V (As := [.int 0]) (rest := []) ⟨hx, hb, hml, hown, hts⟩ (t_X0_noteReason l dC dI base cy o ho 0 v3 _ hw) (cwV 1 hts (gV ml_X0_121 mi_X0_noteReason mx_X0_noteReason mn_X0 mo_X0_noteReason) rfl rfl rfl (by decide +kernel) ⟨by decide, by decide⟩) hK hP hS ho (by decide) rfl rfl hl.1 rfl (Nat.le_of_ble_eq_true rfl) dX0_endConnection_40 ⟨Nat.zero_le _, Nat.zero_le _⟩ (fun v4 H locs hw hP hS => ?_)
  refine lv_aload_n hx hb dX0_endConnection_43 rfl (lv_at hl 0 rfl) ?_
  refine lv_sipush (v := 128) hx hb dX0_endConnection_44 (by decide) ?_
  refine k_V (As := [.int 128]) (rest := []) ⟨hx, hb, hml, hown, hts⟩ (t_X0_awaitLink l dC dI base cy o ho 128 v4 _ hw) (cwV 1 hts (gV ml_X0_64 mi_X0_awaitLink mx_X0_awaitLink mn_X0 mo_X0_awaitLink) rfl rfl rfl (by decide +kernel) ⟨by decide, by decide⟩) hK hP hS ho (by decide) rfl rfl hl.1 rfl (Nat.le_of_ble_eq_true rfl) dX0_endConnection_47 ⟨Nat.zero_le _, Nat.zero_le _⟩ (fun v5 H locs hw hP hS => ?_)
  refine lv_aload_n hx hb dX0_endConnection_50 rfl (lv_at hl 0 rfl) ?_
  refine k_V (As := []) (rest := []) ⟨hx, hb, hml, hown, hts⟩ (t_X0_sendAwaitedLink l dC dI base cy o ho v5 _ hw) (cwV 0 hts (gV ml_X0_68 mi_X0_sendAwaitedLink mx_X0_sendAwaitedLink mn_X0 mo_X0_sendAwaitedLink) rfl rfl rfl (by decide +kernel) ⟨by decide, by decide⟩) hK hP hS ho (by decide) rfl rfl hl.1 rfl (Nat.le_of_ble_eq_true rfl) dX0_endConnection_51 ⟨Nat.zero_le _, Nat.zero_le _⟩ (fun v6 H locs hw hP hS => ?_)
  refine lv_iconst (v := 1) hx hb dX0_endConnection_54 (by decide) ?_
  exact hret _ _ _ _ _ _ dX0_endConnection_55 hw hP hS
def w_X0_endConnection (o : Nat) (v : VV) (Q : Int32 → VV → Prop) : Prop :=
  ∀ x1 : Int32, x1 = v o 8 → (x1 = 2 → b_X0_endConnection_19 o Q   v) ∧ (¬ x1 = 2 → ∀ x9 : Int32, x9 = v o 8 → (x9 = 1 → b_X0_endConnection_19 o Q   v) ∧ (¬ x9 = 1 → Q ((-2)) v))
set_option maxHeartbeats 4000000 in
set_option maxRecDepth 100000 in
/-- TransportFour$End.endConnection -/
theorem t_X0_endConnection (l : Launch) (dC : Nat → ClassId) (dI : Nat → Nat → Nat) (base : Nat) (cy : Nat → ClassId) (o : Nat) (ho : isO 0 o) (v : VV) (Q : Int32 → VV → Prop) (hw : w_X0_endConnection o v Q) : CI l yX0_endConnection (.code yX0_endConnection cX0_endConnection 1 (some .int) :: TB) { frames := 4, cells := 0, slots := 0, locals := 92 } dC dI base cy [.ref (base + o)] v Q := by
  refine Met.ofW (cc := cX0_endConnection) (maxL := 1) (ret := (some .int)) (by decide) rfl ?_
  intro p e s m args below meth c s₁ B hml hv
  obtain ⟨rfl, hP, hK⟩ := hv
  have hx := B.exec
  have hb := B.bytes
  have hr := B.returns
  have hts0 := atoms_spec (ws := (.code yX0_endConnection cX0_endConnection 1 (some .int) :: TB)) B.pre
  have hts : ∀ w ∈ TB, w.before ([.ref (base + o)]).toArray s = true := fun w h => hts0 w (List.mem_cons_of_mem _ h)
  have hown : s.vm.findClass RX0 = some m.cls := findClass_of_methodNamed B.named
  have hlocks := B.notSynchronized
  have hS : va_S (fun q => base ≤ q) s.heap s.heap [] := va_S.rf
  have hl := lv_entry ([.ref (base + o)]) (n := 1) (Nat.le_of_ble_eq_true rfl)
  rw [lg_entry_eq]
  generalize (lg_sl ([.ref (base + o)]) ++ List.replicate (1 - (lg_sl ([.ref (base + o)])).length) Slot.unset).toArray = ls at hl ⊢
  have hl : lv_has ls 1 [(0, .ref (base + o))] := hl
  have hret : ∀ (pc : Nat) (x : Int32) (v : VV) (H : Heap) (locs : List Loc) (ls : Array Slot), decode cX0_endConnection pc = .ok (.ireturn, 1) → Q x v → va_P (dC, dI) vwCl (Wd base cy rf v 874) H → va_S (fun q => base ≤ q) s.heap H locs → W p l e { frames := 4, cells := 0, slots := 0, locals := 92 } s m ([.ref (base + o)]).toArray below meth c H locs 0 0 (MQ below (va_Qi Q (Hp dC dI base cy) (fun q => base ≤ q)) ([.ref (base + o)]).toArray s 0 0 (fun q => base ≤ q)) (F0 m pc ls [.int x]) := fun pc x v H locs ls hd hq hP hS => W.iret (v := x) hx hb hr (fun t ht hW => ⟨⟨x, v, rfl, hq, by rw [ht]; exact hP, va_K.moved hW.alike hK⟩, hS.F ht⟩) hS.2.2 hd
  refine lv_aload_n hx hb dX0_endConnection_0 rfl (lv_at hl 0 rfl) ?_
  refine w_gI (C := RX0) (T := TX0) (N := 15) (ci := 0) hx hb hts in0 hown hK hP 8 ho.1 ho rfl (by decide) (hts _ mf_X0_57) dX0_endConnection_1 ?_
  refine lv_topi (fun x1 ex1 => ?_)
  have hw := hw x1 ex1
  refine lv_iconst (v := 2) hx hb dX0_endConnection_4 (by decide) ?_
  refine lv_icmp_eq (tgt := 19) hx hb dX0_endConnection_5 (by decide) (fun c5 => ?_) (fun c5 => ?_)
  · have hw := hw.1 c5
    exact tb_X0_endConnection_19 hx hb hml hown hts hK o ho _ hret   v _ _ _ hw (lv_sub hl [0] rfl) hP hS
  · have hw := hw.2 c5
    refine lv_aload_n hx hb dX0_endConnection_8 rfl (lv_at hl 0 rfl) ?_
    refine w_gI (C := RX0) (T := TX0) (N := 15) (ci := 0) hx hb hts in0 hown hK hP 8 ho.1 ho rfl (by decide) (hts _ mf_X0_57) dX0_endConnection_9 ?_
    refine lv_topi (fun x9 ex9 => ?_)
    have hw := hw x9 ex9
    refine lv_iconst (v := 1) hx hb dX0_endConnection_12 (by decide) ?_
    refine lv_icmp_eq (tgt := 19) hx hb dX0_endConnection_13 (by decide) (fun c13 => ?_) (fun c13 => ?_)
    · have hw := hw.1 c13
      exact tb_X0_endConnection_19 hx hb hml hown hts hK o ho _ hret   v _ _ _ hw (lv_sub hl [0] rfl) hP hS
    · have hw := hw.2 c13
      refine lv_bipush (v := -2) hx hb dX0_endConnection_16 (by decide) ?_
      exact hret _ _ _ _ _ _ dX0_endConnection_18 hw hP hS
def w_X9_end (p1 : Int32) (v : VV) (Q : Int32 → VV → Prop) : Prop :=
  w_X9_isNoEnd p1 v (fun (x1 : Int32) (v1 : VV) => (x1 = 0 → vp_in p1 2 ∧ ∀ t14 : Nat, t14 = 523 + 146 * (Int32.toNatClampNeg p1) → w_X0_endConnection t14 v1 (fun (x15 : Int32) (v3 : VV) => Q x15 v3)) ∧ (¬ x1 = 0 → Q ((-1)) v1))
set_option maxHeartbeats 4000000 in
set_option maxRecDepth 100000 in
/-- TransportFour.end -/
theorem t_X9_end (l : Launch) (dC : Nat → ClassId) (dI : Nat → Nat → Nat) (base : Nat) (cy : Nat → ClassId) (p1 : Int32) (v : VV) (Q : Int32 → VV → Prop) (hw : w_X9_end p1 v Q) : CI l yX9_end (.code yX9_end cX9_end 2 (some .int) :: TB) { frames := 5, cells := 0, slots := 0, locals := 112 } dC dI base cy [.ref (base + 0), .int p1] v Q := by
  refine Met.ofW (cc := cX9_end) (maxL := 2) (ret := (some .int)) (by decide) rfl ?_
  intro p e s m args below meth c s₁ B hml hv
  obtain ⟨rfl, hP, hK⟩ := hv
  have hx := B.exec
  have hb := B.bytes
  have hr := B.returns
  have hts0 := atoms_spec (ws := (.code yX9_end cX9_end 2 (some .int) :: TB)) B.pre
  have hts : ∀ w ∈ TB, w.before ([.ref (base + 0), .int p1]).toArray s = true := fun w h => hts0 w (List.mem_cons_of_mem _ h)
  have hown : s.vm.findClass RX9 = some m.cls := findClass_of_methodNamed B.named
  have hlocks := B.notSynchronized
  have hS : va_S (fun q => base ≤ q) s.heap s.heap [] := va_S.rf
  have hl := lv_entry ([.ref (base + 0), .int p1]) (n := 2) (Nat.le_of_ble_eq_true rfl)
  rw [lg_entry_eq]
  generalize (lg_sl ([.ref (base + 0), .int p1]) ++ List.replicate (2 - (lg_sl ([.ref (base + 0), .int p1])).length) Slot.unset).toArray = ls at hl ⊢
  have hl : lv_has ls 2 [(0, .ref (base + 0)), (1, .int p1)] := hl
  have hret : ∀ (pc : Nat) (x : Int32) (v : VV) (H : Heap) (locs : List Loc) (ls : Array Slot), decode cX9_end pc = .ok (.ireturn, 1) → Q x v → va_P (dC, dI) vwCl (Wd base cy rf v 874) H → va_S (fun q => base ≤ q) s.heap H locs → W p l e { frames := 5, cells := 0, slots := 0, locals := 112 } s m ([.ref (base + 0), .int p1]).toArray below meth c H locs 0 0 (MQ below (va_Qi Q (Hp dC dI base cy) (fun q => base ≤ q)) ([.ref (base + 0), .int p1]).toArray s 0 0 (fun q => base ≤ q)) (F0 m pc ls [.int x]) := fun pc x v H locs ls hd hq hP hS => W.iret (v := x) hx hb hr (fun t ht hW => ⟨⟨x, v, rfl, hq, by rw [ht]; exact hP, va_K.moved hW.alike hK⟩, hS.F ht⟩) hS.2.2 hd
  refine lv_iload_n hx hb dX9_end_0 rfl (lv_at hl 1 rfl) ?_
  refine kS_I (As := [.int p1]) (rest := []) ⟨hx, hb, hml, hown, hts⟩ (t_X9_isNoEnd l dC dI base cy p1 v _ hw) (cwS 1 hts (gS ml_X9_29 mt_X9_isNoEnd mn_X9 mo_X9_isNoEnd) rfl rfl rfl (by decide +kernel) ⟨by decide, by decide⟩) hK hP hS rfl hl.1 rfl (Nat.le_of_ble_eq_true rfl) dX9_end_1 ⟨Nat.zero_le _, Nat.zero_le _⟩ (fun x1 v1 H locs hw hP hS => ?_)
  refine lv_if_eq (tgt := 9) hx hb dX9_end_4 (by decide) (fun c4 => ?_) (fun c4 => ?_)
  · have hw := hw.1 c4
    refine lv_aload_n hx hb dX9_end_9 rfl (lv_at hl 0 rfl) ?_
    refine w_gR (C := RX9) (T := TX9) (N := 4) (ci := 9) hx hb hts in9 hown hK hP 1 th9.1 th9 rfl (by decide) (ch9_1 th9).1 (hts _ mf_X9_21) dX9_end_10 ?_
    refine lv_iload_n hx hb dX9_end_13 rfl (lv_at hl 1 rfl) ?_
    obtain ⟨hi2, hw⟩ := hw
    obtain ⟨t14, et14⟩ : ∃ y : Nat, y = 523 + 146 * (Int32.toNatClampNeg p1) := ⟨_, rfl⟩
    have hw := hw t14 et14
    have qt14 := arE (i := (Int32.toNatClampNeg p1)) (in_lt hi2)
    rw [← et14] at qt14
    refine w_aa (q0 := 3) hx hb hK hP (ch9_1 th9).2.1.1 (ch9_1 th9).2.1 (by decide) rfl (ch9_1 th9).2.2 hi2 qt14.1 dX9_end_14 ?_
    refine k_I (As := []) (rest := []) ⟨hx, hb, hml, hown, hts⟩ (t_X0_endConnection l dC dI base cy t14 qt14.2 v1 _ hw) (cwV 0 hts (gV ml_X9_49 mi_X0_endConnection mx_X0_endConnection mn_X0 mo_X0_endConnection) rfl rfl rfl (by decide +kernel) ⟨by decide, by decide⟩) hK hP hS qt14.2 (by decide) rfl rfl hl.1 rfl (Nat.le_of_ble_eq_true rfl) dX9_end_15 ⟨Nat.zero_le _, Nat.zero_le _⟩ (fun x15 v3 H locs hw hP hS => ?_)
    exact hret _ _ _ _ _ _ dX9_end_18 hw hP hS
  · have hw := hw.2 c4
    refine lv_iconst (v := -1) hx hb dX9_end_7 (by decide) ?_
    exact hret _ _ _ _ _ _ dX9_end_8 hw hP hS
def w_X1_credit (o : Nat) (v : VV) (Q : Int32 → VV → Prop) : Prop :=
  ∀ x4 : Int32, x4 = v o 11 → ∀ x7 : Int32, x7 = 6 - x4 → ∀ x8 : Int32, x8 = (if 0 < x7 then x7 else 0) → Q x8 v
set_option maxHeartbeats 4000000 in
set_option maxRecDepth 100000 in
/-- TransportFour$Inbox.credit -/
theorem t_X1_credit (l : Launch) (dC : Nat → ClassId) (dI : Nat → Nat → Nat) (base : Nat) (cy : Nat → ClassId) (o : Nat) (ho : isO 1 o) (v : VV) (Q : Int32 → VV → Prop) (hw : w_X1_credit o v Q) : CI l yX1_credit (.code yX1_credit cX1_credit 1 (some .int) :: TB) { frames := 1, cells := 0, slots := 0, locals := 21 } dC dI base cy [.ref (base + o)] v Q := by
  refine Met.ofW (cc := cX1_credit) (maxL := 1) (ret := (some .int)) (by decide) rfl ?_
  intro p e s m args below meth c s₁ B hml hv
  obtain ⟨rfl, hP, hK⟩ := hv
  have hx := B.exec
  have hb := B.bytes
  have hr := B.returns
  have hts0 := atoms_spec (ws := (.code yX1_credit cX1_credit 1 (some .int) :: TB)) B.pre
  have hts : ∀ w ∈ TB, w.before ([.ref (base + o)]).toArray s = true := fun w h => hts0 w (List.mem_cons_of_mem _ h)
  have hown : s.vm.findClass RX1 = some m.cls := findClass_of_methodNamed B.named
  have hlocks := B.notSynchronized
  have hS : va_S (fun q => base ≤ q) s.heap s.heap [] := va_S.rf
  have hl := lv_entry ([.ref (base + o)]) (n := 1) (Nat.le_of_ble_eq_true rfl)
  rw [lg_entry_eq]
  generalize (lg_sl ([.ref (base + o)]) ++ List.replicate (1 - (lg_sl ([.ref (base + o)])).length) Slot.unset).toArray = ls at hl ⊢
  have hl : lv_has ls 1 [(0, .ref (base + o))] := hl
  have hret : ∀ (pc : Nat) (x : Int32) (v : VV) (H : Heap) (locs : List Loc) (ls : Array Slot), decode cX1_credit pc = .ok (.ireturn, 1) → Q x v → va_P (dC, dI) vwCl (Wd base cy rf v 874) H → va_S (fun q => base ≤ q) s.heap H locs → W p l e { frames := 1, cells := 0, slots := 0, locals := 21 } s m ([.ref (base + o)]).toArray below meth c H locs 0 0 (MQ below (va_Qi Q (Hp dC dI base cy) (fun q => base ≤ q)) ([.ref (base + o)]).toArray s 0 0 (fun q => base ≤ q)) (F0 m pc ls [.int x]) := fun pc x v H locs ls hd hq hP hS => W.iret (v := x) hx hb hr (fun t ht hW => ⟨⟨x, v, rfl, hq, by rw [ht]; exact hP, va_K.moved hW.alike hK⟩, hS.F ht⟩) hS.2.2 hd
  refine lv_iconst (v := 0) hx hb dX1_credit_0 (by decide) ?_
  refine lv_bipush (v := 6) hx hb dX1_credit_1 (by decide) ?_
  refine lv_aload_n hx hb dX1_credit_3 rfl (lv_at hl 0 rfl) ?_
  refine w_gI (C := RX1) (T := TX1) (N := 15) (ci := 1) hx hb hts in1 hown hK hP 11 ho.1 ho rfl (by decide) (hts _ mf_X1_49) dX1_credit_4 ?_
  refine lv_topi (fun x4 ex4 => ?_)
  have hw := hw x4 ex4
  refine lv_isub hx hb dX1_credit_7 ?_
  refine lv_topi (fun x7 ex7 => ?_)
  have hw := hw x7 ex7
  refine va_mmax hx hb (hml.trans hl.1.symm) hown (hts _ ml_X1_58) (hts _ mt_J9_max_7cf53) (hts _ mn_J9) (hts _ mo_J9_max_7cf53) (by decide) (Nat.le_of_ble_eq_true rfl) (Nat.zero_le _) (Nat.zero_le _) dX1_credit_8 ?_
  refine lv_topi (fun x8 ex8 => ?_)
  have hw := hw x8 ex8
  exact hret _ _ _ _ _ _ dX1_credit_11 hw hP hS
def w_X1_takeNext (o : Nat) (v : VV) (Q : Int32 → VV → Prop) : Prop :=
  ∀ x1 : Int32, x1 = v o 10 → (¬ x1 = 0 → ∀ x16 : Int32, x16 = v (o + 14) (Int32.toNatClampNeg 0) → ∀ v1 : VV, v1 = up2 v o 14 x16 → ∀ x31 : Int32, x31 = v1 o 14 → (¬ (0 : Int32) < 0 ∧ ¬ (0 : Int32) < 0 ∧ ¬ x31 < 0 ∧ (Int32.toNatClampNeg 0) + (Int32.toNatClampNeg x31) ≤ 256 ∧ (Int32.toNatClampNeg 0) + (Int32.toNatClampNeg x31) ≤ 256) ∧ ∀ v2 : VV, v2 = up1 v1 (o + 16) (va_cpy (v1 (o + 13)) (v1 (o + 16)) (Int32.toNatClampNeg 0) (Int32.toNatClampNeg 0) (Int32.toNatClampNeg x31)) → ∀ x39 : Int32, x39 = v2 o 9 → ∀ x43 : Int32, x43 = v2 o 14 → ∀ x46 : Int32, x46 = x39 - x43 → ∀ v3 : VV, v3 = up2 v2 o 9 x46 → ∀ x55 : Int32, x55 = v3 o 14 → ∀ x64 : Int32, x64 = v3 o 9 → (¬ x55 < 0 ∧ ¬ (0 : Int32) < 0 ∧ ¬ x64 < 0 ∧ (Int32.toNatClampNeg x55) + (Int32.toNatClampNeg x64) ≤ 256 ∧ (Int32.toNatClampNeg 0) + (Int32.toNatClampNeg x64) ≤ 256) ∧ ∀ v4 : VV, v4 = up1 v3 (o + 13) (va_cpy (v3 (o + 13)) (v3 (o + 13)) (Int32.toNatClampNeg x55) (Int32.toNatClampNeg 0) (Int32.toNatClampNeg x64)) → ∀ x72 : Int32, x72 = v4 o 11 → ∀ x80 : Int32, x80 = v4 (o + 15) (Int32.toNatClampNeg 0) → ∀ x81 : Int32, x81 = x72 - x80 → ∀ v5 : VV, v5 = up2 v4 o 11 x81 → ∀ x87 : Int32, x87 = v5 o 10 → ∀ x91 : Int32, x91 = x87 - 1 → ∀ v6 : VV, v6 = up2 v5 o 10 x91 → ∀ x106 : Int32, x106 = v6 o 10 → (¬ (1 : Int32) < 0 ∧ ¬ (0 : Int32) < 0 ∧ ¬ x106 < 0 ∧ (Int32.toNatClampNeg 1) + (Int32.toNatClampNeg x106) ≤ 32 ∧ (Int32.toNatClampNeg 0) + (Int32.toNatClampNeg x106) ≤ 32) ∧ ∀ v7 : VV, v7 = up1 v6 (o + 14) (va_cpy (v6 (o + 14)) (v6 (o + 14)) (Int32.toNatClampNeg 1) (Int32.toNatClampNeg 0) (Int32.toNatClampNeg x106)) → ∀ x123 : Int32, x123 = v7 o 10 → (¬ (1 : Int32) < 0 ∧ ¬ (0 : Int32) < 0 ∧ ¬ x123 < 0 ∧ (Int32.toNatClampNeg 1) + (Int32.toNatClampNeg x123) ≤ 32 ∧ (Int32.toNatClampNeg 0) + (Int32.toNatClampNeg x123) ≤ 32) ∧ ∀ v8 : VV, v8 = up1 v7 (o + 15) (va_cpy (v7 (o + 15)) (v7 (o + 15)) (Int32.toNatClampNeg 1) (Int32.toNatClampNeg 0) (Int32.toNatClampNeg x123)) → ∀ x130 : Int32, x130 = v8 o 14 → Q x130 v8) ∧ (x1 = 0 → Q ((-2)) v)
set_option maxHeartbeats 4000000 in
set_option maxRecDepth 100000 in
/-- TransportFour$Inbox.takeNext -/
theorem t_X1_takeNext (l : Launch) (dC : Nat → ClassId) (dI : Nat → Nat → Nat) (base : Nat) (cy : Nat → ClassId) (o : Nat) (ho : isO 1 o) (v : VV) (Q : Int32 → VV → Prop) (hw : w_X1_takeNext o v Q) : CI l yX1_takeNext (.code yX1_takeNext cX1_takeNext 1 (some .int) :: TB) { frames := 1, cells := 0, slots := 0, locals := 26 } dC dI base cy [.ref (base + o)] v Q := by
  refine Met.ofW (cc := cX1_takeNext) (maxL := 1) (ret := (some .int)) (by decide) rfl ?_
  intro p e s m args below meth c s₁ B hml hv
  obtain ⟨rfl, hP, hK⟩ := hv
  have hx := B.exec
  have hb := B.bytes
  have hr := B.returns
  have hts0 := atoms_spec (ws := (.code yX1_takeNext cX1_takeNext 1 (some .int) :: TB)) B.pre
  have hts : ∀ w ∈ TB, w.before ([.ref (base + o)]).toArray s = true := fun w h => hts0 w (List.mem_cons_of_mem _ h)
  have hown : s.vm.findClass RX1 = some m.cls := findClass_of_methodNamed B.named
  have hlocks := B.notSynchronized
  have hS : va_S (fun q => base ≤ q) s.heap s.heap [] := va_S.rf
  have hl := lv_entry ([.ref (base + o)]) (n := 1) (Nat.le_of_ble_eq_true rfl)
  rw [lg_entry_eq]
  generalize (lg_sl ([.ref (base + o)]) ++ List.replicate (1 - (lg_sl ([.ref (base + o)])).length) Slot.unset).toArray = ls at hl ⊢
  have hl : lv_has ls 1 [(0, .ref (base + o))] := hl
  have hret : ∀ (pc : Nat) (x : Int32) (v : VV) (H : Heap) (locs : List Loc) (ls : Array Slot), decode cX1_takeNext pc = .ok (.ireturn, 1) → Q x v → va_P (dC, dI) vwCl (Wd base cy rf v 874) H → va_S (fun q => base ≤ q) s.heap H locs → W p l e { frames := 1, cells := 0, slots := 0, locals := 26 } s m ([.ref (base + o)]).toArray below meth c H locs 0 0 (MQ below (va_Qi Q (Hp dC dI base cy) (fun q => base ≤ q)) ([.ref (base + o)]).toArray s 0 0 (fun q => base ≤ q)) (F0 m pc ls [.int x]) := fun pc x v H locs ls hd hq hP hS => W.iret (v := x) hx hb hr (fun t ht hW => ⟨⟨x, v, rfl, hq, by rw [ht]; exact hP, va_K.moved hW.alike hK⟩, hS.F ht⟩) hS.2.2 hd
  refine lv_aload_n hx hb dX1_takeNext_0 rfl (lv_at hl 0 rfl) ?_
  refine w_gI (C := RX1) (T := TX1) (N := 15) (ci := 1) hx hb hts in1 hown hK hP 10 ho.1 ho rfl (by decide) (hts _ mf_X1_46) dX1_takeNext_1 ?_
  refine lv_topi (fun x1 ex1 => ?_)
  have hw := hw x1 ex1
  refine lv_if_ne (tgt := 10) hx hb dX1_takeNext_4 (by decide) (fun c4 => ?_) (fun c4 => ?_)
  · have hw := hw.1 c4
    refine lv_aload_n hx hb dX1_takeNext_10 rfl (lv_at hl 0 rfl) ?_
    refine lv_aload_n hx hb dX1_takeNext_11 rfl (lv_at hl 0 rfl) ?_
    refine w_gR (C := RX1) (T := TX1) (N := 15) (ci := 1) hx hb hts in1 hown hK hP 5 ho.1 ho rfl (by decide) (ch1_5 ho).1 (hts _ mf_X1_30) dX1_takeNext_12 ?_
    refine lv_iconst (v := 0) hx hb dX1_takeNext_15 (by decide) ?_
    refine w_ia (N := 32) hx hb hK hP (ch1_5 ho).2.1.1 (ch1_5 ho).2.1 (ch1_5 ho).2.2 (vp_in_nI (n := 0) (by decide) (by decide)) dX1_takeNext_16 ?_
    refine lv_topi (fun x16 ex16 => ?_)
    have hw := hw x16 ex16
    refine w_pI (C := RX1) (T := TX1) (N := 15) (ci := 1) hx hb hts in1 tyX1 tyX1_ok nmX1 hown hK hP hS 14 ho.1 ho rfl (by decide) (hts _ mf_X1_96) rfl (ty := .int) (by decide +kernel) rfl rfl dX1_takeNext_17 (fun v1 H locs hv1 hP hz hS => ?_)
    have hw := hw v1 hv1
    refine lv_aload_n hx hb dX1_takeNext_20 rfl (lv_at hl 0 rfl) ?_
    refine w_gR (C := RX1) (T := TX1) (N := 15) (ci := 1) hx hb hts in1 hown hK hP 4 ho.1 ho rfl (by decide) (ch1_4 ho).1 (hts _ mf_X1_27) dX1_takeNext_21 ?_
    refine lv_iconst (v := 0) hx hb dX1_takeNext_24 (by decide) ?_
    refine lv_aload_n hx hb dX1_takeNext_25 rfl (lv_at hl 0 rfl) ?_
    refine w_gR (C := RX1) (T := TX1) (N := 15) (ci := 1) hx hb hts in1 hown hK hP 7 ho.1 ho rfl (by decide) (ch1_7 ho).1 (hts _ mf_X1_36) dX1_takeNext_26 ?_
    refine lv_iconst (v := 0) hx hb dX1_takeNext_29 (by decide) ?_
    refine lv_aload_n hx hb dX1_takeNext_30 rfl (lv_at hl 0 rfl) ?_
    refine w_gI (C := RX1) (T := TX1) (N := 15) (ci := 1) hx hb hts in1 hown hK hP 14 ho.1 ho rfl (by decide) (hts _ mf_X1_96) dX1_takeNext_31 ?_
    refine lv_topi (fun x31 ex31 => ?_)
    have hw := hw x31 ex31
    obtain ⟨hcp, hw⟩ := hw
    refine w_cp hx hb (hml.trans hl.1.symm) hown (hts _ ml_X1_84) (hts _ mcp_n) (hts _ mcp_s) (hts _ mcp_i) hK hP hS (ch1_4 ho).2.1.1 (ch1_4 ho).2.1 (ch1_4 ho).2.2 (ch1_7 ho).2.1.1 (ch1_7 ho).2.1 (ch1_7 ho).2.2 hcp (by decide) (Nat.le_of_ble_eq_true rfl) dX1_takeNext_34 (fun v2 H locs hv2 hP hS => ?_)
    have hw := hw v2 hv2
    refine lv_aload_n hx hb dX1_takeNext_37 rfl (lv_at hl 0 rfl) ?_
    refine lv_dup hx hb dX1_takeNext_38 rfl ?_
    refine w_gI (C := RX1) (T := TX1) (N := 15) (ci := 1) hx hb hts in1 hown hK hP 9 ho.1 ho rfl (by decide) (hts _ mf_X1_43) dX1_takeNext_39 ?_
    refine lv_topi (fun x39 ex39 => ?_)
    have hw := hw x39 ex39
    refine lv_aload_n hx hb dX1_takeNext_42 rfl (lv_at hl 0 rfl) ?_
    refine w_gI (C := RX1) (T := TX1) (N := 15) (ci := 1) hx hb hts in1 hown hK hP 14 ho.1 ho rfl (by decide) (hts _ mf_X1_96) dX1_takeNext_43 ?_
    refine lv_topi (fun x43 ex43 => ?_)
    have hw := hw x43 ex43
    refine lv_isub hx hb dX1_takeNext_46 ?_
    refine lv_topi (fun x46 ex46 => ?_)
    have hw := hw x46 ex46
    refine w_pI (C := RX1) (T := TX1) (N := 15) (ci := 1) hx hb hts in1 tyX1 tyX1_ok nmX1 hown hK hP hS 9 ho.1 ho rfl (by decide) (hts _ mf_X1_43) rfl (ty := .int) (by decide +kernel) rfl rfl dX1_takeNext_47 (fun v3 H locs hv3 hP hz hS => ?_)
    have hw := hw v3 hv3
    refine lv_aload_n hx hb dX1_takeNext_50 rfl (lv_at hl 0 rfl) ?_
    refine w_gR (C := RX1) (T := TX1) (N := 15) (ci := 1) hx hb hts in1 hown hK hP 4 ho.1 ho rfl (by decide) (ch1_4 ho).1 (hts _ mf_X1_27) dX1_takeNext_51 ?_
    refine lv_aload_n hx hb dX1_takeNext_54 rfl (lv_at hl 0 rfl) ?_
    refine w_gI (C := RX1) (T := TX1) (N := 15) (ci := 1) hx hb hts in1 hown hK hP 14 ho.1 ho rfl (by decide) (hts _ mf_X1_96) dX1_takeNext_55 ?_
    refine lv_topi (fun x55 ex55 => ?_)
    have hw := hw x55 ex55
    refine lv_aload_n hx hb dX1_takeNext_58 rfl (lv_at hl 0 rfl) ?_
    refine w_gR (C := RX1) (T := TX1) (N := 15) (ci := 1) hx hb hts in1 hown hK hP 4 ho.1 ho rfl (by decide) (ch1_4 ho).1 (hts _ mf_X1_27) dX1_takeNext_59 ?_
    refine lv_iconst (v := 0) hx hb dX1_takeNext_62 (by decide) ?_
    refine lv_aload_n hx hb dX1_takeNext_63 rfl (lv_at hl 0 rfl) ?_
    refine w_gI (C := RX1) (T := TX1) (N := 15) (ci := 1) hx hb hts in1 hown hK hP 9 ho.1 ho rfl (by decide) (hts _ mf_X1_43) dX1_takeNext_64 ?_
    refine lv_topi (fun x64 ex64 => ?_)
    have hw := hw x64 ex64
    obtain ⟨hcp, hw⟩ := hw
    refine w_cp hx hb (hml.trans hl.1.symm) hown (hts _ ml_X1_84) (hts _ mcp_n) (hts _ mcp_s) (hts _ mcp_i) hK hP hS (ch1_4 ho).2.1.1 (ch1_4 ho).2.1 (ch1_4 ho).2.2 (ch1_4 ho).2.1.1 (ch1_4 ho).2.1 (ch1_4 ho).2.2 hcp (by decide) (Nat.le_of_ble_eq_true rfl) dX1_takeNext_67 (fun v4 H locs hv4 hP hS => ?_)
    have hw := hw v4 hv4
    refine lv_aload_n hx hb dX1_takeNext_70 rfl (lv_at hl 0 rfl) ?_
    refine lv_dup hx hb dX1_takeNext_71 rfl ?_
    refine w_gI (C := RX1) (T := TX1) (N := 15) (ci := 1) hx hb hts in1 hown hK hP 11 ho.1 ho rfl (by decide) (hts _ mf_X1_49) dX1_takeNext_72 ?_
    refine lv_topi (fun x72 ex72 => ?_)
    have hw := hw x72 ex72
    refine lv_aload_n hx hb dX1_takeNext_75 rfl (lv_at hl 0 rfl) ?_
    refine w_gR (C := RX1) (T := TX1) (N := 15) (ci := 1) hx hb hts in1 hown hK hP 6 ho.1 ho rfl (by decide) (ch1_6 ho).1 (hts _ mf_X1_33) dX1_takeNext_76 ?_
    refine lv_iconst (v := 0) hx hb dX1_takeNext_79 (by decide) ?_
    refine w_ia (N := 32) hx hb hK hP (ch1_6 ho).2.1.1 (ch1_6 ho).2.1 (ch1_6 ho).2.2 (vp_in_nI (n := 0) (by decide) (by decide)) dX1_takeNext_80 ?_
    refine lv_topi (fun x80 ex80 => ?_)
    have hw := hw x80 ex80
    refine lv_isub hx hb dX1_takeNext_81 ?_
    refine lv_topi (fun x81 ex81 => ?_)
    have hw := hw x81 ex81
    refine w_pI (C := RX1) (T := TX1) (N := 15) (ci := 1) hx hb hts in1 tyX1 tyX1_ok nmX1 hown hK hP hS 11 ho.1 ho rfl (by decide) (hts _ mf_X1_49) rfl (ty := .int) (by decide +kernel) rfl rfl dX1_takeNext_82 (fun v5 H locs hv5 hP hz hS => ?_)
    have hw := hw v5 hv5
    refine lv_aload_n hx hb dX1_takeNext_85 rfl (lv_at hl 0 rfl) ?_
    refine lv_dup hx hb dX1_takeNext_86 rfl ?_
    refine w_gI (C := RX1) (T := TX1) (N := 15) (ci := 1) hx hb hts in1 hown hK hP 10 ho.1 ho rfl (by decide) (hts _ mf_X1_46) dX1_takeNext_87 ?_
    refine lv_topi (fun x87 ex87 => ?_)
    have hw := hw x87 ex87
    refine lv_iconst (v := 1) hx hb dX1_takeNext_90 (by decide) ?_
    refine lv_isub hx hb dX1_takeNext_91 ?_
    refine lv_topi (fun x91 ex91 => ?_)
    have hw := hw x91 ex91
    refine w_pI (C := RX1) (T := TX1) (N := 15) (ci := 1) hx hb hts in1 tyX1 tyX1_ok nmX1 hown hK hP hS 10 ho.1 ho rfl (by decide) (hts _ mf_X1_46) rfl (ty := .int) (by decide +kernel) rfl rfl dX1_takeNext_92 (fun v6 H locs hv6 hP hz hS => ?_)
    have hw := hw v6 hv6
    refine lv_aload_n hx hb dX1_takeNext_95 rfl (lv_at hl 0 rfl) ?_
    refine w_gR (C := RX1) (T := TX1) (N := 15) (ci := 1) hx hb hts in1 hown hK hP 5 ho.1 ho rfl (by decide) (ch1_5 ho).1 (hts _ mf_X1_30) dX1_takeNext_96 ?_
    refine lv_iconst (v := 1) hx hb dX1_takeNext_99 (by decide) ?_
    refine lv_aload_n hx hb dX1_takeNext_100 rfl (lv_at hl 0 rfl) ?_
    refine w_gR (C := RX1) (T := TX1) (N := 15) (ci := 1) hx hb hts in1 hown hK hP 5 ho.1 ho rfl (by decide) (ch1_5 ho).1 (hts _ mf_X1_30) dX1_takeNext_101 ?_
    refine lv_iconst (v := 0) hx hb dX1_takeNext_104 (by decide) ?_
    refine lv_aload_n hx hb dX1_takeNext_105 rfl (lv_at hl 0 rfl) ?_
    refine w_gI (C := RX1) (T := TX1) (N := 15) (ci := 1) hx hb hts in1 hown hK hP 10 ho.1 ho rfl (by decide) (hts _ mf_X1_46) dX1_takeNext_106 ?_
    refine lv_topi (fun x106 ex106 => ?_)
    have hw := hw x106 ex106
    obtain ⟨hcp, hw⟩ := hw
    refine w_cp hx hb (hml.trans hl.1.symm) hown (hts _ ml_X1_84) (hts _ mcp_n) (hts _ mcp_s) (hts _ mcp_i) hK hP hS (ch1_5 ho).2.1.1 (ch1_5 ho).2.1 (ch1_5 ho).2.2 (ch1_5 ho).2.1.1 (ch1_5 ho).2.1 (ch1_5 ho).2.2 hcp (by decide) (Nat.le_of_ble_eq_true rfl) dX1_takeNext_109 (fun v7 H locs hv7 hP hS => ?_)
    have hw := hw v7 hv7
    refine lv_aload_n hx hb dX1_takeNext_112 rfl (lv_at hl 0 rfl) ?_
    refine w_gR (C := RX1) (T := TX1) (N := 15) (ci := 1) hx hb hts in1 hown hK hP 6 ho.1 ho rfl (by decide) (ch1_6 ho).1 (hts _ mf_X1_33) dX1_takeNext_113 ?_
    refine lv_iconst (v := 1) hx hb dX1_takeNext_116 (by decide) ?_
    refine lv_aload_n hx hb dX1_takeNext_117 rfl (lv_at hl 0 rfl) ?_
    refine w_gR (C := RX1) (T := TX1) (N := 15) (ci := 1) hx hb hts in1 hown hK hP 6 ho.1 ho rfl (by decide) (ch1_6 ho).1 (hts _ mf_X1_33) dX1_takeNext_118 ?_
    refine lv_iconst (v := 0) hx hb dX1_takeNext_121 (by decide) ?_
    refine lv_aload_n hx hb dX1_takeNext_122 rfl (lv_at hl 0 rfl) ?_
    refine w_gI (C := RX1) (T := TX1) (N := 15) (ci := 1) hx hb hts in1 hown hK hP 10 ho.1 ho rfl (by decide) (hts _ mf_X1_46) dX1_takeNext_123 ?_
    refine lv_topi (fun x123 ex123 => ?_)
    have hw := hw x123 ex123
    obtain ⟨hcp, hw⟩ := hw
    refine w_cp hx hb (hml.trans hl.1.symm) hown (hts _ ml_X1_84) (hts _ mcp_n) (hts _ mcp_s) (hts _ mcp_i) hK hP hS (ch1_6 ho).2.1.1 (ch1_6 ho).2.1 (ch1_6 ho).2.2 (ch1_6 ho).2.1.1 (ch1_6 ho).2.1 (ch1_6 ho).2.2 hcp (by decide) (Nat.le_of_ble_eq_true rfl) dX1_takeNext_126 (fun v8 H locs hv8 hP hS => ?_)
    have hw := hw v8 hv8
    refine lv_aload_n hx hb dX1_takeNext_129 rfl (lv_at hl 0 rfl) ?_
    refine w_gI (C := RX1) (T := TX1) (N := 15) (ci := 1) hx hb hts in1 hown hK hP 14 ho.1 ho rfl (by decide) (hts _ mf_X1_96) dX1_takeNext_130 ?_
    refine lv_topi (fun x130 ex130 => ?_)
    have hw := hw x130 ex130
    exact hret _ _ _ _ _ _ dX1_takeNext_133 hw hP hS
  · have hw := hw.2 c4
    refine lv_bipush (v := -2) hx hb dX1_takeNext_7 (by decide) ?_
    exact hret _ _ _ _ _ _ dX1_takeNext_9 hw hP hS
def w_X0_sendNumbered (o : Nat) (p1 : Int32) (p2 : Int32) (v : VV) (Q : VV → Prop) : Prop :=
  w_X2_nextUnit  v (fun (t4 : Nat) (v1 : VV) => isO 5 t4 ∧ ∀ x9 : Int32, x9 = v1 o 10 → w_X5_writeNumbered t4 p1 x9 p2 v1 (fun (v2 : VV) => ∀ x21 : Int32, x21 = v2 o 0 → w_X2_dispatch x21 v2 (fun (v3 : VV) => Q v3)))
set_option maxHeartbeats 4000000 in
set_option maxRecDepth 100000 in
/-- TransportFour$End.sendNumbered -/
theorem t_X0_sendNumbered (l : Launch) (dC : Nat → ClassId) (dI : Nat → Nat → Nat) (base : Nat) (cy : Nat → ClassId) (o : Nat) (ho : isO 0 o) (p1 : Int32) (p2 : Int32) (v : VV) (Q : VV → Prop) (hw : w_X0_sendNumbered o p1 p2 v Q) : CV l yX0_sendNumbered (.code yX0_sendNumbered cX0_sendNumbered 3 none :: TB) { frames := 2, cells := 0, slots := 0, locals := 48 } dC dI base cy [.ref (base + o), .int p1, .int p2] v Q := by
  refine Met.ofW (cc := cX0_sendNumbered) (maxL := 3) (ret := none) (by decide) rfl ?_
  intro p e s m args below meth c s₁ B hml hv
  obtain ⟨rfl, hP, hK⟩ := hv
  have hx := B.exec
  have hb := B.bytes
  have hr := B.returns
  have hts0 := atoms_spec (ws := (.code yX0_sendNumbered cX0_sendNumbered 3 none :: TB)) B.pre
  have hts : ∀ w ∈ TB, w.before ([.ref (base + o), .int p1, .int p2]).toArray s = true := fun w h => hts0 w (List.mem_cons_of_mem _ h)
  have hown : s.vm.findClass RX0 = some m.cls := findClass_of_methodNamed B.named
  have hlocks := B.notSynchronized
  have hS : va_S (fun q => base ≤ q) s.heap s.heap [] := va_S.rf
  have hl := lv_entry ([.ref (base + o), .int p1, .int p2]) (n := 3) (Nat.le_of_ble_eq_true rfl)
  rw [lg_entry_eq]
  generalize (lg_sl ([.ref (base + o), .int p1, .int p2]) ++ List.replicate (3 - (lg_sl ([.ref (base + o), .int p1, .int p2])).length) Slot.unset).toArray = ls at hl ⊢
  have hl : lv_has ls 3 [(0, .ref (base + o)), (1, .int p1), (2, .int p2)] := hl
  have hret : ∀ (pc : Nat) (v : VV) (H : Heap) (locs : List Loc) (ls : Array Slot), decode cX0_sendNumbered pc = .ok (.return_, 1) → Q v → va_P (dC, dI) vwCl (Wd base cy rf v 874) H → va_S (fun q => base ≤ q) s.heap H locs → W p l e { frames := 2, cells := 0, slots := 0, locals := 48 } s m ([.ref (base + o), .int p1, .int p2]).toArray below meth c H locs 0 0 (MQ below (va_Qv Q (Hp dC dI base cy) (fun q => base ≤ q)) ([.ref (base + o), .int p1, .int p2]).toArray s 0 0 (fun q => base ≤ q)) (F0 m pc ls []) := fun pc v H locs ls hd hq hP hS => W.vret hx hb hr (fun t ht hW => ⟨⟨v, rfl, hq, by rw [ht]; exact hP, va_K.moved hW.alike hK⟩, hS.F ht⟩) hS.2.2 hd
  refine lv_aload_n hx hb dX0_sendNumbered_0 rfl (lv_at hl 0 rfl) ?_
  refine w_gR (C := RX0) (T := TX0) (N := 15) (ci := 0) hx hb hts in0 hown hK hP 1 ho.1 ho rfl (by decide) (ch0_1 ho).1 (hts _ mf_X0_53) dX0_sendNumbered_1 ?_
  refine k_Q (As := []) (rest := []) ⟨hx, hb, hml, hown, hts⟩ (t_X2_nextUnit l dC dI base cy  v _ hw) (cwV 0 hts (gV ml_X0_264 mi_X2_nextUnit mx_X2_nextUnit mn_X2 mo_X2_nextUnit) rfl rfl rfl (by decide +kernel) ⟨by decide, by decide⟩) hK hP hS (ch0_1 ho).2 (by decide) rfl rfl hl.1 rfl (Nat.le_of_ble_eq_true rfl) dX0_sendNumbered_4 ⟨Nat.zero_le _, Nat.zero_le _⟩ (fun t4 v1 H locs hw hP hS => ?_)
  obtain ⟨ht4, hw⟩ := hw
  refine lv_iload_n hx hb dX0_sendNumbered_7 rfl (lv_at hl 1 rfl) ?_
  refine lv_aload_n hx hb dX0_sendNumbered_8 rfl (lv_at hl 0 rfl) ?_
  refine w_gI (C := RX0) (T := TX0) (N := 15) (ci := 0) hx hb hts in0 hown hK hP 10 ho.1 ho rfl (by decide) (hts _ mf_X0_81) dX0_sendNumbered_9 ?_
  refine lv_topi (fun x9 ex9 => ?_)
  have hw := hw x9 ex9
  refine lv_iload_n hx hb dX0_sendNumbered_12 rfl (lv_at hl 2 rfl) ?_
  refine k_V (As := [.int p1, .int x9, .int p2]) (rest := []) ⟨hx, hb, hml, hown, hts⟩ (t_X5_writeNumbered l dC dI base cy t4 ht4 p1 x9 p2 v1 _ hw) (cwV 3 hts (gV ml_X0_274 mi_X5_writeNumbered mx_X5_writeNumbered mn_X5 mo_X5_writeNumbered) rfl rfl rfl (by decide +kernel) ⟨by decide, by decide⟩) hK hP hS ht4 (by decide) rfl rfl hl.1 rfl (Nat.le_of_ble_eq_true rfl) dX0_sendNumbered_13 ⟨Nat.zero_le _, Nat.zero_le _⟩ (fun v2 H locs hw hP hS => ?_)
  refine lv_aload_n hx hb dX0_sendNumbered_16 rfl (lv_at hl 0 rfl) ?_
  refine w_gR (C := RX0) (T := TX0) (N := 15) (ci := 0) hx hb hts in0 hown hK hP 1 ho.1 ho rfl (by decide) (ch0_1 ho).1 (hts _ mf_X0_53) dX0_sendNumbered_17 ?_
  refine lv_aload_n hx hb dX0_sendNumbered_20 rfl (lv_at hl 0 rfl) ?_
  refine w_gI (C := RX0) (T := TX0) (N := 15) (ci := 0) hx hb hts in0 hown hK hP 0 ho.1 ho rfl (by decide) (hts _ mf_X0_50) dX0_sendNumbered_21 ?_
  refine lv_topi (fun x21 ex21 => ?_)
  have hw := hw x21 ex21
  refine k_V (As := [.int x21]) (rest := []) ⟨hx, hb, hml, hown, hts⟩ (t_X2_dispatch l dC dI base cy x21 v2 _ hw) (cwV 1 hts (gV ml_X0_271 mi_X2_dispatch mx_X2_dispatch mn_X2 mo_X2_dispatch) rfl rfl rfl (by decide +kernel) ⟨by decide, by decide⟩) hK hP hS (ch0_1 ho).2 (by decide) rfl rfl hl.1 rfl (Nat.le_of_ble_eq_true rfl) dX0_sendNumbered_24 ⟨Nat.zero_le _, Nat.zero_le _⟩ (fun v3 H locs hw hP hS => ?_)
  exact hret _ _ _ _ _ dX0_sendNumbered_27 hw hP hS
def w_X0_sendReceipt (o : Nat) (v : VV) (Q : VV → Prop) : Prop :=
  w_X1_credit (o + 123) v (fun (x7 : Int32) (v1 : VV) => ∀ x10 : Int32, x10 = 96 ||| x7 → ∀ x15 : Int32, x15 = v1 (o + 123) 8 → w_X0_sendNumbered o x10 x15 v1 (fun (v2 : VV) => Q v2))
set_option maxHeartbeats 4000000 in
set_option maxRecDepth 100000 in
/-- TransportFour$End.sendReceipt -/
theorem t_X0_sendReceipt (l : Launch) (dC : Nat → ClassId) (dI : Nat → Nat → Nat) (base : Nat) (cy : Nat → ClassId) (o : Nat) (ho : isO 0 o) (v : VV) (Q : VV → Prop) (hw : w_X0_sendReceipt o v Q) : CV l yX0_sendReceipt (.code yX0_sendReceipt cX0_sendReceipt 1 none :: TB) { frames := 3, cells := 0, slots := 0, locals := 70 } dC dI base cy [.ref (base + o)] v Q := by
  refine Met.ofW (cc := cX0_sendReceipt) (maxL := 1) (ret := none) (by decide) rfl ?_
  intro p e s m args below meth c s₁ B hml hv
  obtain ⟨rfl, hP, hK⟩ := hv
  have hx := B.exec
  have hb := B.bytes
  have hr := B.returns
  have hts0 := atoms_spec (ws := (.code yX0_sendReceipt cX0_sendReceipt 1 none :: TB)) B.pre
  have hts : ∀ w ∈ TB, w.before ([.ref (base + o)]).toArray s = true := fun w h => hts0 w (List.mem_cons_of_mem _ h)
  have hown : s.vm.findClass RX0 = some m.cls := findClass_of_methodNamed B.named
  have hlocks := B.notSynchronized
  have hS : va_S (fun q => base ≤ q) s.heap s.heap [] := va_S.rf
  have hl := lv_entry ([.ref (base + o)]) (n := 1) (Nat.le_of_ble_eq_true rfl)
  rw [lg_entry_eq]
  generalize (lg_sl ([.ref (base + o)]) ++ List.replicate (1 - (lg_sl ([.ref (base + o)])).length) Slot.unset).toArray = ls at hl ⊢
  have hl : lv_has ls 1 [(0, .ref (base + o))] := hl
  have hret : ∀ (pc : Nat) (v : VV) (H : Heap) (locs : List Loc) (ls : Array Slot), decode cX0_sendReceipt pc = .ok (.return_, 1) → Q v → va_P (dC, dI) vwCl (Wd base cy rf v 874) H → va_S (fun q => base ≤ q) s.heap H locs → W p l e { frames := 3, cells := 0, slots := 0, locals := 70 } s m ([.ref (base + o)]).toArray below meth c H locs 0 0 (MQ below (va_Qv Q (Hp dC dI base cy) (fun q => base ≤ q)) ([.ref (base + o)]).toArray s 0 0 (fun q => base ≤ q)) (F0 m pc ls []) := fun pc v H locs ls hd hq hP hS => W.vret hx hb hr (fun t ht hW => ⟨⟨v, rfl, hq, by rw [ht]; exact hP, va_K.moved hW.alike hK⟩, hS.F ht⟩) hS.2.2 hd
  refine lv_aload_n hx hb dX0_sendReceipt_0 rfl (lv_at hl 0 rfl) ?_
  refine lv_bipush (v := 96) hx hb dX0_sendReceipt_1 (by decide) ?_
  refine lv_aload_n hx hb dX0_sendReceipt_3 rfl (lv_at hl 0 rfl) ?_
  refine w_gR (C := RX0) (T := TX0) (N := 15) (ci := 0) hx hb hts in0 hown hK hP 3 ho.1 ho rfl (by decide) (ch0_3 ho).1 (hts _ mf_X0_21) dX0_sendReceipt_4 ?_
  refine k_I (As := []) (rest := [.int 96, .ref (base + o)]) ⟨hx, hb, hml, hown, hts⟩ (t_X1_credit l dC dI base cy (o + 123) (ch0_3 ho).2 v _ hw) (cwV 0 hts (gV ml_X0_124 mi_X1_credit mx_X1_credit mn_X1 mo_X1_credit) rfl rfl rfl (by decide +kernel) ⟨by decide, by decide⟩) hK hP hS (ch0_3 ho).2 (by decide) rfl rfl hl.1 rfl (Nat.le_of_ble_eq_true rfl) dX0_sendReceipt_7 ⟨Nat.zero_le _, Nat.zero_le _⟩ (fun x7 v1 H locs hw hP hS => ?_)
  refine lv_ior hx hb dX0_sendReceipt_10 ?_
  refine lv_topi (fun x10 ex10 => ?_)
  have hw := hw x10 ex10
  refine lv_aload_n hx hb dX0_sendReceipt_11 rfl (lv_at hl 0 rfl) ?_
  refine w_gR (C := RX0) (T := TX0) (N := 15) (ci := 0) hx hb hts in0 hown hK hP 3 ho.1 ho rfl (by decide) (ch0_3 ho).1 (hts _ mf_X0_21) dX0_sendReceipt_12 ?_
  refine w_gI (C := RX1) (T := TX1) (N := 15) (ci := 1) hx hb hts in1 hown hK hP 8 (ch0_3 ho).2.1 (ch0_3 ho).2 rfl (by decide) (hts _ mf_X0_140) dX0_sendReceipt_15 ?_
  refine lv_topi (fun x15 ex15 => ?_)
  have hw := hw x15 ex15
  refine k_V (As := [.int x10, .int x15]) (rest := []) ⟨hx, hb, hml, hown, hts⟩ (t_X0_sendNumbered l dC dI base cy o ho x10 x15 v1 _ hw) (cwV 2 hts (gV ml_X0_206 mi_X0_sendNumbered mx_X0_sendNumbered mn_X0 mo_X0_sendNumbered) rfl rfl rfl (by decide +kernel) ⟨by decide, by decide⟩) hK hP hS ho (by decide) rfl rfl hl.1 rfl (Nat.le_of_ble_eq_true rfl) dX0_sendReceipt_18 ⟨Nat.zero_le _, Nat.zero_le _⟩ (fun v2 H locs hw hP hS => ?_)
  exact hret _ _ _ _ _ dX0_sendReceipt_21 hw hP hS
def b_X0_takeMessage_44 (o : Nat) (Q : Int32 → VV → Prop) (a1 : Int32) (a2 : Int32) (v : VV) : Prop :=
  Q a2 v
set_option maxHeartbeats 4000000 in
set_option maxRecDepth 100000 in
theorem tb_X0_takeMessage_44 {p : Program} {l : Launch} {e : Env} {s : State} {m : MethodId} {args : Array Value} {below : List Frame} {meth : Method} {c : Code} {QQ : State → Prop} {dC : Nat → ClassId} {dI : Nat → Nat → Nat} {base : Nat} {cy : Nat → ClassId} (hx : p.tables.exec = Jvm.exec) (hb : c.code = cX0_takeMessage) (hml : c.maxLocals = 3) (hown : s.vm.findClass RX0 = some m.cls) (hts : ∀ w ∈ TB, w.before args s = true) (hK : va_K (dC, dI) vwCl (tyL cy) s) (o : Nat) (ho : isO 0 o) (Q : Int32 → VV → Prop) (hret : ∀ (pc : Nat) (x : Int32) (v : VV) (H : Heap) (locs : List Loc) (ls : Array Slot), decode cX0_takeMessage pc = .ok (.ireturn, 1) → Q x v → va_P (dC, dI) vwCl (Wd base cy rf v 874) H → va_S (fun q => base ≤ q) s.heap H locs → W p l e { frames := 4, cells := 0, slots := 0, locals := 90 } s m args below meth c H locs 0 0 QQ (F0 m pc ls [.int x])) (a1 : Int32) (a2 : Int32) (v : VV) (H : Heap) (locs : List Loc) (ls : Array Slot) (hw : b_X0_takeMessage_44 o Q  a1 a2 v) : lv_has ls 3 [(0, .ref (base + o)), (1, .int a1), (2, .int a2)] → va_P (dC, dI) vwCl (Wd base cy rf v 874) H → va_S (fun q => base ≤ q) s.heap H locs → W p l e { frames := 4, cells := 0, slots := 0, locals := 90 } s m args below meth c H locs 0 0 QQ (F0 m 44 ls []) := by
  intro hl hP hS
  refine lv_iload_n hx hb dX0_takeMessage_44 rfl (lv_at hl 2 rfl) ?_
  exact hret _ _ _ _ _ _ dX0_takeMessage_45 hw hP hS
def b_X0_takeMessage_15 (o : Nat) (Q : Int32 → VV → Prop) (s0 : Int32) (v : VV) : Prop :=
  w_X1_takeNext (o + 123) v (fun (x20 : Int32) (v1 : VV) => (x20 < 0 → b_X0_takeMessage_44 o Q  s0 x20 v1) ∧ (¬ x20 < 0 → (s0 = 0 → b_X0_takeMessage_44 o Q  s0 x20 v1) ∧ (¬ s0 = 0 → ∀ x33 : Int32, x33 = v1 o 8 → (¬ x33 = 2 → b_X0_takeMessage_44 o Q  s0 x20 v1) ∧ (x33 = 2 → w_X0_sendReceipt o v1 (fun (v2 : VV) => b_X0_takeMessage_44 o Q  s0 x20 v2)))))
set_option maxHeartbeats 4000000 in
set_option maxRecDepth 100000 in
theorem tb_X0_takeMessage_15 {p : Program} {l : Launch} {e : Env} {s : State} {m : MethodId} {args : Array Value} {below : List Frame} {meth : Method} {c : Code} {QQ : State → Prop} {dC : Nat → ClassId} {dI : Nat → Nat → Nat} {base : Nat} {cy : Nat → ClassId} (hx : p.tables.exec = Jvm.exec) (hb : c.code = cX0_takeMessage) (hml : c.maxLocals = 3) (hown : s.vm.findClass RX0 = some m.cls) (hts : ∀ w ∈ TB, w.before args s = true) (hK : va_K (dC, dI) vwCl (tyL cy) s) (o : Nat) (ho : isO 0 o) (Q : Int32 → VV → Prop) (hret : ∀ (pc : Nat) (x : Int32) (v : VV) (H : Heap) (locs : List Loc) (ls : Array Slot), decode cX0_takeMessage pc = .ok (.ireturn, 1) → Q x v → va_P (dC, dI) vwCl (Wd base cy rf v 874) H → va_S (fun q => base ≤ q) s.heap H locs → W p l e { frames := 4, cells := 0, slots := 0, locals := 90 } s m args below meth c H locs 0 0 QQ (F0 m pc ls [.int x])) (s0 : Int32) (v : VV) (H : Heap) (locs : List Loc) (ls : Array Slot) (hw : b_X0_takeMessage_15 o Q  s0 v) : lv_has ls 3 [(0, .ref (base + o))] → va_P (dC, dI) vwCl (Wd base cy rf v 874) H → va_S (fun q => base ≤ q) s.heap H locs → W p l e { frames := 4, cells := 0, slots := 0, locals := 90 } s m args below meth c H locs 0 0 QQ (F0 m 15 ls [.int s0]) := by
  intro hl hP hS
  refine lv_istore_n (lv' := [(1, .int s0), (0, .ref (base + o))]) hx hb dX0_takeMessage_15 rfl hl (by decide) rfl (fun ls hl => ?_)
  refine lv_aload_n hx hb dX0_takeMessage_16 rfl (lv_at hl 1 rfl) ?_
  refine w_gR (C := RX0) (T := TX0) (N := 15) (ci := 0) hx hb hts in0 hown hK hP 3 ho.1 ho rfl (by decide) (ch0_3 ho).1 (hts _ mf_X0_21) dX0_takeMessage_17 ?_
  refine k_I (As := []) (rest := []) ⟨hx, hb, hml, hown, hts⟩ (t_X1_takeNext l dC dI base cy (o + 123) (ch0_3 ho).2 v _ hw) (cwV 0 hts (gV ml_X0_128 mi_X1_takeNext mx_X1_takeNext mn_X1 mo_X1_takeNext) rfl rfl rfl (by decide +kernel) ⟨by decide, by decide⟩) hK hP hS (ch0_3 ho).2 (by decide) rfl rfl hl.1 rfl (Nat.le_of_ble_eq_true rfl) dX0_takeMessage_20 ⟨Nat.zero_le _, Nat.zero_le _⟩ (fun x20 v1 H locs hw hP hS => ?_)
  refine lv_istore_n (lv' := [(2, .int x20), (1, .int s0), (0, .ref (base + o))]) hx hb dX0_takeMessage_23 rfl hl (by decide) rfl (fun ls hl => ?_)
  refine lv_iload_n hx hb dX0_takeMessage_24 rfl (lv_at hl 0 rfl) ?_
  refine lv_if_lt (tgt := 44) hx hb dX0_takeMessage_25 (by decide) (fun c25 => ?_) (fun c25 => ?_)
  · have hw := hw.1 c25
    exact tb_X0_takeMessage_44 hx hb hml hown hts hK o ho _ hret  s0 x20 v1 _ _ _ hw (lv_sub hl [2, 1, 0] rfl) hP hS
  · have hw := hw.2 c25
    refine lv_iload_n hx hb dX0_takeMessage_28 rfl (lv_at hl 1 rfl) ?_
    refine lv_if_eq (tgt := 44) hx hb dX0_takeMessage_29 (by decide) (fun c29 => ?_) (fun c29 => ?_)
    · have hw := hw.1 c29
      exact tb_X0_takeMessage_44 hx hb hml hown hts hK o ho _ hret  s0 x20 v1 _ _ _ hw (lv_sub hl [2, 1, 0] rfl) hP hS
    · have hw := hw.2 c29
      refine lv_aload_n hx hb dX0_takeMessage_32 rfl (lv_at hl 2 rfl) ?_
      refine w_gI (C := RX0) (T := TX0) (N := 15) (ci := 0) hx hb hts in0 hown hK hP 8 ho.1 ho rfl (by decide) (hts _ mf_X0_57) dX0_takeMessage_33 ?_
      refine lv_topi (fun x33 ex33 => ?_)
      have hw := hw x33 ex33
      refine lv_iconst (v := 2) hx hb dX0_takeMessage_36 (by decide) ?_
      refine lv_icmp_ne (tgt := 44) hx hb dX0_takeMessage_37 (by decide) (fun c37 => ?_) (fun c37 => ?_)
      · have hw := hw.1 c37
        exact tb_X0_takeMessage_44 hx hb hml hown hts hK o ho _ hret  s0 x20 v1 _ _ _ hw (lv_sub hl [2, 1, 0] rfl) hP hS
      · have hw := hw.2 c37
        refine lv_aload_n hx hb dX0_takeMessage_40 rfl (lv_at hl 2 rfl) ?_
        refine k_V (As := []) (rest := []) ⟨hx, hb, hml, hown, hts⟩ (t_X0_sendReceipt l dC dI base cy o ho v1 _ hw) (cwV 0 hts (gV ml_X0_131 mi_X0_sendReceipt mx_X0_sendReceipt mn_X0 mo_X0_sendReceipt) rfl rfl rfl (by decide +kernel) ⟨by decide, by decide⟩) hK hP hS ho (by decide) rfl rfl hl.1 rfl (Nat.le_of_ble_eq_true rfl) dX0_takeMessage_41 ⟨Nat.zero_le _, Nat.zero_le _⟩ (fun v2 H locs hw hP hS => ?_)
        exact tb_X0_takeMessage_44 hx hb hml hown hts hK o ho _ hret  s0 x20 v2 _ _ _ hw (lv_sub hl [2, 1, 0] rfl) hP hS
def w_X0_takeMessage (o : Nat) (v : VV) (Q : Int32 → VV → Prop) : Prop :=
  w_X1_credit (o + 123) v (fun (x4 : Int32) (v1 : VV) => (¬ x4 = 0 → b_X0_takeMessage_15 o Q  0 v1) ∧ (x4 = 0 → b_X0_takeMessage_15 o Q  1 v1))
set_option maxHeartbeats 4000000 in
set_option maxRecDepth 100000 in
/-- TransportFour$End.takeMessage -/
theorem t_X0_takeMessage (l : Launch) (dC : Nat → ClassId) (dI : Nat → Nat → Nat) (base : Nat) (cy : Nat → ClassId) (o : Nat) (ho : isO 0 o) (v : VV) (Q : Int32 → VV → Prop) (hw : w_X0_takeMessage o v Q) : CI l yX0_takeMessage (.code yX0_takeMessage cX0_takeMessage 3 (some .int) :: TB) { frames := 4, cells := 0, slots := 0, locals := 90 } dC dI base cy [.ref (base + o)] v Q := by
  refine Met.ofW (cc := cX0_takeMessage) (maxL := 3) (ret := (some .int)) (by decide) rfl ?_
  intro p e s m args below meth c s₁ B hml hv
  obtain ⟨rfl, hP, hK⟩ := hv
  have hx := B.exec
  have hb := B.bytes
  have hr := B.returns
  have hts0 := atoms_spec (ws := (.code yX0_takeMessage cX0_takeMessage 3 (some .int) :: TB)) B.pre
  have hts : ∀ w ∈ TB, w.before ([.ref (base + o)]).toArray s = true := fun w h => hts0 w (List.mem_cons_of_mem _ h)
  have hown : s.vm.findClass RX0 = some m.cls := findClass_of_methodNamed B.named
  have hlocks := B.notSynchronized
  have hS : va_S (fun q => base ≤ q) s.heap s.heap [] := va_S.rf
  have hl := lv_entry ([.ref (base + o)]) (n := 3) (Nat.le_of_ble_eq_true rfl)
  rw [lg_entry_eq]
  generalize (lg_sl ([.ref (base + o)]) ++ List.replicate (3 - (lg_sl ([.ref (base + o)])).length) Slot.unset).toArray = ls at hl ⊢
  have hl : lv_has ls 3 [(0, .ref (base + o))] := hl
  have hret : ∀ (pc : Nat) (x : Int32) (v : VV) (H : Heap) (locs : List Loc) (ls : Array Slot), decode cX0_takeMessage pc = .ok (.ireturn, 1) → Q x v → va_P (dC, dI) vwCl (Wd base cy rf v 874) H → va_S (fun q => base ≤ q) s.heap H locs → W p l e { frames := 4, cells := 0, slots := 0, locals := 90 } s m ([.ref (base + o)]).toArray below meth c H locs 0 0 (MQ below (va_Qi Q (Hp dC dI base cy) (fun q => base ≤ q)) ([.ref (base + o)]).toArray s 0 0 (fun q => base ≤ q)) (F0 m pc ls [.int x]) := fun pc x v H locs ls hd hq hP hS => W.iret (v := x) hx hb hr (fun t ht hW => ⟨⟨x, v, rfl, hq, by rw [ht]; exact hP, va_K.moved hW.alike hK⟩, hS.F ht⟩) hS.2.2 hd
  refine lv_aload_n hx hb dX0_takeMessage_0 rfl (lv_at hl 0 rfl) ?_
  refine w_gR (C := RX0) (T := TX0) (N := 15) (ci := 0) hx hb hts in0 hown hK hP 3 ho.1 ho rfl (by decide) (ch0_3 ho).1 (hts _ mf_X0_21) dX0_takeMessage_1 ?_
  refine k_I (As := []) (rest := []) ⟨hx, hb, hml, hown, hts⟩ (t_X1_credit l dC dI base cy (o + 123) (ch0_3 ho).2 v _ hw) (cwV 0 hts (gV ml_X0_124 mi_X1_credit mx_X1_credit mn_X1 mo_X1_credit) rfl rfl rfl (by decide +kernel) ⟨by decide, by decide⟩) hK hP hS (ch0_3 ho).2 (by decide) rfl rfl hl.1 rfl (Nat.le_of_ble_eq_true rfl) dX0_takeMessage_4 ⟨Nat.zero_le _, Nat.zero_le _⟩ (fun x4 v1 H locs hw hP hS => ?_)
  refine lv_if_ne (tgt := 14) hx hb dX0_takeMessage_7 (by decide) (fun c7 => ?_) (fun c7 => ?_)
  · have hw := hw.1 c7
    refine lv_iconst (v := 0) hx hb dX0_takeMessage_14 (by decide) ?_
    exact tb_X0_takeMessage_15 hx hb hml hown hts hK o ho _ hret  0 v1 _ _ _ hw (lv_sub hl [0] rfl) hP hS
  · have hw := hw.2 c7
    refine lv_iconst (v := 1) hx hb dX0_takeMessage_10 (by decide) ?_
    refine lv_goto (tgt := 15) hx hb dX0_takeMessage_11 (by decide) ?_
    exact tb_X0_takeMessage_15 hx hb hml hown hts hK o ho _ hret  1 v1 _ _ _ hw (lv_sub hl [0] rfl) hP hS
