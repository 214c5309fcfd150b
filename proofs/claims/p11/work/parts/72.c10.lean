def b_X0_mustGiveUp_77 (o : Nat) (Q : Int32 → VV → Prop) (a1 : Int32) (a2 : Int32) (v : VV) : Prop :=
  Q 0 v
set_option maxHeartbeats 4000000 in
set_option maxRecDepth 100000 in
theorem tb_X0_mustGiveUp_77 {p : Program} {l : Launch} {e : Env} {s : State} {m : MethodId} {args : Array Value} {below : List Frame} {meth : Method} {c : Code} {QQ : State → Prop} {dC : Nat → ClassId} {dI : Nat → Nat → Nat} {base : Nat} {cy : Nat → ClassId} (hx : p.tables.exec = Jvm.exec) (hb : c.code = cX0_mustGiveUp) (hml : c.maxLocals = 3) (hown : s.vm.findClass RX0 = some m.cls) (hts : ∀ w ∈ TB, w.before args s = true) (hK : va_K (dC, dI) vwCl (tyL cy) s) (o : Nat) (ho : isO 0 o) (Q : Int32 → VV → Prop) (hret : ∀ (pc : Nat) (x : Int32) (v : VV) (H : Heap) (locs : List Loc) (ls : Array Slot), decode cX0_mustGiveUp pc = .ok (.ireturn, 1) → (x = 0 ∨ x = 1) → Q x v → va_P (dC, dI) vwCl (Wd base cy rf v 874) H → va_S (fun q => base ≤ q) s.heap H locs → W p l e { frames := 3, cells := 0, slots := 0, locals := 64 } s m args below meth c H locs 0 0 QQ (F0 m pc ls [.int x])) (a1 : Int32) (a2 : Int32) (v : VV) (H : Heap) (locs : List Loc) (ls : Array Slot) (hw : b_X0_mustGiveUp_77 o Q  a1 a2 v) : lv_has ls 3 [(0, .ref (base + o)), (1, .int a1), (2, .int a2)] → va_P (dC, dI) vwCl (Wd base cy rf v 874) H → va_S (fun q => base ≤ q) s.heap H locs → W p l e { frames := 3, cells := 0, slots := 0, locals := 64 } s m args below meth c H locs 0 0 QQ (F0 m 77 ls []) := by
  intro hl hP hS
  refine lv_iconst (v := 0) hx hb dX0_mustGiveUp_77 (by decide) ?_
  exact hret _ _ _ _ _ _ dX0_mustGiveUp_78 (by decide) hw hP hS
def b_X0_mustGiveUp_73 (o : Nat) (Q : Int32 → VV → Prop) (a1 : Int32) (a2 : Int32) (v : VV) : Prop :=
  Q 1 v
set_option maxHeartbeats 4000000 in
set_option maxRecDepth 100000 in
theorem tb_X0_mustGiveUp_73 {p : Program} {l : Launch} {e : Env} {s : State} {m : MethodId} {args : Array Value} {below : List Frame} {meth : Method} {c : Code} {QQ : State → Prop} {dC : Nat → ClassId} {dI : Nat → Nat → Nat} {base : Nat} {cy : Nat → ClassId} (hx : p.tables.exec = Jvm.exec) (hb : c.code = cX0_mustGiveUp) (hml : c.maxLocals = 3) (hown : s.vm.findClass RX0 = some m.cls) (hts : ∀ w ∈ TB, w.before args s = true) (hK : va_K (dC, dI) vwCl (tyL cy) s) (o : Nat) (ho : isO 0 o) (Q : Int32 → VV → Prop) (hret : ∀ (pc : Nat) (x : Int32) (v : VV) (H : Heap) (locs : List Loc) (ls : Array Slot), decode cX0_mustGiveUp pc = .ok (.ireturn, 1) → (x = 0 ∨ x = 1) → Q x v → va_P (dC, dI) vwCl (Wd base cy rf v 874) H → va_S (fun q => base ≤ q) s.heap H locs → W p l e { frames := 3, cells := 0, slots := 0, locals := 64 } s m args below meth c H locs 0 0 QQ (F0 m pc ls [.int x])) (a1 : Int32) (a2 : Int32) (v : VV) (H : Heap) (locs : List Loc) (ls : Array Slot) (hw : b_X0_mustGiveUp_73 o Q  a1 a2 v) : lv_has ls 3 [(0, .ref (base + o)), (1, .int a1), (2, .int a2)] → va_P (dC, dI) vwCl (Wd base cy rf v 874) H → va_S (fun q => base ≤ q) s.heap H locs → W p l e { frames := 3, cells := 0, slots := 0, locals := 64 } s m args below meth c H locs 0 0 QQ (F0 m 73 ls []) := by
  intro hl hP hS
  refine lv_iconst (v := 1) hx hb dX0_mustGiveUp_73 (by decide) ?_
  refine lv_goto (tgt := 78) hx hb dX0_mustGiveUp_74 (by decide) ?_
  exact hret _ _ _ _ _ _ dX0_mustGiveUp_78 (by decide) hw hP hS
def b_X0_mustGiveUp_49 (o : Nat) (Q : Int32 → VV → Prop) (a1 : Int32) (s0 : Int32) (v : VV) : Prop :=
  (¬ s0 = 0 → b_X0_mustGiveUp_73 o Q  a1 s0 v) ∧ (s0 = 0 → ∀ x55 : Int32, x55 = v o 8 → (¬ x55 = 2 → b_X0_mustGiveUp_77 o Q  a1 s0 v) ∧ (x55 = 2 → ∀ x64 : Int32, x64 = v o 13 → ∀ x67 : Int32, x67 = a1 - x64 → (x67 < 50 → b_X0_mustGiveUp_77 o Q  a1 s0 v) ∧ (¬ x67 < 50 → b_X0_mustGiveUp_73 o Q  a1 s0 v)))
set_option maxHeartbeats 4000000 in
set_option maxRecDepth 100000 in
theorem tb_X0_mustGiveUp_49 {p : Program} {l : Launch} {e : Env} {s : State} {m : MethodId} {args : Array Value} {below : List Frame} {meth : Method} {c : Code} {QQ : State → Prop} {dC : Nat → ClassId} {dI : Nat → Nat → Nat} {base : Nat} {cy : Nat → ClassId} (hx : p.tables.exec = Jvm.exec) (hb : c.code = cX0_mustGiveUp) (hml : c.maxLocals = 3) (hown : s.vm.findClass RX0 = some m.cls) (hts : ∀ w ∈ TB, w.before args s = true) (hK : va_K (dC, dI) vwCl (tyL cy) s) (o : Nat) (ho : isO 0 o) (Q : Int32 → VV → Prop) (hret : ∀ (pc : Nat) (x : Int32) (v : VV) (H : Heap) (locs : List Loc) (ls : Array Slot), decode cX0_mustGiveUp pc = .ok (.ireturn, 1) → (x = 0 ∨ x = 1) → Q x v → va_P (dC, dI) vwCl (Wd base cy rf v 874) H → va_S (fun q => base ≤ q) s.heap H locs → W p l e { frames := 3, cells := 0, slots := 0, locals := 64 } s m args below meth c H locs 0 0 QQ (F0 m pc ls [.int x])) (a1 : Int32) (s0 : Int32) (v : VV) (H : Heap) (locs : List Loc) (ls : Array Slot) (hw : b_X0_mustGiveUp_49 o Q  a1 s0 v) : lv_has ls 3 [(0, .ref (base + o)), (1, .int a1)] → va_P (dC, dI) vwCl (Wd base cy rf v 874) H → va_S (fun q => base ≤ q) s.heap H locs → W p l e { frames := 3, cells := 0, slots := 0, locals := 64 } s m args below meth c H locs 0 0 QQ (F0 m 49 ls [.int s0]) := by
  intro hl hP hS
  refine lv_istore_n (lv' := [(2, .int s0), (0, .ref (base + o)), (1, .int a1)]) hx hb dX0_mustGiveUp_49 rfl hl (by decide) rfl (fun ls hl => ?_)
  refine lv_iload_n hx hb dX0_mustGiveUp_50 rfl (lv_at hl 0 rfl) ?_
  refine lv_if_ne (tgt := 73) hx hb dX0_mustGiveUp_51 (by decide) (fun c51 => ?_) (fun c51 => ?_)
  · have hw := hw.1 c51
    exact tb_X0_mustGiveUp_73 hx hb hml hown hts hK o ho _ hret  a1 s0 v _ _ _ hw (lv_sub hl [1, 2, 0] rfl) hP hS
  · have hw := hw.2 c51
    refine lv_aload_n hx hb dX0_mustGiveUp_54 rfl (lv_at hl 1 rfl) ?_
    refine w_gI (C := RX0) (T := TX0) (N := 15) (ci := 0) hx hb hts in0 hown hK hP 8 ho.1 ho rfl (by decide) (hts _ mf_X0_57) dX0_mustGiveUp_55 ?_
    refine lv_topi (fun x55 ex55 => ?_)
    have hw := hw x55 ex55
    refine lv_iconst (v := 2) hx hb dX0_mustGiveUp_58 (by decide) ?_
    refine lv_icmp_ne (tgt := 77) hx hb dX0_mustGiveUp_59 (by decide) (fun c59 => ?_) (fun c59 => ?_)
    · have hw := hw.1 c59
      exact tb_X0_mustGiveUp_77 hx hb hml hown hts hK o ho _ hret  a1 s0 v _ _ _ hw (lv_sub hl [1, 2, 0] rfl) hP hS
    · have hw := hw.2 c59
      refine lv_iload_n hx hb dX0_mustGiveUp_62 rfl (lv_at hl 2 rfl) ?_
      refine lv_aload_n hx hb dX0_mustGiveUp_63 rfl (lv_at hl 1 rfl) ?_
      refine w_gI (C := RX0) (T := TX0) (N := 15) (ci := 0) hx hb hts in0 hown hK hP 13 ho.1 ho rfl (by decide) (hts _ mf_X0_93) dX0_mustGiveUp_64 ?_
      refine lv_topi (fun x64 ex64 => ?_)
      have hw := hw x64 ex64
      refine lv_isub hx hb dX0_mustGiveUp_67 ?_
      refine lv_topi (fun x67 ex67 => ?_)
      have hw := hw x67 ex67
      refine lv_bipush (v := 50) hx hb dX0_mustGiveUp_68 (by decide) ?_
      refine lv_icmp_lt (tgt := 77) hx hb dX0_mustGiveUp_70 (by decide) (fun c70 => ?_) (fun c70 => ?_)
      · have hw := hw.1 c70
        exact tb_X0_mustGiveUp_77 hx hb hml hown hts hK o ho _ hret  a1 s0 v _ _ _ hw (lv_sub hl [1, 2, 0] rfl) hP hS
      · have hw := hw.2 c70
        exact tb_X0_mustGiveUp_73 hx hb hml hown hts hK o ho _ hret  a1 s0 v _ _ _ hw (lv_sub hl [1, 2, 0] rfl) hP hS
def b_X0_mustGiveUp_44 (o : Nat) (Q : Int32 → VV → Prop) (a1 : Int32) (v : VV) : Prop :=
  b_X0_mustGiveUp_49 o Q  a1 1 v
set_option maxHeartbeats 4000000 in
set_option maxRecDepth 100000 in
theorem tb_X0_mustGiveUp_44 {p : Program} {l : Launch} {e : Env} {s : State} {m : MethodId} {args : Array Value} {below : List Frame} {meth : Method} {c : Code} {QQ : State → Prop} {dC : Nat → ClassId} {dI : Nat → Nat → Nat} {base : Nat} {cy : Nat → ClassId} (hx : p.tables.exec = Jvm.exec) (hb : c.code = cX0_mustGiveUp) (hml : c.maxLocals = 3) (hown : s.vm.findClass RX0 = some m.cls) (hts : ∀ w ∈ TB, w.before args s = true) (hK : va_K (dC, dI) vwCl (tyL cy) s) (o : Nat) (ho : isO 0 o) (Q : Int32 → VV → Prop) (hret : ∀ (pc : Nat) (x : Int32) (v : VV) (H : Heap) (locs : List Loc) (ls : Array Slot), decode cX0_mustGiveUp pc = .ok (.ireturn, 1) → (x = 0 ∨ x = 1) → Q x v → va_P (dC, dI) vwCl (Wd base cy rf v 874) H → va_S (fun q => base ≤ q) s.heap H locs → W p l e { frames := 3, cells := 0, slots := 0, locals := 64 } s m args below meth c H locs 0 0 QQ (F0 m pc ls [.int x])) (a1 : Int32) (v : VV) (H : Heap) (locs : List Loc) (ls : Array Slot) (hw : b_X0_mustGiveUp_44 o Q  a1 v) : lv_has ls 3 [(0, .ref (base + o)), (1, .int a1)] → va_P (dC, dI) vwCl (Wd base cy rf v 874) H → va_S (fun q => base ≤ q) s.heap H locs → W p l e { frames := 3, cells := 0, slots := 0, locals := 64 } s m args below meth c H locs 0 0 QQ (F0 m 44 ls []) := by
  intro hl hP hS
  refine lv_iconst (v := 1) hx hb dX0_mustGiveUp_44 (by decide) ?_
  refine lv_goto (tgt := 49) hx hb dX0_mustGiveUp_45 (by decide) ?_
  exact tb_X0_mustGiveUp_49 hx hb hml hown hts hK o ho _ hret  a1 1 v _ _ _ hw (lv_sub hl [0, 1] rfl) hP hS
def w_X0_mustGiveUp (o : Nat) (v : VV) (Q : Int32 → VV → Prop) : Prop :=
  ∀ x4 : Int32, x4 = v 1 10 → w_X8_isSpent (o + 145) x4 v (fun (x13 : Int32) (v1 : VV) => (¬ x13 = 0 → b_X0_mustGiveUp_44 o Q  x4 v1) ∧ (x13 = 0 → w_X3_isSpent (o + 1) x4 v1 (fun (x24 : Int32) (v2 : VV) => (¬ x24 = 0 → b_X0_mustGiveUp_44 o Q  x4 v2) ∧ (x24 = 0 → w_X8_isSpent (o + 140 + 2) x4 v2 (fun (x38 : Int32) (v3 : VV) => (x38 = 0 → b_X0_mustGiveUp_49 o Q  x4 0 v3) ∧ (¬ x38 = 0 → b_X0_mustGiveUp_44 o Q  x4 v3))))))
set_option maxHeartbeats 4000000 in
set_option maxRecDepth 100000 in
/-- TransportFour$End.mustGiveUp -/
theorem t_X0_mustGiveUp (l : Launch) (dC : Nat → ClassId) (dI : Nat → Nat → Nat) (base : Nat) (cy : Nat → ClassId) (o : Nat) (ho : isO 0 o) (v : VV) (Q : Int32 → VV → Prop) (hw : w_X0_mustGiveUp o v Q) : CI l yX0_mustGiveUp (.code yX0_mustGiveUp cX0_mustGiveUp 3 (some .boolean) :: TB) { frames := 3, cells := 0, slots := 0, locals := 64 } dC dI base cy [.ref (base + o)] v Q := by
  refine Met.ofW (cc := cX0_mustGiveUp) (maxL := 3) (ret := (some .boolean)) (by decide) rfl ?_
  intro p e s m args below meth c s₁ B hml hv
  obtain ⟨rfl, hP, hK⟩ := hv
  have hx := B.exec
  have hb := B.bytes
  have hr := B.returns
  have hts0 := atoms_spec (ws := (.code yX0_mustGiveUp cX0_mustGiveUp 3 (some .boolean) :: TB)) B.pre
  have hts : ∀ w ∈ TB, w.before ([.ref (base + o)]).toArray s = true := fun w h => hts0 w (List.mem_cons_of_mem _ h)
  have hown : s.vm.findClass RX0 = some m.cls := findClass_of_methodNamed B.named
  have hlocks := B.notSynchronized
  have hS : va_S (fun q => base ≤ q) s.heap s.heap [] := va_S.rf
  have hl := lv_entry ([.ref (base + o)]) (n := 3) (Nat.le_of_ble_eq_true rfl)
  rw [lg_entry_eq]
  generalize (lg_sl ([.ref (base + o)]) ++ List.replicate (3 - (lg_sl ([.ref (base + o)])).length) Slot.unset).toArray = ls at hl ⊢
  have hl : lv_has ls 3 [(0, .ref (base + o))] := hl
  have hret : ∀ (pc : Nat) (x : Int32) (v : VV) (H : Heap) (locs : List Loc) (ls : Array Slot), decode cX0_mustGiveUp pc = .ok (.ireturn, 1) → (x = 0 ∨ x = 1) → Q x v → va_P (dC, dI) vwCl (Wd base cy rf v 874) H → va_S (fun q => base ≤ q) s.heap H locs → W p l e { frames := 3, cells := 0, slots := 0, locals := 64 } s m ([.ref (base + o)]).toArray below meth c H locs 0 0 (MQ below (va_Qi Q (Hp dC dI base cy) (fun q => base ≤ q)) ([.ref (base + o)]).toArray s 0 0 (fun q => base ≤ q)) (F0 m pc ls [.int x]) := fun pc x v H locs ls hd hz hq hP hS => W.zret (v := x) hx hb hr (zb_n hz) (fun t ht hW => ⟨⟨x, v, rfl, hq, by rw [ht]; exact hP, va_K.moved hW.alike hK⟩, hS.F ht⟩) hS.2.2 hd
  refine lv_aload_n hx hb dX0_mustGiveUp_0 rfl (lv_at hl 0 rfl) ?_
  refine w_gR (C := RX0) (T := TX0) (N := 15) (ci := 0) hx hb hts in0 hown hK hP 1 ho.1 ho rfl (by decide) (ch0_1 ho).1 (hts _ mf_X0_53) dX0_mustGiveUp_1 ?_
  refine w_gI (C := RX2) (T := TX2) (N := 11) (ci := 2) hx hb hts in2 hown hK hP 10 (ch0_1 ho).2.1 (ch0_1 ho).2 rfl (by decide) (hts _ mf_X0_88) dX0_mustGiveUp_4 ?_
  refine lv_topi (fun x4 ex4 => ?_)
  have hw := hw x4 ex4
  refine lv_istore_n (lv' := [(1, .int x4), (0, .ref (base + o))]) hx hb dX0_mustGiveUp_7 rfl hl (by decide) rfl (fun ls hl => ?_)
  refine lv_aload_n hx hb dX0_mustGiveUp_8 rfl (lv_at hl 1 rfl) ?_
  refine w_gR (C := RX0) (T := TX0) (N := 15) (ci := 0) hx hb hts in0 hown hK hP 6 ho.1 ho rfl (by decide) (ch0_6 ho).1 (hts _ mf_X0_42) dX0_mustGiveUp_9 ?_
  refine lv_iload_n hx hb dX0_mustGiveUp_12 rfl (lv_at hl 0 rfl) ?_
  refine k_I (As := [.int x4]) (rest := []) ⟨hx, hb, hml, hown, hts⟩ (t_X8_isSpent l dC dI base cy (o + 145) (ch0_6 ho).2 x4 v _ hw) (cwV 1 hts (gV ml_X0_253 mi_X8_isSpent mx_X8_isSpent mn_X8 mo_X8_isSpent) rfl rfl rfl (by decide +kernel) ⟨by decide, by decide⟩) hK hP hS (ch0_6 ho).2 (by decide) rfl rfl hl.1 rfl (Nat.le_of_ble_eq_true rfl) dX0_mustGiveUp_13 ⟨Nat.zero_le _, Nat.zero_le _⟩ (fun x13 v1 H locs hw hP hS => ?_)
  refine lv_if_ne (tgt := 44) hx hb dX0_mustGiveUp_16 (by decide) (fun c16 => ?_) (fun c16 => ?_)
  · have hw := hw.1 c16
    exact tb_X0_mustGiveUp_44 hx hb hml hown hts hK o ho _ hret  x4 v1 _ _ _ hw (lv_sub hl [1, 0] rfl) hP hS
  · have hw := hw.2 c16
    refine lv_aload_n hx hb dX0_mustGiveUp_19 rfl (lv_at hl 1 rfl) ?_
    refine w_gR (C := RX0) (T := TX0) (N := 15) (ci := 0) hx hb hts in0 hown hK hP 2 ho.1 ho rfl (by decide) (ch0_2 ho).1 (hts _ mf_X0_12) dX0_mustGiveUp_20 ?_
    refine lv_iload_n hx hb dX0_mustGiveUp_23 rfl (lv_at hl 0 rfl) ?_
    refine k_I (As := [.int x4]) (rest := []) ⟨hx, hb, hml, hown, hts⟩ (t_X3_isSpent l dC dI base cy (o + 1) (ch0_2 ho).2 x4 v1 _ hw) (cwV 1 hts (gV ml_X0_256 mi_X3_isSpent mx_X3_isSpent mn_X3 mo_X3_isSpent) rfl rfl rfl (by decide +kernel) ⟨by decide, by decide⟩) hK hP hS (ch0_2 ho).2 (by decide) rfl rfl hl.1 rfl (Nat.le_of_ble_eq_true rfl) dX0_mustGiveUp_24 ⟨Nat.zero_le _, Nat.zero_le _⟩ (fun x24 v2 H locs hw hP hS => ?_)
    refine lv_if_ne (tgt := 44) hx hb dX0_mustGiveUp_27 (by decide) (fun c27 => ?_) (fun c27 => ?_)
    · have hw := hw.1 c27
      exact tb_X0_mustGiveUp_44 hx hb hml hown hts hK o ho _ hret  x4 v2 _ _ _ hw (lv_sub hl [1, 0] rfl) hP hS
    · have hw := hw.2 c27
      refine lv_aload_n hx hb dX0_mustGiveUp_30 rfl (lv_at hl 1 rfl) ?_
      refine w_gR (C := RX0) (T := TX0) (N := 15) (ci := 0) hx hb hts in0 hown hK hP 4 ho.1 ho rfl (by decide) (ch0_4 ho).1 (hts _ mf_X0_28) dX0_mustGiveUp_31 ?_
      refine w_gR (C := RX7) (T := TX7) (N := 4) (ci := 7) hx hb hts in7 hown hK hP 1 (ch0_4 ho).2.1 (ch0_4 ho).2 rfl (by decide) (ch7_1 (ch0_4 ho).2).1 (hts _ mf_X0_249) dX0_mustGiveUp_34 ?_
      refine lv_iload_n hx hb dX0_mustGiveUp_37 rfl (lv_at hl 0 rfl) ?_
      refine k_I (As := [.int x4]) (rest := []) ⟨hx, hb, hml, hown, hts⟩ (t_X8_isSpent l dC dI base cy (o + 140 + 2) (ch7_1 (ch0_4 ho).2).2 x4 v2 _ hw) (cwV 1 hts (gV ml_X0_253 mi_X8_isSpent mx_X8_isSpent mn_X8 mo_X8_isSpent) rfl rfl rfl (by decide +kernel) ⟨by decide, by decide⟩) hK hP hS (ch7_1 (ch0_4 ho).2).2 (by decide) rfl rfl hl.1 rfl (Nat.le_of_ble_eq_true rfl) dX0_mustGiveUp_38 ⟨Nat.zero_le _, Nat.zero_le _⟩ (fun x38 v3 H locs hw hP hS => ?_)
      refine lv_if_eq (tgt := 48) hx hb dX0_mustGiveUp_41 (by decide) (fun c41 => ?_) (fun c41 => ?_)
      · have hw := hw.1 c41
        refine lv_iconst (v := 0) hx hb dX0_mustGiveUp_48 (by decide) ?_
        exact tb_X0_mustGiveUp_49 hx hb hml hown hts hK o ho _ hret  x4 0 v3 _ _ _ hw (lv_sub hl [1, 0] rfl) hP hS
      · have hw := hw.2 c41
        exact tb_X0_mustGiveUp_44 hx hb hml hown hts hK o ho _ hret  x4 v3 _ _ _ hw (lv_sub hl [1, 0] rfl) hP hS
def w_X0_giveUp (o : Nat) (v : VV) (Q : VV → Prop) : Prop :=
  w_X0_noteReason o 1 v (fun (v1 : VV) => ∀ x10 : Int32, x10 = v1 o 10 → ∀ x14 : Int32, x14 = v1 o 9 → w_X0_sendLink o 128 x10 x14 1 v1 (fun (v2 : VV) => w_X0_freeze o v2 (fun (v3 : VV) => Q v3)))
set_option maxHeartbeats 4000000 in
set_option maxRecDepth 100000 in
/-- TransportFour$End.giveUp -/
theorem t_X0_giveUp (l : Launch) (dC : Nat → ClassId) (dI : Nat → Nat → Nat) (base : Nat) (cy : Nat → ClassId) (o : Nat) (ho : isO 0 o) (v : VV) (Q : VV → Prop) (hw : w_X0_giveUp o v Q) : CV l yX0_giveUp (.code yX0_giveUp cX0_giveUp 1 none :: TB) { frames := 3, cells := 0, slots := 0, locals := 72 } dC dI base cy [.ref (base + o)] v Q := by
  refine Met.ofW (cc := cX0_giveUp) (maxL := 1) (ret := none) (by decide) rfl ?_
  intro p e s m args below meth c s₁ B hml hv
  obtain ⟨rfl, hP, hK⟩ := hv
  have hx := B.exec
  have hb := B.bytes
  have hr := B.returns
  have hts0 := atoms_spec (ws := (.code yX0_giveUp cX0_giveUp 1 none :: TB)) B.pre
  have hts : ∀ w ∈ TB, w.before ([.ref (base + o)]).toArray s = true := fun w h => hts0 w (List.mem_cons_of_mem _ h)
  have hown : s.vm.findClass RX0 = some m.cls := findClass_of_methodNamed B.named
  have hlocks := B.notSynchronized
  have hS : va_S (fun q => base ≤ q) s.heap s.heap [] := va_S.rf
  have hl := lv_entry ([.ref (base + o)]) (n := 1) (Nat.le_of_ble_eq_true rfl)
  rw [lg_entry_eq]
  generalize (lg_sl ([.ref (base + o)]) ++ List.replicate (1 - (lg_sl ([.ref (base + o)])).length) Slot.unset).toArray = ls at hl ⊢
  have hl : lv_has ls 1 [(0, .ref (base + o))] := hl
  have hret : ∀ (pc : Nat) (v : VV) (H : Heap) (locs : List Loc) (ls : Array Slot), decode cX0_giveUp pc = .ok (.return_, 1) → Q v → va_P (dC, dI) vwCl (Wd base cy rf v 874) H → va_S (fun q => base ≤ q) s.heap H locs → W p l e { frames := 3, cells := 0, slots := 0, locals := 72 } s m ([.ref (base + o)]).toArray below meth c H locs 0 0 (MQ below (va_Qv Q (Hp dC dI base cy) (fun q => base ≤ q)) ([.ref (base + o)]).toArray s 0 0 (fun q => base ≤ q)) (F0 m pc ls []) := fun pc v H locs ls hd hq hP hS => W.vret hx hb hr (fun t ht hW => ⟨⟨v, rfl, hq, by rw [ht]; exact hP, va_K.moved hW.alike hK⟩, hS.F ht⟩) hS.2.2 hd
  refine lv_aload_n hx hb dX0_giveUp_0 rfl (lv_at hl 0 rfl) ?_
  refine lv_iconst (v := 1) hx hb dX0_giveUp_1 (by decide) ?_
  refine k_V (As := [.int 1]) (rest := []) ⟨hx, hb, hml, hown, hts⟩ (t_X0_noteReason l dC dI base cy o ho 1 v _ hw) (cwV 1 hts (gV ml_X0_121 mi_X0_noteReason mx_X0_noteReason mn_X0 mo_X0_noteReason) rfl rfl rfl (by decide +kernel) ⟨by decide, by decide⟩) hK hP hS ho (by decide) rfl rfl hl.1 rfl (Nat.le_of_ble_eq_true rfl) dX0_giveUp_2 ⟨Nat.zero_le _, Nat.zero_le _⟩ (fun v1 H locs hw hP hS => ?_)
  refine lv_aload_n hx hb dX0_giveUp_5 rfl (lv_at hl 0 rfl) ?_
  refine lv_sipush (v := 128) hx hb dX0_giveUp_6 (by decide) ?_
  refine lv_aload_n hx hb dX0_giveUp_9 rfl (lv_at hl 0 rfl) ?_
  refine w_gI (C := RX0) (T := TX0) (N := 15) (ci := 0) hx hb hts in0 hown hK hP 10 ho.1 ho rfl (by decide) (hts _ mf_X0_81) dX0_giveUp_10 ?_
  refine lv_topi (fun x10 ex10 => ?_)
  have hw := hw x10 ex10
  refine lv_aload_n hx hb dX0_giveUp_13 rfl (lv_at hl 0 rfl) ?_
  refine w_gI (C := RX0) (T := TX0) (N := 15) (ci := 0) hx hb hts in0 hown hK hP 9 ho.1 ho rfl (by decide) (hts _ mf_X0_71) dX0_giveUp_14 ?_
  refine lv_topi (fun x14 ex14 => ?_)
  have hw := hw x14 ex14
  refine lv_iconst (v := 1) hx hb dX0_giveUp_17 (by decide) ?_
  refine k_V (As := [.int 128, .int x10, .int x14, .int 1]) (rest := []) ⟨hx, hb, hml, hown, hts⟩ (t_X0_sendLink l dC dI base cy o ho 128 x10 x14 1 v1 _ hw) (cwV 4 hts (gV ml_X0_181 mi_X0_sendLink mx_X0_sendLink mn_X0 mo_X0_sendLink) rfl rfl rfl (by decide +kernel) ⟨by decide, by decide⟩) hK hP hS ho (by decide) rfl rfl hl.1 rfl (Nat.le_of_ble_eq_true rfl) dX0_giveUp_18 ⟨Nat.zero_le _, Nat.zero_le _⟩ (fun v2 H locs hw hP hS => ?_)
  refine lv_aload_n hx hb dX0_giveUp_21 rfl (lv_at hl 0 rfl) ?_
  refine k_V (As := []) (rest := []) ⟨hx, hb, hml, hown, hts⟩ (t_X0_freeze l dC dI base cy o ho v2 _ hw) (cwV 0 hts (gV ml_X0_217 mi_X0_freeze mx_X0_freeze mn_X0 mo_X0_freeze) rfl rfl rfl (by decide +kernel) ⟨by decide, by decide⟩) hK hP hS ho (by decide) rfl rfl hl.1 rfl (Nat.le_of_ble_eq_true rfl) dX0_giveUp_22 ⟨Nat.zero_le _, Nat.zero_le _⟩ (fun v3 H locs hw hP hS => ?_)
  exact hret _ _ _ _ _ dX0_giveUp_25 hw hP hS
def b_X0_passTick_62 (o : Nat) (Q : VV → Prop)  (v : VV) : Prop :=
  ∀ x63 : Int32, x63 = v o 8 → (¬ x63 = 4 → Q v) ∧ (x63 = 4 → ∀ x74 : Int32, x74 = v 1 10 → ∀ x78 : Int32, x78 = v o 14 → ∀ x81 : Int32, x81 = x74 - x78 → (x81 < 12 → Q v) ∧ (¬ x81 < 12 → ∀ v1 : VV, v1 = up2 v o 8 0 → Q v1))
set_option maxHeartbeats 4000000 in
set_option maxRecDepth 100000 in
theorem tb_X0_passTick_62 {p : Program} {l : Launch} {e : Env} {s : State} {m : MethodId} {args : Array Value} {below : List Frame} {meth : Method} {c : Code} {QQ : State → Prop} {dC : Nat → ClassId} {dI : Nat → Nat → Nat} {base : Nat} {cy : Nat → ClassId} (hx : p.tables.exec = Jvm.exec) (hb : c.code = cX0_passTick) (hml : c.maxLocals = 1) (hown : s.vm.findClass RX0 = some m.cls) (hts : ∀ w ∈ TB, w.before args s = true) (hK : va_K (dC, dI) vwCl (tyL cy) s) (o : Nat) (ho : isO 0 o) (Q : VV → Prop) (hret : ∀ (pc : Nat) (v : VV) (H : Heap) (locs : List Loc) (ls : Array Slot), decode cX0_passTick pc = .ok (.return_, 1) → Q v → va_P (dC, dI) vwCl (Wd base cy rf v 874) H → va_S (fun q => base ≤ q) s.heap H locs → W p l e { frames := 5, cells := 0, slots := 0, locals := 113 } s m args below meth c H locs 0 0 QQ (F0 m pc ls []))  (v : VV) (H : Heap) (locs : List Loc) (ls : Array Slot) (hw : b_X0_passTick_62 o Q   v) : lv_has ls 1 [(0, .ref (base + o))] → va_P (dC, dI) vwCl (Wd base cy rf v 874) H → va_S (fun q => base ≤ q) s.heap H locs → W p l e { frames := 5, cells := 0, slots := 0, locals := 113 } s m args below meth c H locs 0 0 QQ (F0 m 62 ls []) := by
  intro hl hP hS
  refine lv_aload_n hx hb dX0_passTick_62 rfl (lv_at hl 0 rfl) ?_
  refine w_gI (C := RX0) (T := TX0) (N := 15) (ci := 0) hx hb hts in0 hown hK hP 8 ho.1 ho rfl (by decide) (hts _ mf_X0_57) dX0_passTick_63 ?_
  refine lv_topi (fun x63 ex63 => ?_)
  have hw := hw x63 ex63
  refine lv_iconst (v := 4) hx hb dX0_passTick_66 (by decide) ?_
  refine lv_icmp_ne (tgt := 92) hx hb dX0_passTick_67 (by decide) (fun c67 => ?_) (fun c67 => ?_)
  · have hw := hw.1 c67
    exact hret _ _ _ _ _ dX0_passTick_92 hw hP hS
  · have hw := hw.2 c67
    refine lv_aload_n hx hb dX0_passTick_70 rfl (lv_at hl 0 rfl) ?_
    refine w_gR (C := RX0) (T := TX0) (N := 15) (ci := 0) hx hb hts in0 hown hK hP 1 ho.1 ho rfl (by decide) (ch0_1 ho).1 (hts _ mf_X0_53) dX0_passTick_71 ?_
    refine w_gI (C := RX2) (T := TX2) (N := 11) (ci := 2) hx hb hts in2 hown hK hP 10 (ch0_1 ho).2.1 (ch0_1 ho).2 rfl (by decide) (hts _ mf_X0_88) dX0_passTick_74 ?_
    refine lv_topi (fun x74 ex74 => ?_)
    have hw := hw x74 ex74
    refine lv_aload_n hx hb dX0_passTick_77 rfl (lv_at hl 0 rfl) ?_
    refine w_gI (C := RX0) (T := TX0) (N := 15) (ci := 0) hx hb hts in0 hown hK hP 14 ho.1 ho rfl (by decide) (hts _ mf_X0_152) dX0_passTick_78 ?_
    refine lv_topi (fun x78 ex78 => ?_)
    have hw := hw x78 ex78
    refine lv_isub hx hb dX0_passTick_81 ?_
    refine lv_topi (fun x81 ex81 => ?_)
    have hw := hw x81 ex81
    refine lv_bipush (v := 12) hx hb dX0_passTick_82 (by decide) ?_
    refine lv_icmp_lt (tgt := 92) hx hb dX0_passTick_84 (by decide) (fun c84 => ?_) (fun c84 => ?_)
    · have hw := hw.1 c84
      exact hret _ _ _ _ _ dX0_passTick_92 hw hP hS
    · have hw := hw.2 c84
      refine lv_aload_n hx hb dX0_passTick_87 rfl (lv_at hl 0 rfl) ?_
      refine lv_iconst (v := 0) hx hb dX0_passTick_88 (by decide) ?_
      refine w_pI (C := RX0) (T := TX0) (N := 15) (ci := 0) hx hb hts in0 tyX0 tyX0_ok nmX0 hown hK hP hS 8 ho.1 ho rfl (by decide) (hts _ mf_X0_57) rfl (ty := .int) (by decide +kernel) rfl rfl dX0_passTick_89 (fun v1 H locs hv1 hP hz hS => ?_)
      have hw := hw v1 hv1
      exact hret _ _ _ _ _ dX0_passTick_92 hw hP hS
def w_X0_passTick (o : Nat) (v : VV) (Q : VV → Prop) : Prop :=
  w_X0_hasConnection o v (fun (x1 : Int32) (v1 : VV) => (x1 = 0 → b_X0_passTick_62 o Q   v1) ∧ (¬ x1 = 0 → w_X0_sendDueAgain o v1 (fun (v2 : VV) => w_X0_mustGiveUp o v2 (fun (x12 : Int32) (v3 : VV) => (x12 = 0 → ∀ x26 : Int32, x26 = v3 o 8 → (¬ x26 = 2 → b_X0_passTick_62 o Q   v3) ∧ (x26 = 2 → ∀ x37 : Int32, x37 = v3 1 10 → ∀ x48 : Int32, x48 = v3 o 0 → vp_in x48 2 ∧ ∀ x51 : Int32, x51 = v3 9 (Int32.toNatClampNeg x48) → ∀ x52 : Int32, x52 = x37 - x51 → (x52 < 20 → b_X0_passTick_62 o Q   v3) ∧ (¬ x52 < 20 → w_X0_sendReceipt o v3 (fun (v5 : VV) => b_X0_passTick_62 o Q   v5)))) ∧ (¬ x12 = 0 → w_X0_giveUp o v3 (fun (v6 : VV) => b_X0_passTick_62 o Q   v6))))))
set_option maxHeartbeats 4000000 in
set_option maxRecDepth 100000 in
/-- TransportFour$End.passTick -/
theorem t_X0_passTick (l : Launch) (dC : Nat → ClassId) (dI : Nat → Nat → Nat) (base : Nat) (cy : Nat → ClassId) (o : Nat) (ho : isO 0 o) (v : VV) (Q : VV → Prop) (hw : w_X0_passTick o v Q) : CV l yX0_passTick (.code yX0_passTick cX0_passTick 1 none :: TB) { frames := 5, cells := 0, slots := 0, locals := 113 } dC dI base cy [.ref (base + o)] v Q := by
  refine Met.ofW (cc := cX0_passTick) (maxL := 1) (ret := none) (by decide) rfl ?_
  intro p e s m args below meth c s₁ B hml hv
  obtain ⟨rfl, hP, hK⟩ := hv
  have hx := B.exec
  have hb := B.bytes
  have hr := B.returns
  have hts0 := atoms_spec (ws := (.code yX0_passTick cX0_passTick 1 none :: TB)) B.pre
  have hts : ∀ w ∈ TB, w.before ([.ref (base + o)]).toArray s = true := fun w h => hts0 w (List.mem_cons_of_mem _ h)
  have hown : s.vm.findClass RX0 = some m.cls := findClass_of_methodNamed B.named
  have hlocks := B.notSynchronized
  have hS : va_S (fun q => base ≤ q) s.heap s.heap [] := va_S.rf
  have hl := lv_entry ([.ref (base + o)]) (n := 1) (Nat.le_of_ble_eq_true rfl)
  rw [lg_entry_eq]
  generalize (lg_sl ([.ref (base + o)]) ++ List.replicate (1 - (lg_sl ([.ref (base + o)])).length) Slot.unset).toArray = ls at hl ⊢
  have hl : lv_has ls 1 [(0, .ref (base + o))] := hl
  have hret : ∀ (pc : Nat) (v : VV) (H : Heap) (locs : List Loc) (ls : Array Slot), decode cX0_passTick pc = .ok (.return_, 1) → Q v → va_P (dC, dI) vwCl (Wd base cy rf v 874) H → va_S (fun q => base ≤ q) s.heap H locs → W p l e { frames := 5, cells := 0, slots := 0, locals := 113 } s m ([.ref (base + o)]).toArray below meth c H locs 0 0 (MQ below (va_Qv Q (Hp dC dI base cy) (fun q => base ≤ q)) ([.ref (base + o)]).toArray s 0 0 (fun q => base ≤ q)) (F0 m pc ls []) := fun pc v H locs ls hd hq hP hS => W.vret hx hb hr (fun t ht hW => ⟨⟨v, rfl, hq, by rw [ht]; exact hP, va_K.moved hW.alike hK⟩, hS.F ht⟩) hS.2.2 hd
  refine lv_aload_n hx hb dX0_passTick_0 rfl (lv_at hl 0 rfl) ?_
  refine k_I (As := []) (rest := []) ⟨hx, hb, hml, hown, hts⟩ (t_X0_hasConnection l dC dI base cy o ho v _ hw) (cwV 0 hts (gV ml_X0_164 mi_X0_hasConnection mx_X0_hasConnection mn_X0 mo_X0_hasConnection) rfl rfl rfl (by decide +kernel) ⟨by decide, by decide⟩) hK hP hS ho (by decide) rfl rfl hl.1 rfl (Nat.le_of_ble_eq_true rfl) dX0_passTick_1 ⟨Nat.zero_le _, Nat.zero_le _⟩ (fun x1 v1 H locs hw hP hS => ?_)
  refine lv_if_eq (tgt := 62) hx hb dX0_passTick_4 (by decide) (fun c4 => ?_) (fun c4 => ?_)
  · have hw := hw.1 c4
    exact tb_X0_passTick_62 hx hb hml hown hts hK o ho _ hret   v1 _ _ _ hw (lv_sub hl [0] rfl) hP hS
  · have hw := hw.2 c4
    refine lv_aload_n hx hb dX0_passTick_7 rfl (lv_at hl 0 rfl) ?_
    refine k_V (As := []) (rest := []) ⟨hx, hb, hml, hown, hts⟩ (t_X0_sendDueAgain l dC dI base cy o ho v1 _ hw) (cwV 0 hts (gV ml_X0_222 mi_X0_sendDueAgain mx_X0_sendDueAgain mn_X0 mo_X0_sendDueAgain) rfl rfl rfl (by decide +kernel) ⟨by decide, by decide⟩) hK hP hS ho (by decide) rfl rfl hl.1 rfl (Nat.le_of_ble_eq_true rfl) dX0_passTick_8 ⟨Nat.zero_le _, Nat.zero_le _⟩ (fun v2 H locs hw hP hS => ?_)
    refine lv_aload_n hx hb dX0_passTick_11 rfl (lv_at hl 0 rfl) ?_
    refine k_I (As := []) (rest := []) ⟨hx, hb, hml, hown, hts⟩ (t_X0_mustGiveUp l dC dI base cy o ho v2 _ hw) (cwV 0 hts (gV ml_X0_225 mi_X0_mustGiveUp mx_X0_mustGiveUp mn_X0 mo_X0_mustGiveUp) rfl rfl rfl (by decide +kernel) ⟨by decide, by decide⟩) hK hP hS ho (by decide) rfl rfl hl.1 rfl (Nat.le_of_ble_eq_true rfl) dX0_passTick_12 ⟨Nat.zero_le _, Nat.zero_le _⟩ (fun x12 v3 H locs hw hP hS => ?_)
    refine lv_if_eq (tgt := 25) hx hb dX0_passTick_15 (by decide) (fun c15 => ?_) (fun c15 => ?_)
    · have hw := hw.1 c15
      refine lv_aload_n hx hb dX0_passTick_25 rfl (lv_at hl 0 rfl) ?_
      refine w_gI (C := RX0) (T := TX0) (N := 15) (ci := 0) hx hb hts in0 hown hK hP 8 ho.1 ho rfl (by decide) (hts _ mf_X0_57) dX0_passTick_26 ?_
      refine lv_topi (fun x26 ex26 => ?_)
      have hw := hw x26 ex26
      refine lv_iconst (v := 2) hx hb dX0_passTick_29 (by decide) ?_
      refine lv_icmp_ne (tgt := 62) hx hb dX0_passTick_30 (by decide) (fun c30 => ?_) (fun c30 => ?_)
      · have hw := hw.1 c30
        exact tb_X0_passTick_62 hx hb hml hown hts hK o ho _ hret   v3 _ _ _ hw (lv_sub hl [0] rfl) hP hS
      · have hw := hw.2 c30
        refine lv_aload_n hx hb dX0_passTick_33 rfl (lv_at hl 0 rfl) ?_
        refine w_gR (C := RX0) (T := TX0) (N := 15) (ci := 0) hx hb hts in0 hown hK hP 1 ho.1 ho rfl (by decide) (ch0_1 ho).1 (hts _ mf_X0_53) dX0_passTick_34 ?_
        refine w_gI (C := RX2) (T := TX2) (N := 11) (ci := 2) hx hb hts in2 hown hK hP 10 (ch0_1 ho).2.1 (ch0_1 ho).2 rfl (by decide) (hts _ mf_X0_88) dX0_passTick_37 ?_
        refine lv_topi (fun x37 ex37 => ?_)
        have hw := hw x37 ex37
        refine lv_aload_n hx hb dX0_passTick_40 rfl (lv_at hl 0 rfl) ?_
        refine w_gR (C := RX0) (T := TX0) (N := 15) (ci := 0) hx hb hts in0 hown hK hP 1 ho.1 ho rfl (by decide) (ch0_1 ho).1 (hts _ mf_X0_53) dX0_passTick_41 ?_
        refine w_gR (C := RX2) (T := TX2) (N := 11) (ci := 2) hx hb hts in2 hown hK hP 6 (ch0_1 ho).2.1 (ch0_1 ho).2 rfl (by decide) (ch2_6 (ch0_1 ho).2).1 (hts _ mf_X0_231) dX0_passTick_44 ?_
        refine lv_aload_n hx hb dX0_passTick_47 rfl (lv_at hl 0 rfl) ?_
        refine w_gI (C := RX0) (T := TX0) (N := 15) (ci := 0) hx hb hts in0 hown hK hP 0 ho.1 ho rfl (by decide) (hts _ mf_X0_50) dX0_passTick_48 ?_
        refine lv_topi (fun x48 ex48 => ?_)
        have hw := hw x48 ex48
        obtain ⟨hi4, hw⟩ := hw
        refine w_ia (N := 2) hx hb hK hP (ch2_6 (ch0_1 ho).2).2.1.1 (ch2_6 (ch0_1 ho).2).2.1 (ch2_6 (ch0_1 ho).2).2.2 hi4 dX0_passTick_51 ?_
        refine lv_topi (fun x51 ex51 => ?_)
        have hw := hw x51 ex51
        refine lv_isub hx hb dX0_passTick_52 ?_
        refine lv_topi (fun x52 ex52 => ?_)
        have hw := hw x52 ex52
        refine lv_bipush (v := 20) hx hb dX0_passTick_53 (by decide) ?_
        refine lv_icmp_lt (tgt := 62) hx hb dX0_passTick_55 (by decide) (fun c55 => ?_) (fun c55 => ?_)
        · have hw := hw.1 c55
          exact tb_X0_passTick_62 hx hb hml hown hts hK o ho _ hret   v3 _ _ _ hw (lv_sub hl [0] rfl) hP hS
        · have hw := hw.2 c55
          refine lv_aload_n hx hb dX0_passTick_58 rfl (lv_at hl 0 rfl) ?_
          refine k_V (As := []) (rest := []) ⟨hx, hb, hml, hown, hts⟩ (t_X0_sendReceipt l dC dI base cy o ho v3 _ hw) (cwV 0 hts (gV ml_X0_131 mi_X0_sendReceipt mx_X0_sendReceipt mn_X0 mo_X0_sendReceipt) rfl rfl rfl (by decide +kernel) ⟨by decide, by decide⟩) hK hP hS ho (by decide) rfl rfl hl.1 rfl (Nat.le_of_ble_eq_true rfl) dX0_passTick_59 ⟨Nat.zero_le _, Nat.zero_le _⟩ (fun v5 H locs hw hP hS => ?_)
          exact tb_X0_passTick_62 hx hb hml hown hts hK o ho _ hret   v5 _ _ _ hw (lv_sub hl [0] rfl) hP hS
    · have hw := hw.2 c15
      refine lv_aload_n hx hb dX0_passTick_18 rfl (lv_at hl 0 rfl) ?_
      refine k_V (As := []) (rest := []) ⟨hx, hb, hml, hown, hts⟩ (t_X0_giveUp l dC dI base cy o ho v3 _ hw) (cwV 0 hts (gV ml_X0_228 mi_X0_giveUp mx_X0_giveUp mn_X0 mo_X0_giveUp) rfl rfl rfl (by decide +kernel) ⟨by decide, by decide⟩) hK hP hS ho (by decide) rfl rfl hl.1 rfl (Nat.le_of_ble_eq_true rfl) dX0_passTick_19 ⟨Nat.zero_le _, Nat.zero_le _⟩ (fun v6 H locs hw hP hS => ?_)
      refine lv_goto (tgt := 62) hx hb dX0_passTick_22 (by decide) ?_
      exact tb_X0_passTick_62 hx hb hml hown hts hK o ho _ hret   v6 _ _ _ hw (lv_sub hl [0] rfl) hP hS
def b_X9_tick_33 (p1 : Int32) (Q : Int32 → VV → Prop) (fu : Nat) : Int32 → Int32 → VV → Prop :=
  Nat.rec (motive := fun _ => Int32 → Int32 → VV → Prop) (fun _ _ _ => False) (fun _ ih a1 a2 v => (a1 ≤ a2 → ∀ x96 : Int32, x96 = v 1 10 → Q x96 v) ∧ (¬ a1 ≤ a2 → ∀ x43 : Int32, x43 = v 1 10 → ∀ x47 : Int32, x47 = x43 + 1 → ∀ v1 : VV, v1 = up2 v 1 10 x47 → w_X9_deliver 0 v1 (fun (v2 : VV) => w_X9_deliver 1 v2 (fun (v3 : VV) => w_X2_forgetArrived  v3 (fun (v4 : VV) => ∀ t73 : Nat, t73 = 523 + 146 * (Int32.toNatClampNeg 0) → w_X0_passTick t73 v4 (fun (v5 : VV) => ∀ t82 : Nat, t82 = 523 + 146 * (Int32.toNatClampNeg 1) → w_X0_passTick t82 v5 (fun (v6 : VV) => ∀ x86 : Int32, x86 = a2 + 1 → ih a1 x86 v6))))))) fu
set_option maxHeartbeats 4000000 in
set_option maxRecDepth 100000 in
theorem tb_X9_tick_33 {p : Program} {l : Launch} {e : Env} {s : State} {m : MethodId} {args : Array Value} {below : List Frame} {meth : Method} {c : Code} {QQ : State → Prop} {dC : Nat → ClassId} {dI : Nat → Nat → Nat} {base : Nat} {cy : Nat → ClassId} (hx : p.tables.exec = Jvm.exec) (hb : c.code = cX9_tick) (hml : c.maxLocals = 3) (hown : s.vm.findClass RX9 = some m.cls) (hts : ∀ w ∈ TB, w.before args s = true) (hK : va_K (dC, dI) vwCl (tyL cy) s) (p1 : Int32) (Q : Int32 → VV → Prop) (hret : ∀ (pc : Nat) (x : Int32) (v : VV) (H : Heap) (locs : List Loc) (ls : Array Slot), decode cX9_tick pc = .ok (.ireturn, 1) → Q x v → va_P (dC, dI) vwCl (Wd base cy rf v 874) H → va_S (fun q => base ≤ q) s.heap H locs → W p l e { frames := 7, cells := 0, slots := 0, locals := 162 } s m args below meth c H locs 0 0 QQ (F0 m pc ls [.int x])) : ∀ (fu : Nat) (a1 : Int32) (a2 : Int32) (v : VV) (H : Heap) (locs : List Loc) (ls : Array Slot), b_X9_tick_33 p1 Q  fu a1 a2 v → lv_has ls 3 [(0, .ref (base + 0)), (1, .int a1), (2, .int a2)] → va_P (dC, dI) vwCl (Wd base cy rf v 874) H → va_S (fun q => base ≤ q) s.heap H locs → W p l e { frames := 7, cells := 0, slots := 0, locals := 162 } s m args below meth c H locs 0 0 QQ (F0 m 33 ls []) := by
  intro fu
  induction fu with
  | zero =>
    intro a1 a2 v H locs ls hw hl hP hS
    exact hw.elim
  | succ fu ih =>
    intro a1 a2 v H locs ls hw hl hP hS
    refine lv_iload_n hx hb dX9_tick_33 rfl (lv_at hl 2 rfl) ?_
    refine lv_iload_n hx hb dX9_tick_34 rfl (lv_at hl 1 rfl) ?_
    refine lv_icmp_ge (tgt := 92) hx hb dX9_tick_35 (by decide) (fun c35 => ?_) (fun c35 => ?_)
    · have hw := hw.1 c35
      refine lv_aload_n hx hb dX9_tick_92 rfl (lv_at hl 0 rfl) ?_
      refine w_gR (C := RX9) (T := TX9) (N := 4) (ci := 9) hx hb hts in9 hown hK hP 0 th9.1 th9 rfl (by decide) (ch9_0 th9).1 (hts _ mf_X9_10) dX9_tick_93 ?_
      refine w_gI (C := RX2) (T := TX2) (N := 11) (ci := 2) hx hb hts in2 hown hK hP 10 (ch9_0 th9).2.1 (ch9_0 th9).2 rfl (by decide) (hts _ mf_X9_80) dX9_tick_96 ?_
      refine lv_topi (fun x96 ex96 => ?_)
      have hw := hw x96 ex96
      exact hret _ _ _ _ _ _ dX9_tick_99 hw hP hS
    · have hw := hw.2 c35
      refine lv_aload_n hx hb dX9_tick_38 rfl (lv_at hl 0 rfl) ?_
      refine w_gR (C := RX9) (T := TX9) (N := 4) (ci := 9) hx hb hts in9 hown hK hP 0 th9.1 th9 rfl (by decide) (ch9_0 th9).1 (hts _ mf_X9_10) dX9_tick_39 ?_
      refine lv_dup hx hb dX9_tick_42 rfl ?_
      refine w_gI (C := RX2) (T := TX2) (N := 11) (ci := 2) hx hb hts in2 hown hK hP 10 (ch9_0 th9).2.1 (ch9_0 th9).2 rfl (by decide) (hts _ mf_X9_80) dX9_tick_43 ?_
      refine lv_topi (fun x43 ex43 => ?_)
      have hw := hw x43 ex43
      refine lv_iconst (v := 1) hx hb dX9_tick_46 (by decide) ?_
      refine lv_iadd hx hb dX9_tick_47 ?_
      refine lv_topi (fun x47 ex47 => ?_)
      have hw := hw x47 ex47
      refine w_pI (C := RX2) (T := TX2) (N := 11) (ci := 2) hx hb hts in2 tyX2 tyX2_ok nmX2 hown hK hP hS 10 (ch9_0 th9).2.1 (ch9_0 th9).2 rfl (by decide) (hts _ mf_X9_80) rfl (ty := .int) (by decide +kernel) rfl rfl dX9_tick_48 (fun v1 H locs hv1 hP hz hS => ?_)
      have hw := hw v1 hv1
      refine lv_aload_n hx hb dX9_tick_51 rfl (lv_at hl 0 rfl) ?_
      refine lv_iconst (v := 0) hx hb dX9_tick_52 (by decide) ?_
      refine k_V (As := [.int 0]) (rest := []) ⟨hx, hb, hml, hown, hts⟩ (t_X9_deliver l dC dI base cy 0 v1 _ hw) (cwV 1 hts (gV ml_X9_83 mi_X9_deliver mx_X9_deliver mn_X9 mo_X9_deliver) rfl rfl rfl (by decide +kernel) ⟨by decide, by decide⟩) hK hP hS th9 (by decide) rfl rfl hl.1 rfl (Nat.le_of_ble_eq_true rfl) dX9_tick_53 ⟨Nat.zero_le _, Nat.zero_le _⟩ (fun v2 H locs hw hP hS => ?_)
      refine lv_aload_n hx hb dX9_tick_56 rfl (lv_at hl 0 rfl) ?_
      refine lv_iconst (v := 1) hx hb dX9_tick_57 (by decide) ?_
      refine k_V (As := [.int 1]) (rest := []) ⟨hx, hb, hml, hown, hts⟩ (t_X9_deliver l dC dI base cy 1 v2 _ hw) (cwV 1 hts (gV ml_X9_83 mi_X9_deliver mx_X9_deliver mn_X9 mo_X9_deliver) rfl rfl rfl (by decide +kernel) ⟨by decide, by decide⟩) hK hP hS th9 (by decide) rfl rfl hl.1 rfl (Nat.le_of_ble_eq_true rfl) dX9_tick_58 ⟨Nat.zero_le _, Nat.zero_le _⟩ (fun v3 H locs hw hP hS => ?_)
      refine lv_aload_n hx hb dX9_tick_61 rfl (lv_at hl 0 rfl) ?_
      refine w_gR (C := RX9) (T := TX9) (N := 4) (ci := 9) hx hb hts in9 hown hK hP 0 th9.1 th9 rfl (by decide) (ch9_0 th9).1 (hts _ mf_X9_10) dX9_tick_62 ?_
      refine k_V (As := []) (rest := []) ⟨hx, hb, hml, hown, hts⟩ (t_X2_forgetArrived l dC dI base cy  v3 _ hw) (cwV 0 hts (gV ml_X9_87 mi_X2_forgetArrived mx_X2_forgetArrived mn_X2 mo_X2_forgetArrived) rfl rfl rfl (by decide +kernel) ⟨by decide, by decide⟩) hK hP hS (ch9_0 th9).2 (by decide) rfl rfl hl.1 rfl (Nat.le_of_ble_eq_true rfl) dX9_tick_65 ⟨Nat.zero_le _, Nat.zero_le _⟩ (fun v4 H locs hw hP hS => ?_)
      refine lv_aload_n hx hb dX9_tick_68 rfl (lv_at hl 0 rfl) ?_
      refine w_gR (C := RX9) (T := TX9) (N := 4) (ci := 9) hx hb hts in9 hown hK hP 1 th9.1 th9 rfl (by decide) (ch9_1 th9).1 (hts _ mf_X9_21) dX9_tick_69 ?_
      refine lv_iconst (v := 0) hx hb dX9_tick_72 (by decide) ?_
      obtain ⟨t73, et73⟩ : ∃ y : Nat, y = 523 + 146 * (Int32.toNatClampNeg 0) := ⟨_, rfl⟩
      have hw := hw t73 et73
      have qt73 := arE (i := (Int32.toNatClampNeg 0)) (in_lt (vp_in_nI (n := 0) (by decide) (by decide)))
      rw [← et73] at qt73
      refine w_aa (q0 := 3) hx hb hK hP (ch9_1 th9).2.1.1 (ch9_1 th9).2.1 (by decide) rfl (ch9_1 th9).2.2 (vp_in_nI (n := 0) (by decide) (by decide)) qt73.1 dX9_tick_73 ?_
      refine k_V (As := []) (rest := []) ⟨hx, hb, hml, hown, hts⟩ (t_X0_passTick l dC dI base cy t73 qt73.2 v4 _ hw) (cwV 0 hts (gV ml_X9_90 mi_X0_passTick mx_X0_passTick mn_X0 mo_X0_passTick) rfl rfl rfl (by decide +kernel) ⟨by decide, by decide⟩) hK hP hS qt73.2 (by decide) rfl rfl hl.1 rfl (Nat.le_of_ble_eq_true rfl) dX9_tick_74 ⟨Nat.zero_le _, Nat.zero_le _⟩ (fun v5 H locs hw hP hS => ?_)
      refine lv_aload_n hx hb dX9_tick_77 rfl (lv_at hl 0 rfl) ?_
      refine w_gR (C := RX9) (T := TX9) (N := 4) (ci := 9) hx hb hts in9 hown hK hP 1 th9.1 th9 rfl (by decide) (ch9_1 th9).1 (hts _ mf_X9_21) dX9_tick_78 ?_
      refine lv_iconst (v := 1) hx hb dX9_tick_81 (by decide) ?_
      obtain ⟨t82, et82⟩ : ∃ y : Nat, y = 523 + 146 * (Int32.toNatClampNeg 1) := ⟨_, rfl⟩
      have hw := hw t82 et82
      have qt82 := arE (i := (Int32.toNatClampNeg 1)) (in_lt (vp_in_nI (n := 1) (by decide) (by decide)))
      rw [← et82] at qt82
      refine w_aa (q0 := 3) hx hb hK hP (ch9_1 th9).2.1.1 (ch9_1 th9).2.1 (by decide) rfl (ch9_1 th9).2.2 (vp_in_nI (n := 1) (by decide) (by decide)) qt82.1 dX9_tick_82 ?_
      refine k_V (As := []) (rest := []) ⟨hx, hb, hml, hown, hts⟩ (t_X0_passTick l dC dI base cy t82 qt82.2 v5 _ hw) (cwV 0 hts (gV ml_X9_90 mi_X0_passTick mx_X0_passTick mn_X0 mo_X0_passTick) rfl rfl rfl (by decide +kernel) ⟨by decide, by decide⟩) hK hP hS qt82.2 (by decide) rfl rfl hl.1 rfl (Nat.le_of_ble_eq_true rfl) dX9_tick_83 ⟨Nat.zero_le _, Nat.zero_le _⟩ (fun v6 H locs hw hP hS => ?_)
      obtain ⟨x86, ex86⟩ : ∃ y : Int32, y = a2 + 1 := ⟨_, rfl⟩
      have hw := hw x86 ex86
      refine lv_iinc (v := x86) (lv' := [(2, .int x86), (0, .ref (base + 0)), (1, .int a1)]) hx hb dX9_tick_86 hl (k := 2) rfl (by rw [ex86]; first | rfl | (rw [show Int32.ofInt (-1) = (-1 : Int32) from by decide])) (by decide) rfl (fun ls hl => ?_)
      refine lv_goto (tgt := 33) hx hb dX9_tick_89 (by decide) ?_
      exact ih a1 x86 v6 _ _ _ hw (lv_sub hl [1, 2, 0] rfl) hP hS
def b_X9_tick_11 (p1 : Int32) (Q : Int32 → VV → Prop) (a1 : Int32) (v : VV) : Prop :=
  Q ((-1)) v
set_option maxHeartbeats 4000000 in
set_option maxRecDepth 100000 in
theorem tb_X9_tick_11 {p : Program} {l : Launch} {e : Env} {s : State} {m : MethodId} {args : Array Value} {below : List Frame} {meth : Method} {c : Code} {QQ : State → Prop} {dC : Nat → ClassId} {dI : Nat → Nat → Nat} {base : Nat} {cy : Nat → ClassId} (hx : p.tables.exec = Jvm.exec) (hb : c.code = cX9_tick) (hml : c.maxLocals = 3) (hown : s.vm.findClass RX9 = some m.cls) (hts : ∀ w ∈ TB, w.before args s = true) (hK : va_K (dC, dI) vwCl (tyL cy) s) (p1 : Int32) (Q : Int32 → VV → Prop) (hret : ∀ (pc : Nat) (x : Int32) (v : VV) (H : Heap) (locs : List Loc) (ls : Array Slot), decode cX9_tick pc = .ok (.ireturn, 1) → Q x v → va_P (dC, dI) vwCl (Wd base cy rf v 874) H → va_S (fun q => base ≤ q) s.heap H locs → W p l e { frames := 7, cells := 0, slots := 0, locals := 162 } s m args below meth c H locs 0 0 QQ (F0 m pc ls [.int x])) (a1 : Int32) (v : VV) (H : Heap) (locs : List Loc) (ls : Array Slot) (hw : b_X9_tick_11 p1 Q  a1 v) : lv_has ls 3 [(0, .ref (base + 0)), (1, .int a1)] → va_P (dC, dI) vwCl (Wd base cy rf v 874) H → va_S (fun q => base ≤ q) s.heap H locs → W p l e { frames := 7, cells := 0, slots := 0, locals := 162 } s m args below meth c H locs 0 0 QQ (F0 m 11 ls []) := by
  intro hl hP hS
  refine lv_iconst (v := -1) hx hb dX9_tick_11 (by decide) ?_
  exact hret _ _ _ _ _ _ dX9_tick_12 hw hP hS
def w_X9_tick (p1 : Int32) (v : VV) (Q : Int32 → VV → Prop) : Prop :=
  (p1 < 1 → b_X9_tick_11 p1 Q  p1 v) ∧ (¬ p1 < 1 → (p1 ≤ 20 → ∀ x17 : Int32, x17 = v 1 10 → ∀ x21 : Int32, x21 = x17 + p1 → (x21 ≤ 3000 → ∃ fu : Nat, b_X9_tick_33 p1 Q  fu p1 0 v) ∧ (¬ x21 ≤ 3000 → Q ((-3)) v)) ∧ (¬ p1 ≤ 20 → b_X9_tick_11 p1 Q  p1 v))
set_option maxHeartbeats 4000000 in
set_option maxRecDepth 100000 in
/-- TransportFour.tick -/
theorem t_X9_tick (l : Launch) (dC : Nat → ClassId) (dI : Nat → Nat → Nat) (base : Nat) (cy : Nat → ClassId) (p1 : Int32) (v : VV) (Q : Int32 → VV → Prop) (hw : w_X9_tick p1 v Q) : CI l yX9_tick (.code yX9_tick cX9_tick 3 (some .int) :: TB) { frames := 7, cells := 0, slots := 0, locals := 162 } dC dI base cy [.ref (base + 0), .int p1] v Q := by
  refine Met.ofW (cc := cX9_tick) (maxL := 3) (ret := (some .int)) (by decide) rfl ?_
  intro p e s m args below meth c s₁ B hml hv
  obtain ⟨rfl, hP, hK⟩ := hv
  have hx := B.exec
  have hb := B.bytes
  have hr := B.returns
  have hts0 := atoms_spec (ws := (.code yX9_tick cX9_tick 3 (some .int) :: TB)) B.pre
  have hts : ∀ w ∈ TB, w.before ([.ref (base + 0), .int p1]).toArray s = true := fun w h => hts0 w (List.mem_cons_of_mem _ h)
  have hown : s.vm.findClass RX9 = some m.cls := findClass_of_methodNamed B.named
  have hlocks := B.notSynchronized
  have hS : va_S (fun q => base ≤ q) s.heap s.heap [] := va_S.rf
  have hl := lv_entry ([.ref (base + 0), .int p1]) (n := 3) (Nat.le_of_ble_eq_true rfl)
  rw [lg_entry_eq]
  generalize (lg_sl ([.ref (base + 0), .int p1]) ++ List.replicate (3 - (lg_sl ([.ref (base + 0), .int p1])).length) Slot.unset).toArray = ls at hl ⊢
  have hl : lv_has ls 3 [(0, .ref (base + 0)), (1, .int p1)] := hl
  have hret : ∀ (pc : Nat) (x : Int32) (v : VV) (H : Heap) (locs : List Loc) (ls : Array Slot), decode cX9_tick pc = .ok (.ireturn, 1) → Q x v → va_P (dC, dI) vwCl (Wd base cy rf v 874) H → va_S (fun q => base ≤ q) s.heap H locs → W p l e { frames := 7, cells := 0, slots := 0, locals := 162 } s m ([.ref (base + 0), .int p1]).toArray below meth c H locs 0 0 (MQ below (va_Qi Q (Hp dC dI base cy) (fun q => base ≤ q)) ([.ref (base + 0), .int p1]).toArray s 0 0 (fun q => base ≤ q)) (F0 m pc ls [.int x]) := fun pc x v H locs ls hd hq hP hS => W.iret (v := x) hx hb hr (fun t ht hW => ⟨⟨x, v, rfl, hq, by rw [ht]; exact hP, va_K.moved hW.alike hK⟩, hS.F ht⟩) hS.2.2 hd
  refine lv_iload_n hx hb dX9_tick_0 rfl (lv_at hl 1 rfl) ?_
  refine lv_iconst (v := 1) hx hb dX9_tick_1 (by decide) ?_
  refine lv_icmp_lt (tgt := 11) hx hb dX9_tick_2 (by decide) (fun c2 => ?_) (fun c2 => ?_)
  · have hw := hw.1 c2
    exact tb_X9_tick_11 hx hb hml hown hts hK p1 _ hret  p1 v _ _ _ hw (lv_sub hl [0, 1] rfl) hP hS
  · have hw := hw.2 c2
    refine lv_iload_n hx hb dX9_tick_5 rfl (lv_at hl 1 rfl) ?_
    refine lv_bipush (v := 20) hx hb dX9_tick_6 (by decide) ?_
    refine lv_icmp_le (tgt := 13) hx hb dX9_tick_8 (by decide) (fun c8 => ?_) (fun c8 => ?_)
    · have hw := hw.1 c8
      refine lv_aload_n hx hb dX9_tick_13 rfl (lv_at hl 0 rfl) ?_
      refine w_gR (C := RX9) (T := TX9) (N := 4) (ci := 9) hx hb hts in9 hown hK hP 0 th9.1 th9 rfl (by decide) (ch9_0 th9).1 (hts _ mf_X9_10) dX9_tick_14 ?_
      refine w_gI (C := RX2) (T := TX2) (N := 11) (ci := 2) hx hb hts in2 hown hK hP 10 (ch9_0 th9).2.1 (ch9_0 th9).2 rfl (by decide) (hts _ mf_X9_80) dX9_tick_17 ?_
      refine lv_topi (fun x17 ex17 => ?_)
      have hw := hw x17 ex17
      refine lv_iload_n hx hb dX9_tick_20 rfl (lv_at hl 1 rfl) ?_
      refine lv_iadd hx hb dX9_tick_21 ?_
      refine lv_topi (fun x21 ex21 => ?_)
      have hw := hw x21 ex21
      refine lv_sipush (v := 3000) hx hb dX9_tick_22 (by decide) ?_
      refine lv_icmp_le (tgt := 31) hx hb dX9_tick_25 (by decide) (fun c25 => ?_) (fun c25 => ?_)
      · have hw := hw.1 c25
        refine lv_iconst (v := 0) hx hb dX9_tick_31 (by decide) ?_
        refine lv_istore_n (lv' := [(2, .int 0), (0, .ref (base + 0)), (1, .int p1)]) hx hb dX9_tick_32 rfl hl (by decide) rfl (fun ls hl => ?_)
        obtain ⟨fu, hw⟩ := hw
        exact tb_X9_tick_33 hx hb hml hown hts hK p1 _ hret  fu p1 0 v _ _ _ hw (lv_sub hl [1, 2, 0] rfl) hP hS
      · have hw := hw.2 c25
        refine lv_bipush (v := -3) hx hb dX9_tick_28 (by decide) ?_
        exact hret _ _ _ _ _ _ dX9_tick_30 hw hP hS
    · have hw := hw.2 c8
      exact tb_X9_tick_11 hx hb hml hown hts hK p1 _ hret  p1 v _ _ _ hw (lv_sub hl [0, 1] rfl) hP hS
def w_X0_tell (o : Nat) (p1 : Int32) (v : VV) (Q : Int32 → VV → Prop) : Prop :=
  (p1 = 0 → ∀ x57 : Int32, x57 = v o 8 → Q x57 v) ∧ (p1 = 1 → ∀ x62 : Int32, x62 = v o 9 → Q x62 v) ∧ (p1 = 2 → ∀ x67 : Int32, x67 = v o 10 → Q x67 v) ∧ (p1 = 3 → ∀ x79 : Int32, x79 = v (o + 1) 3 → w_X3_numberAt (o + 1) x79 v (fun (x82 : Int32) (v1 : VV) => Q x82 v1)) ∧ (p1 = 4 → ∀ x90 : Int32, x90 = v (o + 123) 8 → Q x90 v) ∧ (p1 = 5 → w_X1_credit (o + 123) v (fun (x98 : Int32) (v2 : VV) => Q x98 v2)) ∧ (p1 = 6 → ∀ x110 : Int32, x110 = v (o + 1) 5 → w_X3_numberAt (o + 1) x110 v (fun (x113 : Int32) (v3 : VV) => Q x113 v3)) ∧ (p1 = 7 → ∀ x121 : Int32, x121 = v (o + 123) 10 → Q x121 v) ∧ (p1 = 8 → ∀ x129 : Int32, x129 = v (o + 143) 2 → Q x129 v) ∧ (p1 = 9 → ∀ x134 : Int32, x134 = v o 11 → Q x134 v) ∧ (¬ p1 = 0 → ¬ p1 = 1 → ¬ p1 = 2 → ¬ p1 = 3 → ¬ p1 = 4 → ¬ p1 = 5 → ¬ p1 = 6 → ¬ p1 = 7 → ¬ p1 = 8 → ¬ p1 = 9 → Q ((-1)) v)
set_option maxHeartbeats 4000000 in
set_option maxRecDepth 100000 in
/-- TransportFour$End.tell -/
theorem t_X0_tell (l : Launch) (dC : Nat → ClassId) (dI : Nat → Nat → Nat) (base : Nat) (cy : Nat → ClassId) (o : Nat) (ho : isO 0 o) (p1 : Int32) (v : VV) (Q : Int32 → VV → Prop) (hw : w_X0_tell o p1 v Q) : CI l yX0_tell (.code yX0_tell cX0_tell 2 (some .int) :: TB) { frames := 2, cells := 0, slots := 0, locals := 41 } dC dI base cy [.ref (base + o), .int p1] v Q := by
  refine Met.ofW (cc := cX0_tell) (maxL := 2) (ret := (some .int)) (by decide) rfl ?_
  intro p e s m args below meth c s₁ B hml hv
  obtain ⟨rfl, hP, hK⟩ := hv
  have hx := B.exec
  have hb := B.bytes
  have hr := B.returns
  have hts0 := atoms_spec (ws := (.code yX0_tell cX0_tell 2 (some .int) :: TB)) B.pre
  have hts : ∀ w ∈ TB, w.before ([.ref (base + o), .int p1]).toArray s = true := fun w h => hts0 w (List.mem_cons_of_mem _ h)
  have hown : s.vm.findClass RX0 = some m.cls := findClass_of_methodNamed B.named
  have hlocks := B.notSynchronized
  have hS : va_S (fun q => base ≤ q) s.heap s.heap [] := va_S.rf
  have hl := lv_entry ([.ref (base + o), .int p1]) (n := 2) (Nat.le_of_ble_eq_true rfl)
  rw [lg_entry_eq]
  generalize (lg_sl ([.ref (base + o), .int p1]) ++ List.replicate (2 - (lg_sl ([.ref (base + o), .int p1])).length) Slot.unset).toArray = ls at hl ⊢
  have hl : lv_has ls 2 [(0, .ref (base + o)), (1, .int p1)] := hl
  have hret : ∀ (pc : Nat) (x : Int32) (v : VV) (H : Heap) (locs : List Loc) (ls : Array Slot), decode cX0_tell pc = .ok (.ireturn, 1) → Q x v → va_P (dC, dI) vwCl (Wd base cy rf v 874) H → va_S (fun q => base ≤ q) s.heap H locs → W p l e { frames := 2, cells := 0, slots := 0, locals := 41 } s m ([.ref (base + o), .int p1]).toArray below meth c H locs 0 0 (MQ below (va_Qi Q (Hp dC dI base cy) (fun q => base ≤ q)) ([.ref (base + o), .int p1]).toArray s 0 0 (fun q => base ≤ q)) (F0 m pc ls [.int x]) := fun pc x v H locs ls hd hq hP hS => W.iret (v := x) hx hb hr (fun t ht hW => ⟨⟨x, v, rfl, hq, by rw [ht]; exact hP, va_K.moved hW.alike hK⟩, hS.F ht⟩) hS.2.2 hd
  refine lv_iload_n hx hb dX0_tell_0 rfl (lv_at hl 1 rfl) ?_
  by_cases z1_0 : p1 = 0
  · refine lv_tableIn (tgt := 56) hx hb dX0_tell_1 (by rw [z1_0]; decide) (by rw [z1_0]; decide) (by rw [z1_0]; rfl) (by decide) ?_
    have hw := hw.1 z1_0
    refine lv_aload_n hx hb dX0_tell_56 rfl (lv_at hl 0 rfl) ?_
    refine w_gI (C := RX0) (T := TX0) (N := 15) (ci := 0) hx hb hts in0 hown hK hP 8 ho.1 ho rfl (by decide) (hts _ mf_X0_57) dX0_tell_57 ?_
    refine lv_topi (fun x57 ex57 => ?_)
    have hw := hw x57 ex57
    exact hret _ _ _ _ _ _ dX0_tell_60 hw hP hS
  by_cases z1_1 : p1 = 1
  · refine lv_tableIn (tgt := 61) hx hb dX0_tell_1 (by rw [z1_1]; decide) (by rw [z1_1]; decide) (by rw [z1_1]; rfl) (by decide) ?_
    have hw := hw.2.1 z1_1
    refine lv_aload_n hx hb dX0_tell_61 rfl (lv_at hl 0 rfl) ?_
    refine w_gI (C := RX0) (T := TX0) (N := 15) (ci := 0) hx hb hts in0 hown hK hP 9 ho.1 ho rfl (by decide) (hts _ mf_X0_71) dX0_tell_62 ?_
    refine lv_topi (fun x62 ex62 => ?_)
    have hw := hw x62 ex62
    exact hret _ _ _ _ _ _ dX0_tell_65 hw hP hS
  by_cases z1_2 : p1 = 2
  · refine lv_tableIn (tgt := 66) hx hb dX0_tell_1 (by rw [z1_2]; decide) (by rw [z1_2]; decide) (by rw [z1_2]; rfl) (by decide) ?_
    have hw := hw.2.2.1 z1_2
    refine lv_aload_n hx hb dX0_tell_66 rfl (lv_at hl 0 rfl) ?_
    refine w_gI (C := RX0) (T := TX0) (N := 15) (ci := 0) hx hb hts in0 hown hK hP 10 ho.1 ho rfl (by decide) (hts _ mf_X0_81) dX0_tell_67 ?_
    refine lv_topi (fun x67 ex67 => ?_)
    have hw := hw x67 ex67
    exact hret _ _ _ _ _ _ dX0_tell_70 hw hP hS
  by_cases z1_3 : p1 = 3
  · refine lv_tableIn (tgt := 71) hx hb dX0_tell_1 (by rw [z1_3]; decide) (by rw [z1_3]; decide) (by rw [z1_3]; rfl) (by decide) ?_
    have hw := hw.2.2.2.1 z1_3
    refine lv_aload_n hx hb dX0_tell_71 rfl (lv_at hl 0 rfl) ?_
    refine w_gR (C := RX0) (T := TX0) (N := 15) (ci := 0) hx hb hts in0 hown hK hP 2 ho.1 ho rfl (by decide) (ch0_2 ho).1 (hts _ mf_X0_12) dX0_tell_72 ?_
    refine lv_aload_n hx hb dX0_tell_75 rfl (lv_at hl 0 rfl) ?_
    refine w_gR (C := RX0) (T := TX0) (N := 15) (ci := 0) hx hb hts in0 hown hK hP 2 ho.1 ho rfl (by decide) (ch0_2 ho).1 (hts _ mf_X0_12) dX0_tell_76 ?_
    refine w_gI (C := RX3) (T := TX3) (N := 6) (ci := 3) hx hb hts in3 hown hK hP 3 (ch0_2 ho).2.1 (ch0_2 ho).2 rfl (by decide) (hts _ mf_X0_134) dX0_tell_79 ?_
    refine lv_topi (fun x79 ex79 => ?_)
    have hw := hw x79 ex79
    refine k_I (As := [.int x79]) (rest := []) ⟨hx, hb, hml, hown, hts⟩ (t_X3_numberAt l dC dI base cy (o + 1) (ch0_2 ho).2 x79 v _ hw) (cwV 1 hts (gV ml_X0_137 mi_X3_numberAt mx_X3_numberAt mn_X3 mo_X3_numberAt) rfl rfl rfl (by decide +kernel) ⟨by decide, by decide⟩) hK hP hS (ch0_2 ho).2 (by decide) rfl rfl hl.1 rfl (Nat.le_of_ble_eq_true rfl) dX0_tell_82 ⟨Nat.zero_le _, Nat.zero_le _⟩ (fun x82 v1 H locs hw hP hS => ?_)
    exact hret _ _ _ _ _ _ dX0_tell_85 hw hP hS
  by_cases z1_4 : p1 = 4
  · refine lv_tableIn (tgt := 86) hx hb dX0_tell_1 (by rw [z1_4]; decide) (by rw [z1_4]; decide) (by rw [z1_4]; rfl) (by decide) ?_
    have hw := hw.2.2.2.2.1 z1_4
    refine lv_aload_n hx hb dX0_tell_86 rfl (lv_at hl 0 rfl) ?_
    refine w_gR (C := RX0) (T := TX0) (N := 15) (ci := 0) hx hb hts in0 hown hK hP 3 ho.1 ho rfl (by decide) (ch0_3 ho).1 (hts _ mf_X0_21) dX0_tell_87 ?_
    refine w_gI (C := RX1) (T := TX1) (N := 15) (ci := 1) hx hb hts in1 hown hK hP 8 (ch0_3 ho).2.1 (ch0_3 ho).2 rfl (by decide) (hts _ mf_X0_140) dX0_tell_90 ?_
    refine lv_topi (fun x90 ex90 => ?_)
    have hw := hw x90 ex90
    exact hret _ _ _ _ _ _ dX0_tell_93 hw hP hS
  by_cases z1_5 : p1 = 5
  · refine lv_tableIn (tgt := 94) hx hb dX0_tell_1 (by rw [z1_5]; decide) (by rw [z1_5]; decide) (by rw [z1_5]; rfl) (by decide) ?_
    have hw := hw.2.2.2.2.2.1 z1_5
    refine lv_aload_n hx hb dX0_tell_94 rfl (lv_at hl 0 rfl) ?_
    refine w_gR (C := RX0) (T := TX0) (N := 15) (ci := 0) hx hb hts in0 hown hK hP 3 ho.1 ho rfl (by decide) (ch0_3 ho).1 (hts _ mf_X0_21) dX0_tell_95 ?_
    refine k_I (As := []) (rest := []) ⟨hx, hb, hml, hown, hts⟩ (t_X1_credit l dC dI base cy (o + 123) (ch0_3 ho).2 v _ hw) (cwV 0 hts (gV ml_X0_124 mi_X1_credit mx_X1_credit mn_X1 mo_X1_credit) rfl rfl rfl (by decide +kernel) ⟨by decide, by decide⟩) hK hP hS (ch0_3 ho).2 (by decide) rfl rfl hl.1 rfl (Nat.le_of_ble_eq_true rfl) dX0_tell_98 ⟨Nat.zero_le _, Nat.zero_le _⟩ (fun x98 v2 H locs hw hP hS => ?_)
    exact hret _ _ _ _ _ _ dX0_tell_101 hw hP hS
  by_cases z1_6 : p1 = 6
  · refine lv_tableIn (tgt := 102) hx hb dX0_tell_1 (by rw [z1_6]; decide) (by rw [z1_6]; decide) (by rw [z1_6]; rfl) (by decide) ?_
    have hw := hw.2.2.2.2.2.2.1 z1_6
    refine lv_aload_n hx hb dX0_tell_102 rfl (lv_at hl 0 rfl) ?_
    refine w_gR (C := RX0) (T := TX0) (N := 15) (ci := 0) hx hb hts in0 hown hK hP 2 ho.1 ho rfl (by decide) (ch0_2 ho).1 (hts _ mf_X0_12) dX0_tell_103 ?_
    refine lv_aload_n hx hb dX0_tell_106 rfl (lv_at hl 0 rfl) ?_
    refine w_gR (C := RX0) (T := TX0) (N := 15) (ci := 0) hx hb hts in0 hown hK hP 2 ho.1 ho rfl (by decide) (ch0_2 ho).1 (hts _ mf_X0_12) dX0_tell_107 ?_
    refine w_gI (C := RX3) (T := TX3) (N := 6) (ci := 3) hx hb hts in3 hown hK hP 5 (ch0_2 ho).2.1 (ch0_2 ho).2 rfl (by decide) (hts _ mf_X0_143) dX0_tell_110 ?_
    refine lv_topi (fun x110 ex110 => ?_)
    have hw := hw x110 ex110
    refine k_I (As := [.int x110]) (rest := []) ⟨hx, hb, hml, hown, hts⟩ (t_X3_numberAt l dC dI base cy (o + 1) (ch0_2 ho).2 x110 v _ hw) (cwV 1 hts (gV ml_X0_137 mi_X3_numberAt mx_X3_numberAt mn_X3 mo_X3_numberAt) rfl rfl rfl (by decide +kernel) ⟨by decide, by decide⟩) hK hP hS (ch0_2 ho).2 (by decide) rfl rfl hl.1 rfl (Nat.le_of_ble_eq_true rfl) dX0_tell_113 ⟨Nat.zero_le _, Nat.zero_le _⟩ (fun x113 v3 H locs hw hP hS => ?_)
    exact hret _ _ _ _ _ _ dX0_tell_116 hw hP hS
  by_cases z1_7 : p1 = 7
  · refine lv_tableIn (tgt := 117) hx hb dX0_tell_1 (by rw [z1_7]; decide) (by rw [z1_7]; decide) (by rw [z1_7]; rfl) (by decide) ?_
    have hw := hw.2.2.2.2.2.2.2.1 z1_7
    refine lv_aload_n hx hb dX0_tell_117 rfl (lv_at hl 0 rfl) ?_
    refine w_gR (C := RX0) (T := TX0) (N := 15) (ci := 0) hx hb hts in0 hown hK hP 3 ho.1 ho rfl (by decide) (ch0_3 ho).1 (hts _ mf_X0_21) dX0_tell_118 ?_
    refine w_gI (C := RX1) (T := TX1) (N := 15) (ci := 1) hx hb hts in1 hown hK hP 10 (ch0_3 ho).2.1 (ch0_3 ho).2 rfl (by decide) (hts _ mf_X0_146) dX0_tell_121 ?_
    refine lv_topi (fun x121 ex121 => ?_)
    have hw := hw x121 ex121
    exact hret _ _ _ _ _ _ dX0_tell_124 hw hP hS
  by_cases z1_8 : p1 = 8
  · refine lv_tableIn (tgt := 125) hx hb dX0_tell_1 (by rw [z1_8]; decide) (by rw [z1_8]; decide) (by rw [z1_8]; rfl) (by decide) ?_
    have hw := hw.2.2.2.2.2.2.2.2.1 z1_8
    refine lv_aload_n hx hb dX0_tell_125 rfl (lv_at hl 0 rfl) ?_
    refine w_gR (C := RX0) (T := TX0) (N := 15) (ci := 0) hx hb hts in0 hown hK hP 5 ho.1 ho rfl (by decide) (ch0_5 ho).1 (hts _ mf_X0_35) dX0_tell_126 ?_
    refine w_gI (C := RX6) (T := TX6) (N := 4) (ci := 6) hx hb hts in6 hown hK hP 2 (ch0_5 ho).2.1 (ch0_5 ho).2 rfl (by decide) (hts _ mf_X0_149) dX0_tell_129 ?_
    refine lv_topi (fun x129 ex129 => ?_)
    have hw := hw x129 ex129
    exact hret _ _ _ _ _ _ dX0_tell_132 hw hP hS
  by_cases z1_9 : p1 = 9
  · refine lv_tableIn (tgt := 133) hx hb dX0_tell_1 (by rw [z1_9]; decide) (by rw [z1_9]; decide) (by rw [z1_9]; rfl) (by decide) ?_
    have hw := hw.2.2.2.2.2.2.2.2.2.1 z1_9
    refine lv_aload_n hx hb dX0_tell_133 rfl (lv_at hl 0 rfl) ?_
    refine w_gI (C := RX0) (T := TX0) (N := 15) (ci := 0) hx hb hts in0 hown hK hP 11 ho.1 ho rfl (by decide) (hts _ mf_X0_46) dX0_tell_134 ?_
    refine lv_topi (fun x134 ex134 => ?_)
    have hw := hw x134 ex134
    exact hret _ _ _ _ _ _ dX0_tell_137 hw hP hS
  have hw := hw.2.2.2.2.2.2.2.2.2.2 z1_0 z1_1 z1_2 z1_3 z1_4 z1_5 z1_6 z1_7 z1_8 z1_9
  refine lv_tableOut (tgt := 138) hx hb dX0_tell_1 (by have := lv_neT z1_0 (a := 0) (by decide); have := lv_neT z1_1 (a := 1) (by decide); have := lv_neT z1_2 (a := 2) (by decide); have := lv_neT z1_3 (a := 3) (by decide); have := lv_neT z1_4 (a := 4) (by decide); have := lv_neT z1_5 (a := 5) (by decide); have := lv_neT z1_6 (a := 6) (by decide); have := lv_neT z1_7 (a := 7) (by decide); have := lv_neT z1_8 (a := 8) (by decide); have := lv_neT z1_9 (a := 9) (by decide); omega) (by decide) ?_
  refine lv_iconst (v := -1) hx hb dX0_tell_138 (by decide) ?_
  exact hret _ _ _ _ _ _ dX0_tell_139 hw hP hS
def w_X9_told (p1 : Int32) (p2 : Int32) (v : VV) (Q : Int32 → VV → Prop) : Prop :=
  w_X9_isNoEnd p1 v (fun (x1 : Int32) (v1 : VV) => (x1 = 0 → vp_in p1 2 ∧ ∀ t14 : Nat, t14 = 523 + 146 * (Int32.toNatClampNeg p1) → w_X0_tell t14 p2 v1 (fun (x16 : Int32) (v3 : VV) => Q x16 v3)) ∧ (¬ x1 = 0 → Q ((-1)) v1))
set_option maxHeartbeats 4000000 in
set_option maxRecDepth 100000 in
/-- TransportFour.told -/
theorem t_X9_told (l : Launch) (dC : Nat → ClassId) (dI : Nat → Nat → Nat) (base : Nat) (cy : Nat → ClassId) (p1 : Int32) (p2 : Int32) (v : VV) (Q : Int32 → VV → Prop) (hw : w_X9_told p1 p2 v Q) : CI l yX9_told (.code yX9_told cX9_told 3 (some .int) :: TB) { frames := 3, cells := 0, slots := 0, locals := 62 } dC dI base cy [.ref (base + 0), .int p1, .int p2] v Q := by
  refine Met.ofW (cc := cX9_told) (maxL := 3) (ret := (some .int)) (by decide) rfl ?_
  intro p e s m args below meth c s₁ B hml hv
  obtain ⟨rfl, hP, hK⟩ := hv
  have hx := B.exec
  have hb := B.bytes
  have hr := B.returns
  have hts0 := atoms_spec (ws := (.code yX9_told cX9_told 3 (some .int) :: TB)) B.pre
  have hts : ∀ w ∈ TB, w.before ([.ref (base + 0), .int p1, .int p2]).toArray s = true := fun w h => hts0 w (List.mem_cons_of_mem _ h)
  have hown : s.vm.findClass RX9 = some m.cls := findClass_of_methodNamed B.named
  have hlocks := B.notSynchronized
  have hS : va_S (fun q => base ≤ q) s.heap s.heap [] := va_S.rf
  have hl := lv_entry ([.ref (base + 0), .int p1, .int p2]) (n := 3) (Nat.le_of_ble_eq_true rfl)
  rw [lg_entry_eq]
  generalize (lg_sl ([.ref (base + 0), .int p1, .int p2]) ++ List.replicate (3 - (lg_sl ([.ref (base + 0), .int p1, .int p2])).length) Slot.unset).toArray = ls at hl ⊢
  have hl : lv_has ls 3 [(0, .ref (base + 0)), (1, .int p1), (2, .int p2)] := hl
  have hret : ∀ (pc : Nat) (x : Int32) (v : VV) (H : Heap) (locs : List Loc) (ls : Array Slot), decode cX9_told pc = .ok (.ireturn, 1) → Q x v → va_P (dC, dI) vwCl (Wd base cy rf v 874) H → va_S (fun q => base ≤ q) s.heap H locs → W p l e { frames := 3, cells := 0, slots := 0, locals := 62 } s m ([.ref (base + 0), .int p1, .int p2]).toArray below meth c H locs 0 0 (MQ below (va_Qi Q (Hp dC dI base cy) (fun q => base ≤ q)) ([.ref (base + 0), .int p1, .int p2]).toArray s 0 0 (fun q => base ≤ q)) (F0 m pc ls [.int x]) := fun pc x v H locs ls hd hq hP hS => W.iret (v := x) hx hb hr (fun t ht hW => ⟨⟨x, v, rfl, hq, by rw [ht]; exact hP, va_K.moved hW.alike hK⟩, hS.F ht⟩) hS.2.2 hd
  refine lv_iload_n hx hb dX9_told_0 rfl (lv_at hl 1 rfl) ?_
  refine kS_I (As := [.int p1]) (rest := []) ⟨hx, hb, hml, hown, hts⟩ (t_X9_isNoEnd l dC dI base cy p1 v _ hw) (cwS 1 hts (gS ml_X9_29 mt_X9_isNoEnd mn_X9 mo_X9_isNoEnd) rfl rfl rfl (by decide +kernel) ⟨by decide, by decide⟩) hK hP hS rfl hl.1 rfl (Nat.le_of_ble_eq_true rfl) dX9_told_1 ⟨Nat.zero_le _, Nat.zero_le _⟩ (fun x1 v1 H locs hw hP hS => ?_)
  refine lv_if_eq (tgt := 9) hx hb dX9_told_4 (by decide) (fun c4 => ?_) (fun c4 => ?_)
  · have hw := hw.1 c4
    refine lv_aload_n hx hb dX9_told_9 rfl (lv_at hl 0 rfl) ?_
    refine w_gR (C := RX9) (T := TX9) (N := 4) (ci := 9) hx hb hts in9 hown hK hP 1 th9.1 th9 rfl (by decide) (ch9_1 th9).1 (hts _ mf_X9_21) dX9_told_10 ?_
    refine lv_iload_n hx hb dX9_told_13 rfl (lv_at hl 1 rfl) ?_
    obtain ⟨hi2, hw⟩ := hw
    obtain ⟨t14, et14⟩ : ∃ y : Nat, y = 523 + 146 * (Int32.toNatClampNeg p1) := ⟨_, rfl⟩
    have hw := hw t14 et14
    have qt14 := arE (i := (Int32.toNatClampNeg p1)) (in_lt hi2)
    rw [← et14] at qt14
    refine w_aa (q0 := 3) hx hb hK hP (ch9_1 th9).2.1.1 (ch9_1 th9).2.1 (by decide) rfl (ch9_1 th9).2.2 hi2 qt14.1 dX9_told_14 ?_
    refine lv_iload_n hx hb dX9_told_15 rfl (lv_at hl 2 rfl) ?_
    refine k_I (As := [.int p2]) (rest := []) ⟨hx, hb, hml, hown, hts⟩ (t_X0_tell l dC dI base cy t14 qt14.2 p2 v1 _ hw) (cwV 1 hts (gV ml_X9_93 mi_X0_tell mx_X0_tell mn_X0 mo_X0_tell) rfl rfl rfl (by decide +kernel) ⟨by decide, by decide⟩) hK hP hS qt14.2 (by decide) rfl rfl hl.1 rfl (Nat.le_of_ble_eq_true rfl) dX9_told_16 ⟨Nat.zero_le _, Nat.zero_le _⟩ (fun x16 v3 H locs hw hP hS => ?_)
    exact hret _ _ _ _ _ _ dX9_told_19 hw hP hS
  · have hw := hw.2 c4
    refine lv_iconst (v := -1) hx hb dX9_told_7 (by decide) ?_
    exact hret _ _ _ _ _ _ dX9_told_8 hw hP hS
def w_X9_sent  (v : VV) (Q : Int32 → VV → Prop) : Prop :=
  ∀ x4 : Int32, x4 = v 1 8 → Q x4 v
set_option maxHeartbeats 4000000 in
set_option maxRecDepth 100000 in
/-- TransportFour.sent -/
theorem t_X9_sent (l : Launch) (dC : Nat → ClassId) (dI : Nat → Nat → Nat) (base : Nat) (cy : Nat → ClassId)  (v : VV) (Q : Int32 → VV → Prop) (hw : w_X9_sent  v Q) : CI l yX9_sent (.code yX9_sent cX9_sent 1 (some .int) :: TB) { frames := 0, cells := 0, slots := 0, locals := 0 } dC dI base cy [.ref (base + 0)] v Q := by
  refine Met.ofW (cc := cX9_sent) (maxL := 1) (ret := (some .int)) (by decide) rfl ?_
  intro p e s m args below meth c s₁ B hml hv
  obtain ⟨rfl, hP, hK⟩ := hv
  have hx := B.exec
  have hb := B.bytes
  have hr := B.returns
  have hts0 := atoms_spec (ws := (.code yX9_sent cX9_sent 1 (some .int) :: TB)) B.pre
  have hts : ∀ w ∈ TB, w.before ([.ref (base + 0)]).toArray s = true := fun w h => hts0 w (List.mem_cons_of_mem _ h)
  have hown : s.vm.findClass RX9 = some m.cls := findClass_of_methodNamed B.named
  have hlocks := B.notSynchronized
  have hS : va_S (fun q => base ≤ q) s.heap s.heap [] := va_S.rf
  have hl := lv_entry ([.ref (base + 0)]) (n := 1) (Nat.le_of_ble_eq_true rfl)
  rw [lg_entry_eq]
  generalize (lg_sl ([.ref (base + 0)]) ++ List.replicate (1 - (lg_sl ([.ref (base + 0)])).length) Slot.unset).toArray = ls at hl ⊢
  have hl : lv_has ls 1 [(0, .ref (base + 0))] := hl
  have hret : ∀ (pc : Nat) (x : Int32) (v : VV) (H : Heap) (locs : List Loc) (ls : Array Slot), decode cX9_sent pc = .ok (.ireturn, 1) → Q x v → va_P (dC, dI) vwCl (Wd base cy rf v 874) H → va_S (fun q => base ≤ q) s.heap H locs → W p l e { frames := 0, cells := 0, slots := 0, locals := 0 } s m ([.ref (base + 0)]).toArray below meth c H locs 0 0 (MQ below (va_Qi Q (Hp dC dI base cy) (fun q => base ≤ q)) ([.ref (base + 0)]).toArray s 0 0 (fun q => base ≤ q)) (F0 m pc ls [.int x]) := fun pc x v H locs ls hd hq hP hS => W.iret (v := x) hx hb hr (fun t ht hW => ⟨⟨x, v, rfl, hq, by rw [ht]; exact hP, va_K.moved hW.alike hK⟩, hS.F ht⟩) hS.2.2 hd
  refine lv_aload_n hx hb dX9_sent_0 rfl (lv_at hl 0 rfl) ?_
  refine w_gR (C := RX9) (T := TX9) (N := 4) (ci := 9) hx hb hts in9 hown hK hP 0 th9.1 th9 rfl (by decide) (ch9_0 th9).1 (hts _ mf_X9_10) dX9_sent_1 ?_
  refine w_gI (C := RX2) (T := TX2) (N := 11) (ci := 2) hx hb hts in2 hown hK hP 8 (ch9_0 th9).2.1 (ch9_0 th9).2 rfl (by decide) (hts _ mf_X9_73) dX9_sent_4 ?_
  refine lv_topi (fun x4 ex4 => ?_)
  have hw := hw x4 ex4
  exact hret _ _ _ _ _ _ dX9_sent_7 hw hP hS
