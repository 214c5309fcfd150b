def b_X2_recordedByte_43 (p1 : Int32) (p2 : Int32) (Q : Int32 → VV → Prop) (a1 : Int32) (a2 : Int32) (a3 : Nat) (v : VV) : Prop :=
  Q ((-1)) v
set_option maxHeartbeats 4000000 in
set_option maxRecDepth 100000 in
theorem tb_X2_recordedByte_43 {p : Program} {l : Launch} {e : Env} {s : State} {m : MethodId} {args : Array Value} {below : List Frame} {meth : Method} {c : Code} {QQ : State → Prop} {dC : Nat → ClassId} {dI : Nat → Nat → Nat} {base : Nat} {cy : Nat → ClassId} (hx : p.tables.exec = Jvm.exec) (hb : c.code = cX2_recordedByte) (hml : c.maxLocals = 4) (hown : s.vm.findClass RX2 = some m.cls) (hts : ∀ w ∈ TB, w.before args s = true) (hK : va_K (dC, dI) vwCl (tyL cy) s) (p1 : Int32) (p2 : Int32) (Q : Int32 → VV → Prop) (hret : ∀ (pc : Nat) (x : Int32) (v : VV) (H : Heap) (locs : List Loc) (ls : Array Slot), decode cX2_recordedByte pc = .ok (.ireturn, 1) → Q x v → va_P (dC, dI) vwCl (Wd base cy rf v 874) H → va_S (fun q => base ≤ q) s.heap H locs → W p l e { frames := 1, cells := 0, slots := 0, locals := 21 } s m args below meth c H locs 0 0 QQ (F0 m pc ls [.int x])) (a1 : Int32) (a2 : Int32) (a3 : Nat) (ha3 : isO 5 a3) (v : VV) (H : Heap) (locs : List Loc) (ls : Array Slot) (hw : b_X2_recordedByte_43 p1 p2 Q  a1 a2 a3 v) : lv_has ls 4 [(0, .ref (base + 1)), (1, .int a1), (2, .int a2), (3, .ref (base + a3))] → va_P (dC, dI) vwCl (Wd base cy rf v 874) H → va_S (fun q => base ≤ q) s.heap H locs → W p l e { frames := 1, cells := 0, slots := 0, locals := 21 } s m args below meth c H locs 0 0 QQ (F0 m 43 ls []) := by
  intro hl hP hS
  refine lv_iconst (v := -1) hx hb dX2_recordedByte_43 (by decide) ?_
  exact hret _ _ _ _ _ _ dX2_recordedByte_44 hw hP hS
def b_X2_recordedByte_23 (p1 : Int32) (p2 : Int32) (Q : Int32 → VV → Prop) (a1 : Int32) (a2 : Int32) (v : VV) : Prop :=
  Q ((-1)) v
set_option maxHeartbeats 4000000 in
set_option maxRecDepth 100000 in
theorem tb_X2_recordedByte_23 {p : Program} {l : Launch} {e : Env} {s : State} {m : MethodId} {args : Array Value} {below : List Frame} {meth : Method} {c : Code} {QQ : State → Prop} {dC : Nat → ClassId} {dI : Nat → Nat → Nat} {base : Nat} {cy : Nat → ClassId} (hx : p.tables.exec = Jvm.exec) (hb : c.code = cX2_recordedByte) (hml : c.maxLocals = 4) (hown : s.vm.findClass RX2 = some m.cls) (hts : ∀ w ∈ TB, w.before args s = true) (hK : va_K (dC, dI) vwCl (tyL cy) s) (p1 : Int32) (p2 : Int32) (Q : Int32 → VV → Prop) (hret : ∀ (pc : Nat) (x : Int32) (v : VV) (H : Heap) (locs : List Loc) (ls : Array Slot), decode cX2_recordedByte pc = .ok (.ireturn, 1) → Q x v → va_P (dC, dI) vwCl (Wd base cy rf v 874) H → va_S (fun q => base ≤ q) s.heap H locs → W p l e { frames := 1, cells := 0, slots := 0, locals := 21 } s m args below meth c H locs 0 0 QQ (F0 m pc ls [.int x])) (a1 : Int32) (a2 : Int32) (v : VV) (H : Heap) (locs : List Loc) (ls : Array Slot) (hw : b_X2_recordedByte_23 p1 p2 Q  a1 a2 v) : lv_has ls 4 [(0, .ref (base + 1)), (1, .int a1), (2, .int a2)] → va_P (dC, dI) vwCl (Wd base cy rf v 874) H → va_S (fun q => base ≤ q) s.heap H locs → W p l e { frames := 1, cells := 0, slots := 0, locals := 21 } s m args below meth c H locs 0 0 QQ (F0 m 23 ls []) := by
  intro hl hP hS
  refine lv_iconst (v := -1) hx hb dX2_recordedByte_23 (by decide) ?_
  exact hret _ _ _ _ _ _ dX2_recordedByte_24 hw hP hS
def w_X2_recordedByte (p1 : Int32) (p2 : Int32) (v : VV) (Q : Int32 → VV → Prop) : Prop :=
  (p1 < 0 → b_X2_recordedByte_23 p1 p2 Q  p1 p2 v) ∧ (¬ p1 < 0 → ∀ x6 : Int32, x6 = v 1 8 → (x6 ≤ p1 → b_X2_recordedByte_23 p1 p2 Q  p1 p2 v) ∧ (¬ x6 ≤ p1 → ∀ x14 : Int32, x14 = v 1 8 → ∀ x19 : Int32, x19 = x14 - 64 → (x19 ≤ p1 → w_X2_unitOf p1 v (fun (t27 : Nat) (v1 : VV) => isO 5 t27 ∧ (p2 < 0 → b_X2_recordedByte_43 p1 p2 Q  p1 p2 t27 v1) ∧ (¬ p2 < 0 → ∀ x37 : Int32, x37 = v1 t27 1 → (p2 < x37 → vp_in p2 17 ∧ ∀ x50 : Int32, x50 = v1 (t27 + 1) (Int32.toNatClampNeg p2) → Q x50 v1) ∧ (¬ p2 < x37 → b_X2_recordedByte_43 p1 p2 Q  p1 p2 t27 v1)))) ∧ (¬ x19 ≤ p1 → b_X2_recordedByte_23 p1 p2 Q  p1 p2 v)))
set_option maxHeartbeats 4000000 in
set_option maxRecDepth 100000 in
/-- TransportFour$Net.recordedByte -/
theorem t_X2_recordedByte (l : Launch) (dC : Nat → ClassId) (dI : Nat → Nat → Nat) (base : Nat) (cy : Nat → ClassId) (p1 : Int32) (p2 : Int32) (v : VV) (Q : Int32 → VV → Prop) (hw : w_X2_recordedByte p1 p2 v Q) : CI l yX2_recordedByte (.code yX2_recordedByte cX2_recordedByte 4 (some .int) :: TB) { frames := 1, cells := 0, slots := 0, locals := 21 } dC dI base cy [.ref (base + 1), .int p1, .int p2] v Q := by
  refine Met.ofW (cc := cX2_recordedByte) (maxL := 4) (ret := (some .int)) (by decide) rfl ?_
  intro p e s m args below meth c s₁ B hml hv
  obtain ⟨rfl, hP, hK⟩ := hv
  have hx := B.exec
  have hb := B.bytes
  have hr := B.returns
  have hts0 := atoms_spec (ws := (.code yX2_recordedByte cX2_recordedByte 4 (some .int) :: TB)) B.pre
  have hts : ∀ w ∈ TB, w.before ([.ref (base + 1), .int p1, .int p2]).toArray s = true := fun w h => hts0 w (List.mem_cons_of_mem _ h)
  have hown : s.vm.findClass RX2 = some m.cls := findClass_of_methodNamed B.named
  have hlocks := B.notSynchronized
  have hS : va_S (fun q => base ≤ q) s.heap s.heap [] := va_S.rf
  have hl := lv_entry ([.ref (base + 1), .int p1, .int p2]) (n := 4) (Nat.le_of_ble_eq_true rfl)
  rw [lg_entry_eq]
  generalize (lg_sl ([.ref (base + 1), .int p1, .int p2]) ++ List.replicate (4 - (lg_sl ([.ref (base + 1), .int p1, .int p2])).length) Slot.unset).toArray = ls at hl ⊢
  have hl : lv_has ls 4 [(0, .ref (base + 1)), (1, .int p1), (2, .int p2)] := hl
  have hret : ∀ (pc : Nat) (x : Int32) (v : VV) (H : Heap) (locs : List Loc) (ls : Array Slot), decode cX2_recordedByte pc = .ok (.ireturn, 1) → Q x v → va_P (dC, dI) vwCl (Wd base cy rf v 874) H → va_S (fun q => base ≤ q) s.heap H locs → W p l e { frames := 1, cells := 0, slots := 0, locals := 21 } s m ([.ref (base + 1), .int p1, .int p2]).toArray below meth c H locs 0 0 (MQ below (va_Qi Q (Hp dC dI base cy) (fun q => base ≤ q)) ([.ref (base + 1), .int p1, .int p2]).toArray s 0 0 (fun q => base ≤ q)) (F0 m pc ls [.int x]) := fun pc x v H locs ls hd hq hP hS => W.iret (v := x) hx hb hr (fun t ht hW => ⟨⟨x, v, rfl, hq, by rw [ht]; exact hP, va_K.moved hW.alike hK⟩, hS.F ht⟩) hS.2.2 hd
  refine lv_iload_n hx hb dX2_recordedByte_0 rfl (lv_at hl 1 rfl) ?_
  refine lv_if_lt (tgt := 23) hx hb dX2_recordedByte_1 (by decide) (fun c1 => ?_) (fun c1 => ?_)
  · have hw := hw.1 c1
    exact tb_X2_recordedByte_23 hx hb hml hown hts hK p1 p2 _ hret  p1 p2 v _ _ _ hw (lv_sub hl [0, 1, 2] rfl) hP hS
  · have hw := hw.2 c1
    refine lv_iload_n hx hb dX2_recordedByte_4 rfl (lv_at hl 1 rfl) ?_
    refine lv_aload_n hx hb dX2_recordedByte_5 rfl (lv_at hl 0 rfl) ?_
    refine w_gI (C := RX2) (T := TX2) (N := 11) (ci := 2) hx hb hts in2 hown hK hP 8 th2.1 th2 rfl (by decide) (hts _ mf_X2_42) dX2_recordedByte_6 ?_
    refine lv_topi (fun x6 ex6 => ?_)
    have hw := hw x6 ex6
    refine lv_icmp_ge (tgt := 23) hx hb dX2_recordedByte_9 (by decide) (fun c9 => ?_) (fun c9 => ?_)
    · have hw := hw.1 c9
      exact tb_X2_recordedByte_23 hx hb hml hown hts hK p1 p2 _ hret  p1 p2 v _ _ _ hw (lv_sub hl [0, 1, 2] rfl) hP hS
    · have hw := hw.2 c9
      refine lv_iload_n hx hb dX2_recordedByte_12 rfl (lv_at hl 1 rfl) ?_
      refine lv_aload_n hx hb dX2_recordedByte_13 rfl (lv_at hl 0 rfl) ?_
      refine w_gI (C := RX2) (T := TX2) (N := 11) (ci := 2) hx hb hts in2 hown hK hP 8 th2.1 th2 rfl (by decide) (hts _ mf_X2_42) dX2_recordedByte_14 ?_
      refine lv_topi (fun x14 ex14 => ?_)
      have hw := hw x14 ex14
      refine lv_bipush (v := 64) hx hb dX2_recordedByte_17 (by decide) ?_
      refine lv_isub hx hb dX2_recordedByte_19 ?_
      refine lv_topi (fun x19 ex19 => ?_)
      have hw := hw x19 ex19
      refine lv_icmp_ge (tgt := 25) hx hb dX2_recordedByte_20 (by decide) (fun c20 => ?_) (fun c20 => ?_)
      · have hw := hw.1 c20
        refine lv_aload_n hx hb dX2_recordedByte_25 rfl (lv_at hl 0 rfl) ?_
        refine lv_iload_n hx hb dX2_recordedByte_26 rfl (lv_at hl 1 rfl) ?_
        refine k_Q (As := [.int p1]) (rest := []) ⟨hx, hb, hml, hown, hts⟩ (t_X2_unitOf l dC dI base cy p1 v _ hw) (cwV 1 hts (gV ml_X2_45 mi_X2_unitOf mx_X2_unitOf mn_X2 mo_X2_unitOf) rfl rfl rfl (by decide +kernel) ⟨by decide, by decide⟩) hK hP hS th2 (by decide) rfl rfl hl.1 rfl (Nat.le_of_ble_eq_true rfl) dX2_recordedByte_27 ⟨Nat.zero_le _, Nat.zero_le _⟩ (fun t27 v1 H locs hw hP hS => ?_)
        obtain ⟨ht27, hw⟩ := hw
        refine lv_astore_n (lv' := [(3, .ref (base + t27)), (0, .ref (base + 1)), (1, .int p1), (2, .int p2)]) hx hb dX2_recordedByte_30 rfl hl (by decide) rfl (fun ls hl => ?_)
        refine lv_iload_n hx hb dX2_recordedByte_31 rfl (lv_at hl 3 rfl) ?_
        refine lv_if_lt (tgt := 43) hx hb dX2_recordedByte_32 (by decide) (fun c32 => ?_) (fun c32 => ?_)
        · have hw := hw.1 c32
          exact tb_X2_recordedByte_43 hx hb hml hown hts hK p1 p2 _ hret  p1 p2 t27 ht27 v1 _ _ _ hw (lv_sub hl [1, 2, 3, 0] rfl) hP hS
        · have hw := hw.2 c32
          refine lv_iload_n hx hb dX2_recordedByte_35 rfl (lv_at hl 3 rfl) ?_
          refine lv_aload_n hx hb dX2_recordedByte_36 rfl (lv_at hl 0 rfl) ?_
          refine w_gI (C := RX5) (T := TX5) (N := 7) (ci := 5) hx hb hts in5 hown hK hP 1 ht27.1 ht27 rfl (by decide) (hts _ mf_X2_94) dX2_recordedByte_37 ?_
          refine lv_topi (fun x37 ex37 => ?_)
          have hw := hw x37 ex37
          refine lv_icmp_lt (tgt := 45) hx hb dX2_recordedByte_40 (by decide) (fun c40 => ?_) (fun c40 => ?_)
          · have hw := hw.1 c40
            refine lv_aload_n hx hb dX2_recordedByte_45 rfl (lv_at hl 0 rfl) ?_
            refine w_gR (C := RX5) (T := TX5) (N := 7) (ci := 5) hx hb hts in5 hown hK hP 0 ht27.1 ht27 rfl (by decide) (ch5_0 ht27).1 (hts _ mf_X2_85) dX2_recordedByte_46 ?_
            refine lv_iload_n hx hb dX2_recordedByte_49 rfl (lv_at hl 3 rfl) ?_
            obtain ⟨hi2, hw⟩ := hw
            refine w_ia (N := 17) hx hb hK hP (ch5_0 ht27).2.1.1 (ch5_0 ht27).2.1 (ch5_0 ht27).2.2 hi2 dX2_recordedByte_50 ?_
            refine lv_topi (fun x50 ex50 => ?_)
            have hw := hw x50 ex50
            exact hret _ _ _ _ _ _ dX2_recordedByte_51 hw hP hS
          · have hw := hw.2 c40
            exact tb_X2_recordedByte_43 hx hb hml hown hts hK p1 p2 _ hret  p1 p2 t27 ht27 v1 _ _ _ hw (lv_sub hl [1, 2, 3, 0] rfl) hP hS
      · have hw := hw.2 c20
        exact tb_X2_recordedByte_23 hx hb hml hown hts hK p1 p2 _ hret  p1 p2 v _ _ _ hw (lv_sub hl [0, 1, 2] rfl) hP hS
def w_X9_byteOf (p1 : Int32) (p2 : Int32) (v : VV) (Q : Int32 → VV → Prop) : Prop :=
  w_X2_recordedByte p1 p2 v (fun (x6 : Int32) (v1 : VV) => Q x6 v1)
set_option maxHeartbeats 4000000 in
set_option maxRecDepth 100000 in
/-- TransportFour.byteOf -/
theorem t_X9_byteOf (l : Launch) (dC : Nat → ClassId) (dI : Nat → Nat → Nat) (base : Nat) (cy : Nat → ClassId) (p1 : Int32) (p2 : Int32) (v : VV) (Q : Int32 → VV → Prop) (hw : w_X9_byteOf p1 p2 v Q) : CI l yX9_byteOf (.code yX9_byteOf cX9_byteOf 3 (some .int) :: TB) { frames := 2, cells := 0, slots := 0, locals := 44 } dC dI base cy [.ref (base + 0), .int p1, .int p2] v Q := by
  refine Met.ofW (cc := cX9_byteOf) (maxL := 3) (ret := (some .int)) (by decide) rfl ?_
  intro p e s m args below meth c s₁ B hml hv
  obtain ⟨rfl, hP, hK⟩ := hv
  have hx := B.exec
  have hb := B.bytes
  have hr := B.returns
  have hts0 := atoms_spec (ws := (.code yX9_byteOf cX9_byteOf 3 (some .int) :: TB)) B.pre
  have hts : ∀ w ∈ TB, w.before ([.ref (base + 0), .int p1, .int p2]).toArray s = true := fun w h => hts0 w (List.mem_cons_of_mem _ h)
  have hown : s.vm.findClass RX9 = some m.cls := findClass_of_methodNamed B.named
  have hlocks := B.notSynchronized
  have hS : va_S (fun q => base ≤ q) s.heap s.heap [] := va_S.rf
  have hl := lv_entry ([.ref (base + 0), .int p1, .int p2]) (n := 3) (Nat.le_of_ble_eq_true rfl)
  rw [lg_entry_eq]
  generalize (lg_sl ([.ref (base + 0), .int p1, .int p2]) ++ List.replicate (3 - (lg_sl ([.ref (base + 0), .int p1, .int p2])).length) Slot.unset).toArray = ls at hl ⊢
  have hl : lv_has ls 3 [(0, .ref (base + 0)), (1, .int p1), (2, .int p2)] := hl
  have hret : ∀ (pc : Nat) (x : Int32) (v : VV) (H : Heap) (locs : List Loc) (ls : Array Slot), decode cX9_byteOf pc = .ok (.ireturn, 1) → Q x v → va_P (dC, dI) vwCl (Wd base cy rf v 874) H → va_S (fun q => base ≤ q) s.heap H locs → W p l e { frames := 2, cells := 0, slots := 0, locals := 44 } s m ([.ref (base + 0), .int p1, .int p2]).toArray below meth c H locs 0 0 (MQ below (va_Qi Q (Hp dC dI base cy) (fun q => base ≤ q)) ([.ref (base + 0), .int p1, .int p2]).toArray s 0 0 (fun q => base ≤ q)) (F0 m pc ls [.int x]) := fun pc x v H locs ls hd hq hP hS => W.iret (v := x) hx hb hr (fun t ht hW => ⟨⟨x, v, rfl, hq, by rw [ht]; exact hP, va_K.moved hW.alike hK⟩, hS.F ht⟩) hS.2.2 hd
  refine lv_aload_n hx hb dX9_byteOf_0 rfl (lv_at hl 0 rfl) ?_
  refine w_gR (C := RX9) (T := TX9) (N := 4) (ci := 9) hx hb hts in9 hown hK hP 0 th9.1 th9 rfl (by decide) (ch9_0 th9).1 (hts _ mf_X9_10) dX9_byteOf_1 ?_
  refine lv_iload_n hx hb dX9_byteOf_4 rfl (lv_at hl 1 rfl) ?_
  refine lv_iload_n hx hb dX9_byteOf_5 rfl (lv_at hl 2 rfl) ?_
  refine k_I (As := [.int p1, .int p2]) (rest := []) ⟨hx, hb, hml, hown, hts⟩ (t_X2_recordedByte l dC dI base cy p1 p2 v _ hw) (cwV 2 hts (gV ml_X9_96 mi_X2_recordedByte mx_X2_recordedByte mn_X2 mo_X2_recordedByte) rfl rfl rfl (by decide +kernel) ⟨by decide, by decide⟩) hK hP hS (ch9_0 th9).2 (by decide) rfl rfl hl.1 rfl (Nat.le_of_ble_eq_true rfl) dX9_byteOf_6 ⟨Nat.zero_le _, Nat.zero_le _⟩ (fun x6 v1 H locs hw hP hS => ?_)
  exact hret _ _ _ _ _ _ dX9_byteOf_9 hw hP hS
def w_X9_clock  (v : VV) (Q : Int32 → VV → Prop) : Prop :=
  ∀ x4 : Int32, x4 = v 1 10 → Q x4 v
set_option maxHeartbeats 4000000 in
set_option maxRecDepth 100000 in
/-- TransportFour.clock -/
theorem t_X9_clock (l : Launch) (dC : Nat → ClassId) (dI : Nat → Nat → Nat) (base : Nat) (cy : Nat → ClassId)  (v : VV) (Q : Int32 → VV → Prop) (hw : w_X9_clock  v Q) : CI l yX9_clock (.code yX9_clock cX9_clock 1 (some .int) :: TB) { frames := 0, cells := 0, slots := 0, locals := 0 } dC dI base cy [.ref (base + 0)] v Q := by
  refine Met.ofW (cc := cX9_clock) (maxL := 1) (ret := (some .int)) (by decide) rfl ?_
  intro p e s m args below meth c s₁ B hml hv
  obtain ⟨rfl, hP, hK⟩ := hv
  have hx := B.exec
  have hb := B.bytes
  have hr := B.returns
  have hts0 := atoms_spec (ws := (.code yX9_clock cX9_clock 1 (some .int) :: TB)) B.pre
  have hts : ∀ w ∈ TB, w.before ([.ref (base + 0)]).toArray s = true := fun w h => hts0 w (List.mem_cons_of_mem _ h)
  have hown : s.vm.findClass RX9 = some m.cls := findClass_of_methodNamed B.named
  have hlocks := B.notSynchronized
  have hS : va_S (fun q => base ≤ q) s.heap s.heap [] := va_S.rf
  have hl := lv_entry ([.ref (base + 0)]) (n := 1) (Nat.le_of_ble_eq_true rfl)
  rw [lg_entry_eq]
  generalize (lg_sl ([.ref (base + 0)]) ++ List.replicate (1 - (lg_sl ([.ref (base + 0)])).length) Slot.unset).toArray = ls at hl ⊢
  have hl : lv_has ls 1 [(0, .ref (base + 0))] := hl
  have hret : ∀ (pc : Nat) (x : Int32) (v : VV) (H : Heap) (locs : List Loc) (ls : Array Slot), decode cX9_clock pc = .ok (.ireturn, 1) → Q x v → va_P (dC, dI) vwCl (Wd base cy rf v 874) H → va_S (fun q => base ≤ q) s.heap H locs → W p l e { frames := 0, cells := 0, slots := 0, locals := 0 } s m ([.ref (base + 0)]).toArray below meth c H locs 0 0 (MQ below (va_Qi Q (Hp dC dI base cy) (fun q => base ≤ q)) ([.ref (base + 0)]).toArray s 0 0 (fun q => base ≤ q)) (F0 m pc ls [.int x]) := fun pc x v H locs ls hd hq hP hS => W.iret (v := x) hx hb hr (fun t ht hW => ⟨⟨x, v, rfl, hq, by rw [ht]; exact hP, va_K.moved hW.alike hK⟩, hS.F ht⟩) hS.2.2 hd
  refine lv_aload_n hx hb dX9_clock_0 rfl (lv_at hl 0 rfl) ?_
  refine w_gR (C := RX9) (T := TX9) (N := 4) (ci := 9) hx hb hts in9 hown hK hP 0 th9.1 th9 rfl (by decide) (ch9_0 th9).1 (hts _ mf_X9_10) dX9_clock_1 ?_
  refine w_gI (C := RX2) (T := TX2) (N := 11) (ci := 2) hx hb hts in2 hown hK hP 10 (ch9_0 th9).2.1 (ch9_0 th9).2 rfl (by decide) (hts _ mf_X9_80) dX9_clock_4 ?_
  refine lv_topi (fun x4 ex4 => ?_)
  have hw := hw x4 ex4
  exact hret _ _ _ _ _ _ dX9_clock_7 hw hP hS
