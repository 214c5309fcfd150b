def b_X5_kind_36 (o : Nat) (Q : Int32 → VV → Prop) (a1 : Int32) (s0 : Int32) (v : VV) : Prop :=
  (s0 = 0 → ∀ x50 : Int32, x50 = v (o + 1) (Int32.toNatClampNeg 1) → Q x50 v) ∧ (¬ s0 = 0 → Q a1 v)
set_option maxHeartbeats 4000000 in
set_option maxRecDepth 100000 in
theorem tb_X5_kind_36 {p : Program} {l : Launch} {e : Env} {s : State} {m : MethodId} {args : Array Value} {below : List Frame} {meth : Method} {c : Code} {QQ : State → Prop} {dC : Nat → ClassId} {dI : Nat → Nat → Nat} {base : Nat} {cy : Nat → ClassId} (hx : p.tables.exec = Jvm.exec) (hb : c.code = cX5_kind) (hml : c.maxLocals = 3) (hown : s.vm.findClass RX5 = some m.cls) (hts : ∀ w ∈ TB, w.before args s = true) (hK : va_K (dC, dI) vwCl (tyL cy) s) (o : Nat) (ho : isO 5 o) (Q : Int32 → VV → Prop) (hret : ∀ (pc : Nat) (x : Int32) (v : VV) (H : Heap) (locs : List Loc) (ls : Array Slot), decode cX5_kind pc = .ok (.ireturn, 1) → Q x v → va_P (dC, dI) vwCl (Wd base cy rf v 874) H → va_S (fun q => base ≤ q) s.heap H locs → W p l e { frames := 0, cells := 0, slots := 0, locals := 0 } s m args below meth c H locs 0 0 QQ (F0 m pc ls [.int x])) (a1 : Int32) (s0 : Int32) (v : VV) (H : Heap) (locs : List Loc) (ls : Array Slot) (hw : b_X5_kind_36 o Q  a1 s0 v) : lv_has ls 3 [(0, .ref (base + o)), (1, .int a1)] → va_P (dC, dI) vwCl (Wd base cy rf v 874) H → va_S (fun q => base ≤ q) s.heap H locs → W p l e { frames := 0, cells := 0, slots := 0, locals := 0 } s m args below meth c H locs 0 0 QQ (F0 m 36 ls [.int s0]) := by
  intro hl hP hS
  refine lv_istore_n (lv' := [(2, .int s0), (0, .ref (base + o)), (1, .int a1)]) hx hb dX5_kind_36 rfl hl (by decide) rfl (fun ls hl => ?_)
  refine lv_iload_n hx hb dX5_kind_37 rfl (lv_at hl 0 rfl) ?_
  refine lv_if_eq (tgt := 45) hx hb dX5_kind_38 (by decide) (fun c38 => ?_) (fun c38 => ?_)
  · have hw := hw.1 c38
    refine lv_aload_n hx hb dX5_kind_45 rfl (lv_at hl 1 rfl) ?_
    refine w_gR (C := RX5) (T := TX5) (N := 7) (ci := 5) hx hb hts in5 hown hK hP 0 ho.1 ho rfl (by decide) (ch5_0 ho).1 (hts _ mf_X5_9) dX5_kind_46 ?_
    refine lv_iconst (v := 1) hx hb dX5_kind_49 (by decide) ?_
    refine w_ia (N := 17) hx hb hK hP (ch5_0 ho).2.1.1 (ch5_0 ho).2.1 (ch5_0 ho).2.2 (vp_in_nI (n := 1) (by decide) (by decide)) dX5_kind_50 ?_
    refine lv_topi (fun x50 ex50 => ?_)
    have hw := hw x50 ex50
    exact hret _ _ _ _ _ _ dX5_kind_51 hw hP hS
  · have hw := hw.2 c38
    refine lv_iload_n hx hb dX5_kind_41 rfl (lv_at hl 2 rfl) ?_
    refine lv_goto (tgt := 51) hx hb dX5_kind_42 (by decide) ?_
    exact hret _ _ _ _ _ _ dX5_kind_51 hw hP hS
def b_X5_kind_31 (o : Nat) (Q : Int32 → VV → Prop) (a1 : Int32) (v : VV) : Prop :=
  b_X5_kind_36 o Q  a1 1 v
set_option maxHeartbeats 4000000 in
set_option maxRecDepth 100000 in
theorem tb_X5_kind_31 {p : Program} {l : Launch} {e : Env} {s : State} {m : MethodId} {args : Array Value} {below : List Frame} {meth : Method} {c : Code} {QQ : State → Prop} {dC : Nat → ClassId} {dI : Nat → Nat → Nat} {base : Nat} {cy : Nat → ClassId} (hx : p.tables.exec = Jvm.exec) (hb : c.code = cX5_kind) (hml : c.maxLocals = 3) (hown : s.vm.findClass RX5 = some m.cls) (hts : ∀ w ∈ TB, w.before args s = true) (hK : va_K (dC, dI) vwCl (tyL cy) s) (o : Nat) (ho : isO 5 o) (Q : Int32 → VV → Prop) (hret : ∀ (pc : Nat) (x : Int32) (v : VV) (H : Heap) (locs : List Loc) (ls : Array Slot), decode cX5_kind pc = .ok (.ireturn, 1) → Q x v → va_P (dC, dI) vwCl (Wd base cy rf v 874) H → va_S (fun q => base ≤ q) s.heap H locs → W p l e { frames := 0, cells := 0, slots := 0, locals := 0 } s m args below meth c H locs 0 0 QQ (F0 m pc ls [.int x])) (a1 : Int32) (v : VV) (H : Heap) (locs : List Loc) (ls : Array Slot) (hw : b_X5_kind_31 o Q  a1 v) : lv_has ls 3 [(0, .ref (base + o)), (1, .int a1)] → va_P (dC, dI) vwCl (Wd base cy rf v 874) H → va_S (fun q => base ≤ q) s.heap H locs → W p l e { frames := 0, cells := 0, slots := 0, locals := 0 } s m args below meth c H locs 0 0 QQ (F0 m 31 ls []) := by
  intro hl hP hS
  refine lv_iconst (v := 1) hx hb dX5_kind_31 (by decide) ?_
  refine lv_goto (tgt := 36) hx hb dX5_kind_32 (by decide) ?_
  exact tb_X5_kind_36 hx hb hml hown hts hK o ho _ hret  a1 1 v _ _ _ hw (lv_sub hl [0, 1] rfl) hP hS
def w_X5_kind (o : Nat) (v : VV) (Q : Int32 → VV → Prop) : Prop :=
  ∀ x5 : Int32, x5 = v (o + 1) (Int32.toNatClampNeg 1) → ∀ x9 : Int32, x9 = x5 &&& 240 → (x9 = 224 → b_X5_kind_31 o Q  x9 v) ∧ (¬ x9 = 224 → (x9 = 208 → b_X5_kind_31 o Q  x9 v) ∧ (¬ x9 = 208 → (¬ x9 = 96 → b_X5_kind_36 o Q  x9 0 v) ∧ (x9 = 96 → b_X5_kind_31 o Q  x9 v)))
set_option maxHeartbeats 4000000 in
set_option maxRecDepth 100000 in
/-- TransportFour$Unit.kind -/
theorem t_X5_kind (l : Launch) (dC : Nat → ClassId) (dI : Nat → Nat → Nat) (base : Nat) (cy : Nat → ClassId) (o : Nat) (ho : isO 5 o) (v : VV) (Q : Int32 → VV → Prop) (hw : w_X5_kind o v Q) : CI l yX5_kind (.code yX5_kind cX5_kind 3 (some .int) :: TB) { frames := 0, cells := 0, slots := 0, locals := 0 } dC dI base cy [.ref (base + o)] v Q := by
  refine Met.ofW (cc := cX5_kind) (maxL := 3) (ret := (some .int)) (by decide) rfl ?_
  intro p e s m args below meth c s₁ B hml hv
  obtain ⟨rfl, hP, hK⟩ := hv
  have hx := B.exec
  have hb := B.bytes
  have hr := B.returns
  have hts0 := atoms_spec (ws := (.code yX5_kind cX5_kind 3 (some .int) :: TB)) B.pre
  have hts : ∀ w ∈ TB, w.before ([.ref (base + o)]).toArray s = true := fun w h => hts0 w (List.mem_cons_of_mem _ h)
  have hown : s.vm.findClass RX5 = some m.cls := findClass_of_methodNamed B.named
  have hlocks := B.notSynchronized
  have hS : va_S (fun q => base ≤ q) s.heap s.heap [] := va_S.rf
  have hl := lv_entry ([.ref (base + o)]) (n := 3) (Nat.le_of_ble_eq_true rfl)
  rw [lg_entry_eq]
  generalize (lg_sl ([.ref (base + o)]) ++ List.replicate (3 - (lg_sl ([.ref (base + o)])).length) Slot.unset).toArray = ls at hl ⊢
  have hl : lv_has ls 3 [(0, .ref (base + o))] := hl
  have hret : ∀ (pc : Nat) (x : Int32) (v : VV) (H : Heap) (locs : List Loc) (ls : Array Slot), decode cX5_kind pc = .ok (.ireturn, 1) → Q x v → va_P (dC, dI) vwCl (Wd base cy rf v 874) H → va_S (fun q => base ≤ q) s.heap H locs → W p l e { frames := 0, cells := 0, slots := 0, locals := 0 } s m ([.ref (base + o)]).toArray below meth c H locs 0 0 (MQ below (va_Qi Q (Hp dC dI base cy) (fun q => base ≤ q)) ([.ref (base + o)]).toArray s 0 0 (fun q => base ≤ q)) (F0 m pc ls [.int x]) := fun pc x v H locs ls hd hq hP hS => W.iret (v := x) hx hb hr (fun t ht hW => ⟨⟨x, v, rfl, hq, by rw [ht]; exact hP, va_K.moved hW.alike hK⟩, hS.F ht⟩) hS.2.2 hd
  refine lv_aload_n hx hb dX5_kind_0 rfl (lv_at hl 0 rfl) ?_
  refine w_gR (C := RX5) (T := TX5) (N := 7) (ci := 5) hx hb hts in5 hown hK hP 0 ho.1 ho rfl (by decide) (ch5_0 ho).1 (hts _ mf_X5_9) dX5_kind_1 ?_
  refine lv_iconst (v := 1) hx hb dX5_kind_4 (by decide) ?_
  refine w_ia (N := 17) hx hb hK hP (ch5_0 ho).2.1.1 (ch5_0 ho).2.1 (ch5_0 ho).2.2 (vp_in_nI (n := 1) (by decide) (by decide)) dX5_kind_5 ?_
  refine lv_topi (fun x5 ex5 => ?_)
  have hw := hw x5 ex5
  refine lv_sipush (v := 240) hx hb dX5_kind_6 (by decide) ?_
  refine lv_iand hx hb dX5_kind_9 ?_
  refine lv_topi (fun x9 ex9 => ?_)
  have hw := hw x9 ex9
  refine lv_istore_n (lv' := [(1, .int x9), (0, .ref (base + o))]) hx hb dX5_kind_10 rfl hl (by decide) rfl (fun ls hl => ?_)
  refine lv_iload_n hx hb dX5_kind_11 rfl (lv_at hl 0 rfl) ?_
  refine lv_sipush (v := 224) hx hb dX5_kind_12 (by decide) ?_
  refine lv_icmp_eq (tgt := 31) hx hb dX5_kind_15 (by decide) (fun c15 => ?_) (fun c15 => ?_)
  · have hw := hw.1 c15
    exact tb_X5_kind_31 hx hb hml hown hts hK o ho _ hret  x9 v _ _ _ hw (lv_sub hl [1, 0] rfl) hP hS
  · have hw := hw.2 c15
    refine lv_iload_n hx hb dX5_kind_18 rfl (lv_at hl 0 rfl) ?_
    refine lv_sipush (v := 208) hx hb dX5_kind_19 (by decide) ?_
    refine lv_icmp_eq (tgt := 31) hx hb dX5_kind_22 (by decide) (fun c22 => ?_) (fun c22 => ?_)
    · have hw := hw.1 c22
      exact tb_X5_kind_31 hx hb hml hown hts hK o ho _ hret  x9 v _ _ _ hw (lv_sub hl [1, 0] rfl) hP hS
    · have hw := hw.2 c22
      refine lv_iload_n hx hb dX5_kind_25 rfl (lv_at hl 0 rfl) ?_
      refine lv_bipush (v := 96) hx hb dX5_kind_26 (by decide) ?_
      refine lv_icmp_ne (tgt := 35) hx hb dX5_kind_28 (by decide) (fun c28 => ?_) (fun c28 => ?_)
      · have hw := hw.1 c28
        refine lv_iconst (v := 0) hx hb dX5_kind_35 (by decide) ?_
        exact tb_X5_kind_36 hx hb hml hown hts hK o ho _ hret  x9 0 v _ _ _ hw (lv_sub hl [1, 0] rfl) hP hS
      · have hw := hw.2 c28
        exact tb_X5_kind_31 hx hb hml hown hts hK o ho _ hret  x9 v _ _ _ hw (lv_sub hl [1, 0] rfl) hP hS
def w_X5_headLengthOfKind (o : Nat) (v : VV) (Q : Int32 → VV → Prop) : Prop :=
  w_X5_kind o v (fun (x1 : Int32) (v1 : VV) => (x1 = 16 → Q 9 v1) ∧ (x1 = 32 → Q 9 v1) ∧ (x1 = 96 → Q 9 v1) ∧ (x1 = 128 → Q 11 v1) ∧ (x1 = 192 → Q 10 v1) ∧ (x1 = 208 → Q 11 v1) ∧ (x1 = 224 → Q 11 v1) ∧ (x1 = 240 → Q 9 v1) ∧ (¬ x1 = 16 → ¬ x1 = 32 → ¬ x1 = 96 → ¬ x1 = 128 → ¬ x1 = 192 → ¬ x1 = 208 → ¬ x1 = 224 → ¬ x1 = 240 → Q 0 v1))
set_option maxHeartbeats 4000000 in
set_option maxRecDepth 100000 in
/-- TransportFour$Unit.headLengthOfKind -/
theorem t_X5_headLengthOfKind (l : Launch) (dC : Nat → ClassId) (dI : Nat → Nat → Nat) (base : Nat) (cy : Nat → ClassId) (o : Nat) (ho : isO 5 o) (v : VV) (Q : Int32 → VV → Prop) (hw : w_X5_headLengthOfKind o v Q) : CI l yX5_headLengthOfKind (.code yX5_headLengthOfKind cX5_headLengthOfKind 1 (some .int) :: TB) { frames := 1, cells := 0, slots := 0, locals := 22 } dC dI base cy [.ref (base + o)] v Q := by
  refine Met.ofW (cc := cX5_headLengthOfKind) (maxL := 1) (ret := (some .int)) (by decide) rfl ?_
  intro p e s m args below meth c s₁ B hml hv
  obtain ⟨rfl, hP, hK⟩ := hv
  have hx := B.exec
  have hb := B.bytes
  have hr := B.returns
  have hts0 := atoms_spec (ws := (.code yX5_headLengthOfKind cX5_headLengthOfKind 1 (some .int) :: TB)) B.pre
  have hts : ∀ w ∈ TB, w.before ([.ref (base + o)]).toArray s = true := fun w h => hts0 w (List.mem_cons_of_mem _ h)
  have hown : s.vm.findClass RX5 = some m.cls := findClass_of_methodNamed B.named
  have hlocks := B.notSynchronized
  have hS : va_S (fun q => base ≤ q) s.heap s.heap [] := va_S.rf
  have hl := lv_entry ([.ref (base + o)]) (n := 1) (Nat.le_of_ble_eq_true rfl)
  rw [lg_entry_eq]
  generalize (lg_sl ([.ref (base + o)]) ++ List.replicate (1 - (lg_sl ([.ref (base + o)])).length) Slot.unset).toArray = ls at hl ⊢
  have hl : lv_has ls 1 [(0, .ref (base + o))] := hl
  have hret : ∀ (pc : Nat) (x : Int32) (v : VV) (H : Heap) (locs : List Loc) (ls : Array Slot), decode cX5_headLengthOfKind pc = .ok (.ireturn, 1) → Q x v → va_P (dC, dI) vwCl (Wd base cy rf v 874) H → va_S (fun q => base ≤ q) s.heap H locs → W p l e { frames := 1, cells := 0, slots := 0, locals := 22 } s m ([.ref (base + o)]).toArray below meth c H locs 0 0 (MQ below (va_Qi Q (Hp dC dI base cy) (fun q => base ≤ q)) ([.ref (base + o)]).toArray s 0 0 (fun q => base ≤ q)) (F0 m pc ls [.int x]) := fun pc x v H locs ls hd hq hP hS => W.iret (v := x) hx hb hr (fun t ht hW => ⟨⟨x, v, rfl, hq, by rw [ht]; exact hP, va_K.moved hW.alike hK⟩, hS.F ht⟩) hS.2.2 hd
  refine lv_aload_n hx hb dX5_headLengthOfKind_0 rfl (lv_at hl 0 rfl) ?_
  refine k_I (As := []) (rest := []) ⟨hx, hb, hml, hown, hts⟩ (t_X5_kind l dC dI base cy o ho v _ hw) (cwV 0 hts (gV ml_X5_23 mi_X5_kind mx_X5_kind mn_X5 mo_X5_kind) rfl rfl rfl (by decide +kernel) ⟨by decide, by decide⟩) hK hP hS ho (by decide) rfl rfl hl.1 rfl (Nat.le_of_ble_eq_true rfl) dX5_headLengthOfKind_1 ⟨Nat.zero_le _, Nat.zero_le _⟩ (fun x1 v1 H locs hw hP hS => ?_)
  by_cases z4_16 : x1 = 16
  · refine lv_lookup (tgt := 86) hx hb dX5_headLengthOfKind_4 (by decide) (by rw [z4_16]) (by decide) ?_
    have hw := hw.1 z4_16
    refine lv_bipush (v := 9) hx hb dX5_headLengthOfKind_86 (by decide) ?_
    exact hret _ _ _ _ _ _ dX5_headLengthOfKind_88 hw hP hS
  by_cases z4_32 : x1 = 32
  · refine lv_lookup (tgt := 86) hx hb dX5_headLengthOfKind_4 (by decide) (by rw [z4_32]) (by decide) ?_
    have hw := hw.2.1 z4_32
    refine lv_bipush (v := 9) hx hb dX5_headLengthOfKind_86 (by decide) ?_
    exact hret _ _ _ _ _ _ dX5_headLengthOfKind_88 hw hP hS
  by_cases z4_96 : x1 = 96
  · refine lv_lookup (tgt := 86) hx hb dX5_headLengthOfKind_4 (by decide) (by rw [z4_96]) (by decide) ?_
    have hw := hw.2.2.1 z4_96
    refine lv_bipush (v := 9) hx hb dX5_headLengthOfKind_86 (by decide) ?_
    exact hret _ _ _ _ _ _ dX5_headLengthOfKind_88 hw hP hS
  by_cases z4_128 : x1 = 128
  · refine lv_lookup (tgt := 80) hx hb dX5_headLengthOfKind_4 (by decide) (by rw [z4_128]) (by decide) ?_
    have hw := hw.2.2.2.1 z4_128
    refine lv_bipush (v := 11) hx hb dX5_headLengthOfKind_80 (by decide) ?_
    exact hret _ _ _ _ _ _ dX5_headLengthOfKind_82 hw hP hS
  by_cases z4_192 : x1 = 192
  · refine lv_lookup (tgt := 83) hx hb dX5_headLengthOfKind_4 (by decide) (by rw [z4_192]) (by decide) ?_
    have hw := hw.2.2.2.2.1 z4_192
    refine lv_bipush (v := 10) hx hb dX5_headLengthOfKind_83 (by decide) ?_
    exact hret _ _ _ _ _ _ dX5_headLengthOfKind_85 hw hP hS
  by_cases z4_208 : x1 = 208
  · refine lv_lookup (tgt := 80) hx hb dX5_headLengthOfKind_4 (by decide) (by rw [z4_208]) (by decide) ?_
    have hw := hw.2.2.2.2.2.1 z4_208
    refine lv_bipush (v := 11) hx hb dX5_headLengthOfKind_80 (by decide) ?_
    exact hret _ _ _ _ _ _ dX5_headLengthOfKind_82 hw hP hS
  by_cases z4_224 : x1 = 224
  · refine lv_lookup (tgt := 80) hx hb dX5_headLengthOfKind_4 (by decide) (by rw [z4_224]) (by decide) ?_
    have hw := hw.2.2.2.2.2.2.1 z4_224
    refine lv_bipush (v := 11) hx hb dX5_headLengthOfKind_80 (by decide) ?_
    exact hret _ _ _ _ _ _ dX5_headLengthOfKind_82 hw hP hS
  by_cases z4_240 : x1 = 240
  · refine lv_lookup (tgt := 86) hx hb dX5_headLengthOfKind_4 (by decide) (by rw [z4_240]) (by decide) ?_
    have hw := hw.2.2.2.2.2.2.2.1 z4_240
    refine lv_bipush (v := 9) hx hb dX5_headLengthOfKind_86 (by decide) ?_
    exact hret _ _ _ _ _ _ dX5_headLengthOfKind_88 hw hP hS
  have hw := hw.2.2.2.2.2.2.2.2 z4_16 z4_32 z4_96 z4_128 z4_192 z4_208 z4_224 z4_240
  refine lv_lookup (tgt := 89) (off := 85) hx hb dX5_headLengthOfKind_4 (by decide) (by exact (lv_osw z4_16 (by decide)).trans ((lv_osw z4_32 (by decide)).trans ((lv_osw z4_96 (by decide)).trans ((lv_osw z4_128 (by decide)).trans ((lv_osw z4_192 (by decide)).trans ((lv_osw z4_208 (by decide)).trans ((lv_osw z4_224 (by decide)).trans ((lv_osw z4_240 (by decide)).trans (rfl))))))))) (by decide) ?_
  refine lv_iconst (v := 0) hx hb dX5_headLengthOfKind_89 (by decide) ?_
  exact hret _ _ _ _ _ _ dX5_headLengthOfKind_90 hw hP hS
def w_X5_hasBodyOfKind (o : Nat) (p1 : Int32) (v : VV) (Q : Int32 → VV → Prop) : Prop :=
  w_X5_kind o v (fun (x1 : Int32) (v1 : VV) => (x1 = 16 → (¬ p1 = 1 → Q 0 v1) ∧ (p1 = 1 → Q 1 v1)) ∧ (x1 = 240 → (8 < p1 → Q 0 v1) ∧ (¬ 8 < p1 → Q 1 v1)) ∧ (¬ x1 = 16 → ¬ x1 = 240 → (¬ p1 = 0 → Q 0 v1) ∧ (p1 = 0 → Q 1 v1)))
set_option maxHeartbeats 4000000 in
set_option maxRecDepth 100000 in
/-- TransportFour$Unit.hasBodyOfKind -/
theorem t_X5_hasBodyOfKind (l : Launch) (dC : Nat → ClassId) (dI : Nat → Nat → Nat) (base : Nat) (cy : Nat → ClassId) (o : Nat) (ho : isO 5 o) (p1 : Int32) (v : VV) (Q : Int32 → VV → Prop) (hw : w_X5_hasBodyOfKind o p1 v Q) : CI l yX5_hasBodyOfKind (.code yX5_hasBodyOfKind cX5_hasBodyOfKind 2 (some .boolean) :: TB) { frames := 1, cells := 0, slots := 0, locals := 22 } dC dI base cy [.ref (base + o), .int p1] v Q := by
  refine Met.ofW (cc := cX5_hasBodyOfKind) (maxL := 2) (ret := (some .boolean)) (by decide) rfl ?_
  intro p e s m args below meth c s₁ B hml hv
  obtain ⟨rfl, hP, hK⟩ := hv
  have hx := B.exec
  have hb := B.bytes
  have hr := B.returns
  have hts0 := atoms_spec (ws := (.code yX5_hasBodyOfKind cX5_hasBodyOfKind 2 (some .boolean) :: TB)) B.pre
  have hts : ∀ w ∈ TB, w.before ([.ref (base + o), .int p1]).toArray s = true := fun w h => hts0 w (List.mem_cons_of_mem _ h)
  have hown : s.vm.findClass RX5 = some m.cls := findClass_of_methodNamed B.named
  have hlocks := B.notSynchronized
  have hS : va_S (fun q => base ≤ q) s.heap s.heap [] := va_S.rf
  have hl := lv_entry ([.ref (base + o), .int p1]) (n := 2) (Nat.le_of_ble_eq_true rfl)
  rw [lg_entry_eq]
  generalize (lg_sl ([.ref (base + o), .int p1]) ++ List.replicate (2 - (lg_sl ([.ref (base + o), .int p1])).length) Slot.unset).toArray = ls at hl ⊢
  have hl : lv_has ls 2 [(0, .ref (base + o)), (1, .int p1)] := hl
  have hret : ∀ (pc : Nat) (x : Int32) (v : VV) (H : Heap) (locs : List Loc) (ls : Array Slot), decode cX5_hasBodyOfKind pc = .ok (.ireturn, 1) → (x = 0 ∨ x = 1) → Q x v → va_P (dC, dI) vwCl (Wd base cy rf v 874) H → va_S (fun q => base ≤ q) s.heap H locs → W p l e { frames := 1, cells := 0, slots := 0, locals := 22 } s m ([.ref (base + o), .int p1]).toArray below meth c H locs 0 0 (MQ below (va_Qi Q (Hp dC dI base cy) (fun q => base ≤ q)) ([.ref (base + o), .int p1]).toArray s 0 0 (fun q => base ≤ q)) (F0 m pc ls [.int x]) := fun pc x v H locs ls hd hz hq hP hS => W.zret (v := x) hx hb hr (zb_n hz) (fun t ht hW => ⟨⟨x, v, rfl, hq, by rw [ht]; exact hP, va_K.moved hW.alike hK⟩, hS.F ht⟩) hS.2.2 hd
  refine lv_aload_n hx hb dX5_hasBodyOfKind_0 rfl (lv_at hl 0 rfl) ?_
  refine k_I (As := []) (rest := []) ⟨hx, hb, hml, hown, hts⟩ (t_X5_kind l dC dI base cy o ho v _ hw) (cwV 0 hts (gV ml_X5_23 mi_X5_kind mx_X5_kind mn_X5 mo_X5_kind) rfl rfl rfl (by decide +kernel) ⟨by decide, by decide⟩) hK hP hS ho (by decide) rfl rfl hl.1 rfl (Nat.le_of_ble_eq_true rfl) dX5_hasBodyOfKind_1 ⟨Nat.zero_le _, Nat.zero_le _⟩ (fun x1 v1 H locs hw hP hS => ?_)
  by_cases z4_16 : x1 = 16
  · refine lv_lookup (tgt := 44) hx hb dX5_hasBodyOfKind_4 (by decide) (by rw [z4_16]) (by decide) ?_
    have hw := hw.1 z4_16
    refine lv_iload_n hx hb dX5_hasBodyOfKind_44 rfl (lv_at hl 1 rfl) ?_
    refine lv_iconst (v := 1) hx hb dX5_hasBodyOfKind_45 (by decide) ?_
    refine lv_icmp_ne (tgt := 53) hx hb dX5_hasBodyOfKind_46 (by decide) (fun c46 => ?_) (fun c46 => ?_)
    · have hw := hw.1 c46
      refine lv_iconst (v := 0) hx hb dX5_hasBodyOfKind_53 (by decide) ?_
      exact hret _ _ _ _ _ _ dX5_hasBodyOfKind_54 (by decide) hw hP hS
    · have hw := hw.2 c46
      refine lv_iconst (v := 1) hx hb dX5_hasBodyOfKind_49 (by decide) ?_
      refine lv_goto (tgt := 54) hx hb dX5_hasBodyOfKind_50 (by decide) ?_
      exact hret _ _ _ _ _ _ dX5_hasBodyOfKind_54 (by decide) hw hP hS
  by_cases z4_240 : x1 = 240
  · refine lv_lookup (tgt := 32) hx hb dX5_hasBodyOfKind_4 (by decide) (by rw [z4_240]) (by decide) ?_
    have hw := hw.2.1 z4_240
    refine lv_iload_n hx hb dX5_hasBodyOfKind_32 rfl (lv_at hl 1 rfl) ?_
    refine lv_bipush (v := 8) hx hb dX5_hasBodyOfKind_33 (by decide) ?_
    refine lv_icmp_gt (tgt := 42) hx hb dX5_hasBodyOfKind_35 (by decide) (fun c35 => ?_) (fun c35 => ?_)
    · have hw := hw.1 c35
      refine lv_iconst (v := 0) hx hb dX5_hasBodyOfKind_42 (by decide) ?_
      exact hret _ _ _ _ _ _ dX5_hasBodyOfKind_43 (by decide) hw hP hS
    · have hw := hw.2 c35
      refine lv_iconst (v := 1) hx hb dX5_hasBodyOfKind_38 (by decide) ?_
      refine lv_goto (tgt := 43) hx hb dX5_hasBodyOfKind_39 (by decide) ?_
      exact hret _ _ _ _ _ _ dX5_hasBodyOfKind_43 (by decide) hw hP hS
  have hw := hw.2.2 z4_16 z4_240
  refine lv_lookup (tgt := 55) (off := 51) hx hb dX5_hasBodyOfKind_4 (by decide) (by exact (lv_osw z4_16 (by decide)).trans ((lv_osw z4_240 (by decide)).trans (rfl))) (by decide) ?_
  refine lv_iload_n hx hb dX5_hasBodyOfKind_55 rfl (lv_at hl 1 rfl) ?_
  refine lv_if_ne (tgt := 63) hx hb dX5_hasBodyOfKind_56 (by decide) (fun c56 => ?_) (fun c56 => ?_)
  · have hw := hw.1 c56
    refine lv_iconst (v := 0) hx hb dX5_hasBodyOfKind_63 (by decide) ?_
    exact hret _ _ _ _ _ _ dX5_hasBodyOfKind_64 (by decide) hw hP hS
  · have hw := hw.2 c56
    refine lv_iconst (v := 1) hx hb dX5_hasBodyOfKind_59 (by decide) ?_
    refine lv_goto (tgt := 64) hx hb dX5_hasBodyOfKind_60 (by decide) ?_
    exact hret _ _ _ _ _ _ dX5_hasBodyOfKind_64 (by decide) hw hP hS
def b_X5_isGood_81 (o : Nat) (Q : Int32 → VV → Prop) (a1 : Int32) (v : VV) : Prop :=
  Q 0 v
set_option maxHeartbeats 4000000 in
set_option maxRecDepth 100000 in
theorem tb_X5_isGood_81 {p : Program} {l : Launch} {e : Env} {s : State} {m : MethodId} {args : Array Value} {below : List Frame} {meth : Method} {c : Code} {QQ : State → Prop} {dC : Nat → ClassId} {dI : Nat → Nat → Nat} {base : Nat} {cy : Nat → ClassId} (hx : p.tables.exec = Jvm.exec) (hb : c.code = cX5_isGood) (hml : c.maxLocals = 2) (hown : s.vm.findClass RX5 = some m.cls) (hts : ∀ w ∈ TB, w.before args s = true) (hK : va_K (dC, dI) vwCl (tyL cy) s) (o : Nat) (ho : isO 5 o) (Q : Int32 → VV → Prop) (hret : ∀ (pc : Nat) (x : Int32) (v : VV) (H : Heap) (locs : List Loc) (ls : Array Slot), decode cX5_isGood pc = .ok (.ireturn, 1) → (x = 0 ∨ x = 1) → Q x v → va_P (dC, dI) vwCl (Wd base cy rf v 874) H → va_S (fun q => base ≤ q) s.heap H locs → W p l e { frames := 2, cells := 0, slots := 0, locals := 43 } s m args below meth c H locs 0 0 QQ (F0 m pc ls [.int x])) (a1 : Int32) (v : VV) (H : Heap) (locs : List Loc) (ls : Array Slot) (hw : b_X5_isGood_81 o Q  a1 v) : lv_has ls 2 [(0, .ref (base + o)), (1, .int a1)] → va_P (dC, dI) vwCl (Wd base cy rf v 874) H → va_S (fun q => base ≤ q) s.heap H locs → W p l e { frames := 2, cells := 0, slots := 0, locals := 43 } s m args below meth c H locs 0 0 QQ (F0 m 81 ls []) := by
  intro hl hP hS
  refine lv_iconst (v := 0) hx hb dX5_isGood_81 (by decide) ?_
  exact hret _ _ _ _ _ _ dX5_isGood_82 (by decide) hw hP hS
def b_X5_isGood_57 (o : Nat) (Q : Int32 → VV → Prop) (a1 : Int32) (v : VV) : Prop :=
  Q 0 v
set_option maxHeartbeats 4000000 in
set_option maxRecDepth 100000 in
theorem tb_X5_isGood_57 {p : Program} {l : Launch} {e : Env} {s : State} {m : MethodId} {args : Array Value} {below : List Frame} {meth : Method} {c : Code} {QQ : State → Prop} {dC : Nat → ClassId} {dI : Nat → Nat → Nat} {base : Nat} {cy : Nat → ClassId} (hx : p.tables.exec = Jvm.exec) (hb : c.code = cX5_isGood) (hml : c.maxLocals = 2) (hown : s.vm.findClass RX5 = some m.cls) (hts : ∀ w ∈ TB, w.before args s = true) (hK : va_K (dC, dI) vwCl (tyL cy) s) (o : Nat) (ho : isO 5 o) (Q : Int32 → VV → Prop) (hret : ∀ (pc : Nat) (x : Int32) (v : VV) (H : Heap) (locs : List Loc) (ls : Array Slot), decode cX5_isGood pc = .ok (.ireturn, 1) → (x = 0 ∨ x = 1) → Q x v → va_P (dC, dI) vwCl (Wd base cy rf v 874) H → va_S (fun q => base ≤ q) s.heap H locs → W p l e { frames := 2, cells := 0, slots := 0, locals := 43 } s m args below meth c H locs 0 0 QQ (F0 m pc ls [.int x])) (a1 : Int32) (v : VV) (H : Heap) (locs : List Loc) (ls : Array Slot) (hw : b_X5_isGood_57 o Q  a1 v) : lv_has ls 2 [(0, .ref (base + o)), (1, .int a1)] → va_P (dC, dI) vwCl (Wd base cy rf v 874) H → va_S (fun q => base ≤ q) s.heap H locs → W p l e { frames := 2, cells := 0, slots := 0, locals := 43 } s m args below meth c H locs 0 0 QQ (F0 m 57 ls []) := by
  intro hl hP hS
  refine lv_iconst (v := 0) hx hb dX5_isGood_57 (by decide) ?_
  exact hret _ _ _ _ _ _ dX5_isGood_58 (by decide) hw hP hS
def b_X5_isGood_29 (o : Nat) (Q : Int32 → VV → Prop) (a1 : Int32) (v : VV) : Prop :=
  Q 0 v
set_option maxHeartbeats 4000000 in
set_option maxRecDepth 100000 in
theorem tb_X5_isGood_29 {p : Program} {l : Launch} {e : Env} {s : State} {m : MethodId} {args : Array Value} {below : List Frame} {meth : Method} {c : Code} {QQ : State → Prop} {dC : Nat → ClassId} {dI : Nat → Nat → Nat} {base : Nat} {cy : Nat → ClassId} (hx : p.tables.exec = Jvm.exec) (hb : c.code = cX5_isGood) (hml : c.maxLocals = 2) (hown : s.vm.findClass RX5 = some m.cls) (hts : ∀ w ∈ TB, w.before args s = true) (hK : va_K (dC, dI) vwCl (tyL cy) s) (o : Nat) (ho : isO 5 o) (Q : Int32 → VV → Prop) (hret : ∀ (pc : Nat) (x : Int32) (v : VV) (H : Heap) (locs : List Loc) (ls : Array Slot), decode cX5_isGood pc = .ok (.ireturn, 1) → (x = 0 ∨ x = 1) → Q x v → va_P (dC, dI) vwCl (Wd base cy rf v 874) H → va_S (fun q => base ≤ q) s.heap H locs → W p l e { frames := 2, cells := 0, slots := 0, locals := 43 } s m args below meth c H locs 0 0 QQ (F0 m pc ls [.int x])) (a1 : Int32) (v : VV) (H : Heap) (locs : List Loc) (ls : Array Slot) (hw : b_X5_isGood_29 o Q  a1 v) : lv_has ls 2 [(0, .ref (base + o)), (1, .int a1)] → va_P (dC, dI) vwCl (Wd base cy rf v 874) H → va_S (fun q => base ≤ q) s.heap H locs → W p l e { frames := 2, cells := 0, slots := 0, locals := 43 } s m args below meth c H locs 0 0 QQ (F0 m 29 ls []) := by
  intro hl hP hS
  refine lv_iconst (v := 0) hx hb dX5_isGood_29 (by decide) ?_
  exact hret _ _ _ _ _ _ dX5_isGood_30 (by decide) hw hP hS
def w_X5_isGood (o : Nat) (v : VV) (Q : Int32 → VV → Prop) : Prop :=
  w_X5_headLengthOfKind o v (fun (x1 : Int32) (v1 : VV) => (x1 = 0 → b_X5_isGood_29 o Q  x1 v1) ∧ (¬ x1 = 0 → ∀ x10 : Int32, x10 = v1 o 1 → (x10 < x1 → b_X5_isGood_29 o Q  x1 v1) ∧ (¬ x10 < x1 → ∀ x22 : Int32, x22 = v1 (o + 1) (Int32.toNatClampNeg 0) → ∀ x25 : Int32, x25 = x1 - 1 → (x22 = x25 → ∀ x37 : Int32, x37 = x1 - 4 → vp_in x37 17 ∧ ∀ x38 : Int32, x38 = v1 (o + 1) (Int32.toNatClampNeg x37) → (¬ x38 = 195 → b_X5_isGood_57 o Q  x1 v1) ∧ (x38 = 195 → ∀ x51 : Int32, x51 = x1 - 3 → vp_in x51 17 ∧ ∀ x52 : Int32, x52 = v1 (o + 1) (Int32.toNatClampNeg x51) → (x52 = 2 → w_X5_plainSum o v1 (fun (x60 : Int32) (v4 : VV) => ∀ x66 : Int32, x66 = x60 - x60 / 255 * 255 → (¬ x66 = 0 → b_X5_isGood_81 o Q  x1 v4) ∧ (x66 = 0 → w_X5_weightedSum o v4 (fun (x71 : Int32) (v5 : VV) => ∀ x77 : Int32, x77 = x71 - x71 / 255 * 255 → (x77 = 0 → ∀ x85 : Int32, x85 = v5 o 1 → ∀ x89 : Int32, x89 = x85 - x1 → w_X5_hasBodyOfKind o x89 v5 (fun (x90 : Int32) (v6 : VV) => (x90 = 0 ∨ x90 = 1) ∧ Q x90 v6)) ∧ (¬ x77 = 0 → b_X5_isGood_81 o Q  x1 v5))))) ∧ (¬ x52 = 2 → b_X5_isGood_57 o Q  x1 v1))) ∧ (¬ x22 = x25 → b_X5_isGood_29 o Q  x1 v1))))
set_option maxHeartbeats 4000000 in
set_option maxRecDepth 100000 in
/-- TransportFour$Unit.isGood -/
theorem t_X5_isGood (l : Launch) (dC : Nat → ClassId) (dI : Nat → Nat → Nat) (base : Nat) (cy : Nat → ClassId) (o : Nat) (ho : isO 5 o) (v : VV) (Q : Int32 → VV → Prop) (hw : w_X5_isGood o v Q) : CI l yX5_isGood (.code yX5_isGood cX5_isGood 2 (some .boolean) :: TB) { frames := 2, cells := 0, slots := 0, locals := 43 } dC dI base cy [.ref (base + o)] v Q := by
  refine Met.ofW (cc := cX5_isGood) (maxL := 2) (ret := (some .boolean)) (by decide) rfl ?_
  intro p e s m args below meth c s₁ B hml hv
  obtain ⟨rfl, hP, hK⟩ := hv
  have hx := B.exec
  have hb := B.bytes
  have hr := B.returns
  have hts0 := atoms_spec (ws := (.code yX5_isGood cX5_isGood 2 (some .boolean) :: TB)) B.pre
  have hts : ∀ w ∈ TB, w.before ([.ref (base + o)]).toArray s = true := fun w h => hts0 w (List.mem_cons_of_mem _ h)
  have hown : s.vm.findClass RX5 = some m.cls := findClass_of_methodNamed B.named
  have hlocks := B.notSynchronized
  have hS : va_S (fun q => base ≤ q) s.heap s.heap [] := va_S.rf
  have hl := lv_entry ([.ref (base + o)]) (n := 2) (Nat.le_of_ble_eq_true rfl)
  rw [lg_entry_eq]
  generalize (lg_sl ([.ref (base + o)]) ++ List.replicate (2 - (lg_sl ([.ref (base + o)])).length) Slot.unset).toArray = ls at hl ⊢
  have hl : lv_has ls 2 [(0, .ref (base + o))] := hl
  have hret : ∀ (pc : Nat) (x : Int32) (v : VV) (H : Heap) (locs : List Loc) (ls : Array Slot), decode cX5_isGood pc = .ok (.ireturn, 1) → (x = 0 ∨ x = 1) → Q x v → va_P (dC, dI) vwCl (Wd base cy rf v 874) H → va_S (fun q => base ≤ q) s.heap H locs → W p l e { frames := 2, cells := 0, slots := 0, locals := 43 } s m ([.ref (base + o)]).toArray below meth c H locs 0 0 (MQ below (va_Qi Q (Hp dC dI base cy) (fun q => base ≤ q)) ([.ref (base + o)]).toArray s 0 0 (fun q => base ≤ q)) (F0 m pc ls [.int x]) := fun pc x v H locs ls hd hz hq hP hS => W.zret (v := x) hx hb hr (zb_n hz) (fun t ht hW => ⟨⟨x, v, rfl, hq, by rw [ht]; exact hP, va_K.moved hW.alike hK⟩, hS.F ht⟩) hS.2.2 hd
  refine lv_aload_n hx hb dX5_isGood_0 rfl (lv_at hl 0 rfl) ?_
  refine k_I (As := []) (rest := []) ⟨hx, hb, hml, hown, hts⟩ (t_X5_headLengthOfKind l dC dI base cy o ho v _ hw) (cwV 0 hts (gV ml_X5_27 mi_X5_headLengthOfKind mx_X5_headLengthOfKind mn_X5 mo_X5_headLengthOfKind) rfl rfl rfl (by decide +kernel) ⟨by decide, by decide⟩) hK hP hS ho (by decide) rfl rfl hl.1 rfl (Nat.le_of_ble_eq_true rfl) dX5_isGood_1 ⟨Nat.zero_le _, Nat.zero_le _⟩ (fun x1 v1 H locs hw hP hS => ?_)
  refine lv_istore_n (lv' := [(1, .int x1), (0, .ref (base + o))]) hx hb dX5_isGood_4 rfl hl (by decide) rfl (fun ls hl => ?_)
  refine lv_iload_n hx hb dX5_isGood_5 rfl (lv_at hl 0 rfl) ?_
  refine lv_if_eq (tgt := 29) hx hb dX5_isGood_6 (by decide) (fun c6 => ?_) (fun c6 => ?_)
  · have hw := hw.1 c6
    exact tb_X5_isGood_29 hx hb hml hown hts hK o ho _ hret  x1 v1 _ _ _ hw (lv_sub hl [1, 0] rfl) hP hS
  · have hw := hw.2 c6
    refine lv_aload_n hx hb dX5_isGood_9 rfl (lv_at hl 1 rfl) ?_
    refine w_gI (C := RX5) (T := TX5) (N := 7) (ci := 5) hx hb hts in5 hown hK hP 1 ho.1 ho rfl (by decide) (hts _ mf_X5_19) dX5_isGood_10 ?_
    refine lv_topi (fun x10 ex10 => ?_)
    have hw := hw x10 ex10
    refine lv_iload_n hx hb dX5_isGood_13 rfl (lv_at hl 0 rfl) ?_
    refine lv_icmp_lt (tgt := 29) hx hb dX5_isGood_14 (by decide) (fun c14 => ?_) (fun c14 => ?_)
    · have hw := hw.1 c14
      exact tb_X5_isGood_29 hx hb hml hown hts hK o ho _ hret  x1 v1 _ _ _ hw (lv_sub hl [1, 0] rfl) hP hS
    · have hw := hw.2 c14
      refine lv_aload_n hx hb dX5_isGood_17 rfl (lv_at hl 1 rfl) ?_
      refine w_gR (C := RX5) (T := TX5) (N := 7) (ci := 5) hx hb hts in5 hown hK hP 0 ho.1 ho rfl (by decide) (ch5_0 ho).1 (hts _ mf_X5_9) dX5_isGood_18 ?_
      refine lv_iconst (v := 0) hx hb dX5_isGood_21 (by decide) ?_
      refine w_ia (N := 17) hx hb hK hP (ch5_0 ho).2.1.1 (ch5_0 ho).2.1 (ch5_0 ho).2.2 (vp_in_nI (n := 0) (by decide) (by decide)) dX5_isGood_22 ?_
      refine lv_topi (fun x22 ex22 => ?_)
      have hw := hw x22 ex22
      refine lv_iload_n hx hb dX5_isGood_23 rfl (lv_at hl 0 rfl) ?_
      refine lv_iconst (v := 1) hx hb dX5_isGood_24 (by decide) ?_
      refine lv_isub hx hb dX5_isGood_25 ?_
      refine lv_topi (fun x25 ex25 => ?_)
      have hw := hw x25 ex25
      refine lv_icmp_eq (tgt := 31) hx hb dX5_isGood_26 (by decide) (fun c26 => ?_) (fun c26 => ?_)
      · have hw := hw.1 c26
        refine lv_aload_n hx hb dX5_isGood_31 rfl (lv_at hl 1 rfl) ?_
        refine w_gR (C := RX5) (T := TX5) (N := 7) (ci := 5) hx hb hts in5 hown hK hP 0 ho.1 ho rfl (by decide) (ch5_0 ho).1 (hts _ mf_X5_9) dX5_isGood_32 ?_
        refine lv_iload_n hx hb dX5_isGood_35 rfl (lv_at hl 0 rfl) ?_
        refine lv_iconst (v := 4) hx hb dX5_isGood_36 (by decide) ?_
        refine lv_isub hx hb dX5_isGood_37 ?_
        refine lv_topi (fun x37 ex37 => ?_)
        have hw := hw x37 ex37
        obtain ⟨hi2, hw⟩ := hw
        refine w_ia (N := 17) hx hb hK hP (ch5_0 ho).2.1.1 (ch5_0 ho).2.1 (ch5_0 ho).2.2 hi2 dX5_isGood_38 ?_
        refine lv_topi (fun x38 ex38 => ?_)
        have hw := hw x38 ex38
        refine lv_sipush (v := 195) hx hb dX5_isGood_39 (by decide) ?_
        refine lv_icmp_ne (tgt := 57) hx hb dX5_isGood_42 (by decide) (fun c42 => ?_) (fun c42 => ?_)
        · have hw := hw.1 c42
          exact tb_X5_isGood_57 hx hb hml hown hts hK o ho _ hret  x1 v1 _ _ _ hw (lv_sub hl [1, 0] rfl) hP hS
        · have hw := hw.2 c42
          refine lv_aload_n hx hb dX5_isGood_45 rfl (lv_at hl 1 rfl) ?_
          refine w_gR (C := RX5) (T := TX5) (N := 7) (ci := 5) hx hb hts in5 hown hK hP 0 ho.1 ho rfl (by decide) (ch5_0 ho).1 (hts _ mf_X5_9) dX5_isGood_46 ?_
          refine lv_iload_n hx hb dX5_isGood_49 rfl (lv_at hl 0 rfl) ?_
          refine lv_iconst (v := 3) hx hb dX5_isGood_50 (by decide) ?_
          refine lv_isub hx hb dX5_isGood_51 ?_
          refine lv_topi (fun x51 ex51 => ?_)
          have hw := hw x51 ex51
          obtain ⟨hi3, hw⟩ := hw
          refine w_ia (N := 17) hx hb hK hP (ch5_0 ho).2.1.1 (ch5_0 ho).2.1 (ch5_0 ho).2.2 hi3 dX5_isGood_52 ?_
          refine lv_topi (fun x52 ex52 => ?_)
          have hw := hw x52 ex52
          refine lv_iconst (v := 2) hx hb dX5_isGood_53 (by decide) ?_
          refine lv_icmp_eq (tgt := 59) hx hb dX5_isGood_54 (by decide) (fun c54 => ?_) (fun c54 => ?_)
          · have hw := hw.1 c54
            refine lv_aload_n hx hb dX5_isGood_59 rfl (lv_at hl 1 rfl) ?_
            refine k_I (As := []) (rest := []) ⟨hx, hb, hml, hown, hts⟩ (t_X5_plainSum l dC dI base cy o ho v1 _ hw) (cwV 0 hts (gV ml_X5_30 mi_X5_plainSum mx_X5_plainSum mn_X5 mo_X5_plainSum) rfl rfl rfl (by decide +kernel) ⟨by decide, by decide⟩) hK hP hS ho (by decide) rfl rfl hl.1 rfl (Nat.le_of_ble_eq_true rfl) dX5_isGood_60 ⟨Nat.zero_le _, Nat.zero_le _⟩ (fun x60 v4 H locs hw hP hS => ?_)
            refine lv_sipush (v := 255) hx hb dX5_isGood_63 (by decide) ?_
            refine lv_irem hx hb dX5_isGood_66 (by decide) ?_
            refine lv_topi (fun x66 ex66 => ?_)
            have hw := hw x66 ex66
            refine lv_if_ne (tgt := 81) hx hb dX5_isGood_67 (by decide) (fun c67 => ?_) (fun c67 => ?_)
            · have hw := hw.1 c67
              exact tb_X5_isGood_81 hx hb hml hown hts hK o ho _ hret  x1 v4 _ _ _ hw (lv_sub hl [1, 0] rfl) hP hS
            · have hw := hw.2 c67
              refine lv_aload_n hx hb dX5_isGood_70 rfl (lv_at hl 1 rfl) ?_
              refine k_I (As := []) (rest := []) ⟨hx, hb, hml, hown, hts⟩ (t_X5_weightedSum l dC dI base cy o ho v4 _ hw) (cwV 0 hts (gV ml_X5_33 mi_X5_weightedSum mx_X5_weightedSum mn_X5 mo_X5_weightedSum) rfl rfl rfl (by decide +kernel) ⟨by decide, by decide⟩) hK hP hS ho (by decide) rfl rfl hl.1 rfl (Nat.le_of_ble_eq_true rfl) dX5_isGood_71 ⟨Nat.zero_le _, Nat.zero_le _⟩ (fun x71 v5 H locs hw hP hS => ?_)
              refine lv_sipush (v := 255) hx hb dX5_isGood_74 (by decide) ?_
              refine lv_irem hx hb dX5_isGood_77 (by decide) ?_
              refine lv_topi (fun x77 ex77 => ?_)
              have hw := hw x77 ex77
              refine lv_if_eq (tgt := 83) hx hb dX5_isGood_78 (by decide) (fun c78 => ?_) (fun c78 => ?_)
              · have hw := hw.1 c78
                refine lv_aload_n hx hb dX5_isGood_83 rfl (lv_at hl 1 rfl) ?_
                refine lv_aload_n hx hb dX5_isGood_84 rfl (lv_at hl 1 rfl) ?_
                refine w_gI (C := RX5) (T := TX5) (N := 7) (ci := 5) hx hb hts in5 hown hK hP 1 ho.1 ho rfl (by decide) (hts _ mf_X5_19) dX5_isGood_85 ?_
                refine lv_topi (fun x85 ex85 => ?_)
                have hw := hw x85 ex85
                refine lv_iload_n hx hb dX5_isGood_88 rfl (lv_at hl 0 rfl) ?_
                refine lv_isub hx hb dX5_isGood_89 ?_
                refine lv_topi (fun x89 ex89 => ?_)
                have hw := hw x89 ex89
                refine k_I (As := [.int x89]) (rest := []) ⟨hx, hb, hml, hown, hts⟩ (t_X5_hasBodyOfKind l dC dI base cy o ho x89 v5 _ hw) (cwV 1 hts (gV ml_X5_36 mi_X5_hasBodyOfKind mx_X5_hasBodyOfKind mn_X5 mo_X5_hasBodyOfKind) rfl rfl rfl (by decide +kernel) ⟨by decide, by decide⟩) hK hP hS ho (by decide) rfl rfl hl.1 rfl (Nat.le_of_ble_eq_true rfl) dX5_isGood_90 ⟨Nat.zero_le _, Nat.zero_le _⟩ (fun x90 v6 H locs hw hP hS => ?_)
                exact hret _ _ _ _ _ _ dX5_isGood_93 hw.1 hw.2 hP hS
              · have hw := hw.2 c78
                exact tb_X5_isGood_81 hx hb hml hown hts hK o ho _ hret  x1 v5 _ _ _ hw (lv_sub hl [1, 0] rfl) hP hS
          · have hw := hw.2 c54
            exact tb_X5_isGood_57 hx hb hml hown hts hK o ho _ hret  x1 v1 _ _ _ hw (lv_sub hl [1, 0] rfl) hP hS
      · have hw := hw.2 c26
        exact tb_X5_isGood_29 hx hb hml hown hts hK o ho _ hret  x1 v1 _ _ _ hw (lv_sub hl [1, 0] rfl) hP hS
def w_X5_pairAt (o : Nat) (p1 : Int32) (v : VV) (Q : Int32 → VV → Prop) : Prop :=
  vp_in p1 17 ∧ ∀ x5 : Int32, x5 = v (o + 1) (Int32.toNatClampNeg p1) → ∀ x9 : Int32, x9 = x5 * 256 → ∀ x16 : Int32, x16 = p1 + 1 → vp_in x16 17 ∧ ∀ x17 : Int32, x17 = v (o + 1) (Int32.toNatClampNeg x16) → ∀ x18 : Int32, x18 = x9 + x17 → Q x18 v
set_option maxHeartbeats 4000000 in
set_option maxRecDepth 100000 in
/-- TransportFour$Unit.pairAt -/
theorem t_X5_pairAt (l : Launch) (dC : Nat → ClassId) (dI : Nat → Nat → Nat) (base : Nat) (cy : Nat → ClassId) (o : Nat) (ho : isO 5 o) (p1 : Int32) (v : VV) (Q : Int32 → VV → Prop) (hw : w_X5_pairAt o p1 v Q) : CI l yX5_pairAt (.code yX5_pairAt cX5_pairAt 2 (some .int) :: TB) { frames := 0, cells := 0, slots := 0, locals := 0 } dC dI base cy [.ref (base + o), .int p1] v Q := by
  refine Met.ofW (cc := cX5_pairAt) (maxL := 2) (ret := (some .int)) (by decide) rfl ?_
  intro p e s m args below meth c s₁ B hml hv
  obtain ⟨rfl, hP, hK⟩ := hv
  have hx := B.exec
  have hb := B.bytes
  have hr := B.returns
  have hts0 := atoms_spec (ws := (.code yX5_pairAt cX5_pairAt 2 (some .int) :: TB)) B.pre
  have hts : ∀ w ∈ TB, w.before ([.ref (base + o), .int p1]).toArray s = true := fun w h => hts0 w (List.mem_cons_of_mem _ h)
  have hown : s.vm.findClass RX5 = some m.cls := findClass_of_methodNamed B.named
  have hlocks := B.notSynchronized
  have hS : va_S (fun q => base ≤ q) s.heap s.heap [] := va_S.rf
  have hl := lv_entry ([.ref (base + o), .int p1]) (n := 2) (Nat.le_of_ble_eq_true rfl)
  rw [lg_entry_eq]
  generalize (lg_sl ([.ref (base + o), .int p1]) ++ List.replicate (2 - (lg_sl ([.ref (base + o), .int p1])).length) Slot.unset).toArray = ls at hl ⊢
  have hl : lv_has ls 2 [(0, .ref (base + o)), (1, .int p1)] := hl
  have hret : ∀ (pc : Nat) (x : Int32) (v : VV) (H : Heap) (locs : List Loc) (ls : Array Slot), decode cX5_pairAt pc = .ok (.ireturn, 1) → Q x v → va_P (dC, dI) vwCl (Wd base cy rf v 874) H → va_S (fun q => base ≤ q) s.heap H locs → W p l e { frames := 0, cells := 0, slots := 0, locals := 0 } s m ([.ref (base + o), .int p1]).toArray below meth c H locs 0 0 (MQ below (va_Qi Q (Hp dC dI base cy) (fun q => base ≤ q)) ([.ref (base + o), .int p1]).toArray s 0 0 (fun q => base ≤ q)) (F0 m pc ls [.int x]) := fun pc x v H locs ls hd hq hP hS => W.iret (v := x) hx hb hr (fun t ht hW => ⟨⟨x, v, rfl, hq, by rw [ht]; exact hP, va_K.moved hW.alike hK⟩, hS.F ht⟩) hS.2.2 hd
  refine lv_aload_n hx hb dX5_pairAt_0 rfl (lv_at hl 0 rfl) ?_
  refine w_gR (C := RX5) (T := TX5) (N := 7) (ci := 5) hx hb hts in5 hown hK hP 0 ho.1 ho rfl (by decide) (ch5_0 ho).1 (hts _ mf_X5_9) dX5_pairAt_1 ?_
  refine lv_iload_n hx hb dX5_pairAt_4 rfl (lv_at hl 1 rfl) ?_
  obtain ⟨hi1, hw⟩ := hw
  refine w_ia (N := 17) hx hb hK hP (ch5_0 ho).2.1.1 (ch5_0 ho).2.1 (ch5_0 ho).2.2 hi1 dX5_pairAt_5 ?_
  refine lv_topi (fun x5 ex5 => ?_)
  have hw := hw x5 ex5
  refine lv_sipush (v := 256) hx hb dX5_pairAt_6 (by decide) ?_
  refine lv_imul hx hb dX5_pairAt_9 ?_
  refine lv_topi (fun x9 ex9 => ?_)
  have hw := hw x9 ex9
  refine lv_aload_n hx hb dX5_pairAt_10 rfl (lv_at hl 0 rfl) ?_
  refine w_gR (C := RX5) (T := TX5) (N := 7) (ci := 5) hx hb hts in5 hown hK hP 0 ho.1 ho rfl (by decide) (ch5_0 ho).1 (hts _ mf_X5_9) dX5_pairAt_11 ?_
  refine lv_iload_n hx hb dX5_pairAt_14 rfl (lv_at hl 1 rfl) ?_
  refine lv_iconst (v := 1) hx hb dX5_pairAt_15 (by decide) ?_
  refine lv_iadd hx hb dX5_pairAt_16 ?_
  refine lv_topi (fun x16 ex16 => ?_)
  have hw := hw x16 ex16
  obtain ⟨hi2, hw⟩ := hw
  refine w_ia (N := 17) hx hb hK hP (ch5_0 ho).2.1.1 (ch5_0 ho).2.1 (ch5_0 ho).2.2 hi2 dX5_pairAt_17 ?_
  refine lv_topi (fun x17 ex17 => ?_)
  have hw := hw x17 ex17
  refine lv_iadd hx hb dX5_pairAt_18 ?_
  refine lv_topi (fun x18 ex18 => ?_)
  have hw := hw x18 ex18
  exact hret _ _ _ _ _ _ dX5_pairAt_19 hw hP hS
def w_X5_from (o : Nat) (v : VV) (Q : Int32 → VV → Prop) : Prop :=
  w_X5_pairAt o 4 v (fun (x2 : Int32) (v1 : VV) => Q x2 v1)
set_option maxHeartbeats 4000000 in
set_option maxRecDepth 100000 in
/-- TransportFour$Unit.from -/
theorem t_X5_from (l : Launch) (dC : Nat → ClassId) (dI : Nat → Nat → Nat) (base : Nat) (cy : Nat → ClassId) (o : Nat) (ho : isO 5 o) (v : VV) (Q : Int32 → VV → Prop) (hw : w_X5_from o v Q) : CI l yX5_from (.code yX5_from cX5_from 1 (some .int) :: TB) { frames := 1, cells := 0, slots := 0, locals := 21 } dC dI base cy [.ref (base + o)] v Q := by
  refine Met.ofW (cc := cX5_from) (maxL := 1) (ret := (some .int)) (by decide) rfl ?_
  intro p e s m args below meth c s₁ B hml hv
  obtain ⟨rfl, hP, hK⟩ := hv
  have hx := B.exec
  have hb := B.bytes
  have hr := B.returns
  have hts0 := atoms_spec (ws := (.code yX5_from cX5_from 1 (some .int) :: TB)) B.pre
  have hts : ∀ w ∈ TB, w.before ([.ref (base + o)]).toArray s = true := fun w h => hts0 w (List.mem_cons_of_mem _ h)
  have hown : s.vm.findClass RX5 = some m.cls := findClass_of_methodNamed B.named
  have hlocks := B.notSynchronized
  have hS : va_S (fun q => base ≤ q) s.heap s.heap [] := va_S.rf
  have hl := lv_entry ([.ref (base + o)]) (n := 1) (Nat.le_of_ble_eq_true rfl)
  rw [lg_entry_eq]
  generalize (lg_sl ([.ref (base + o)]) ++ List.replicate (1 - (lg_sl ([.ref (base + o)])).length) Slot.unset).toArray = ls at hl ⊢
  have hl : lv_has ls 1 [(0, .ref (base + o))] := hl
  have hret : ∀ (pc : Nat) (x : Int32) (v : VV) (H : Heap) (locs : List Loc) (ls : Array Slot), decode cX5_from pc = .ok (.ireturn, 1) → Q x v → va_P (dC, dI) vwCl (Wd base cy rf v 874) H → va_S (fun q => base ≤ q) s.heap H locs → W p l e { frames := 1, cells := 0, slots := 0, locals := 21 } s m ([.ref (base + o)]).toArray below meth c H locs 0 0 (MQ below (va_Qi Q (Hp dC dI base cy) (fun q => base ≤ q)) ([.ref (base + o)]).toArray s 0 0 (fun q => base ≤ q)) (F0 m pc ls [.int x]) := fun pc x v H locs ls hd hq hP hS => W.iret (v := x) hx hb hr (fun t ht hW => ⟨⟨x, v, rfl, hq, by rw [ht]; exact hP, va_K.moved hW.alike hK⟩, hS.F ht⟩) hS.2.2 hd
  refine lv_aload_n hx hb dX5_from_0 rfl (lv_at hl 0 rfl) ?_
  refine lv_iconst (v := 4) hx hb dX5_from_1 (by decide) ?_
  refine k_I (As := [.int 4]) (rest := []) ⟨hx, hb, hml, hown, hts⟩ (t_X5_pairAt l dC dI base cy o ho 4 v _ hw) (cwV 1 hts (gV ml_X5_40 mi_X5_pairAt mx_X5_pairAt mn_X5 mo_X5_pairAt) rfl rfl rfl (by decide +kernel) ⟨by decide, by decide⟩) hK hP hS ho (by decide) rfl rfl hl.1 rfl (Nat.le_of_ble_eq_true rfl) dX5_from_2 ⟨Nat.zero_le _, Nat.zero_le _⟩ (fun x2 v1 H locs hw hP hS => ?_)
  exact hret _ _ _ _ _ _ dX5_from_5 hw hP hS
def w_X5_credit (o : Nat) (v : VV) (Q : Int32 → VV → Prop) : Prop :=
  ∀ x5 : Int32, x5 = v (o + 1) (Int32.toNatClampNeg 1) → ∀ x8 : Int32, x8 = x5 &&& 15 → Q x8 v
set_option maxHeartbeats 4000000 in
set_option maxRecDepth 100000 in
/-- TransportFour$Unit.credit -/
theorem t_X5_credit (l : Launch) (dC : Nat → ClassId) (dI : Nat → Nat → Nat) (base : Nat) (cy : Nat → ClassId) (o : Nat) (ho : isO 5 o) (v : VV) (Q : Int32 → VV → Prop) (hw : w_X5_credit o v Q) : CI l yX5_credit (.code yX5_credit cX5_credit 1 (some .int) :: TB) { frames := 0, cells := 0, slots := 0, locals := 0 } dC dI base cy [.ref (base + o)] v Q := by
  refine Met.ofW (cc := cX5_credit) (maxL := 1) (ret := (some .int)) (by decide) rfl ?_
  intro p e s m args below meth c s₁ B hml hv
  obtain ⟨rfl, hP, hK⟩ := hv
  have hx := B.exec
  have hb := B.bytes
  have hr := B.returns
  have hts0 := atoms_spec (ws := (.code yX5_credit cX5_credit 1 (some .int) :: TB)) B.pre
  have hts : ∀ w ∈ TB, w.before ([.ref (base + o)]).toArray s = true := fun w h => hts0 w (List.mem_cons_of_mem _ h)
  have hown : s.vm.findClass RX5 = some m.cls := findClass_of_methodNamed B.named
  have hlocks := B.notSynchronized
  have hS : va_S (fun q => base ≤ q) s.heap s.heap [] := va_S.rf
  have hl := lv_entry ([.ref (base + o)]) (n := 1) (Nat.le_of_ble_eq_true rfl)
  rw [lg_entry_eq]
  generalize (lg_sl ([.ref (base + o)]) ++ List.replicate (1 - (lg_sl ([.ref (base + o)])).length) Slot.unset).toArray = ls at hl ⊢
  have hl : lv_has ls 1 [(0, .ref (base + o))] := hl
  have hret : ∀ (pc : Nat) (x : Int32) (v : VV) (H : Heap) (locs : List Loc) (ls : Array Slot), decode cX5_credit pc = .ok (.ireturn, 1) → Q x v → va_P (dC, dI) vwCl (Wd base cy rf v 874) H → va_S (fun q => base ≤ q) s.heap H locs → W p l e { frames := 0, cells := 0, slots := 0, locals := 0 } s m ([.ref (base + o)]).toArray below meth c H locs 0 0 (MQ below (va_Qi Q (Hp dC dI base cy) (fun q => base ≤ q)) ([.ref (base + o)]).toArray s 0 0 (fun q => base ≤ q)) (F0 m pc ls [.int x]) := fun pc x v H locs ls hd hq hP hS => W.iret (v := x) hx hb hr (fun t ht hW => ⟨⟨x, v, rfl, hq, by rw [ht]; exact hP, va_K.moved hW.alike hK⟩, hS.F ht⟩) hS.2.2 hd
  refine lv_aload_n hx hb dX5_credit_0 rfl (lv_at hl 0 rfl) ?_
  refine w_gR (C := RX5) (T := TX5) (N := 7) (ci := 5) hx hb hts in5 hown hK hP 0 ho.1 ho rfl (by decide) (ch5_0 ho).1 (hts _ mf_X5_9) dX5_credit_1 ?_
  refine lv_iconst (v := 1) hx hb dX5_credit_4 (by decide) ?_
  refine w_ia (N := 17) hx hb hK hP (ch5_0 ho).2.1.1 (ch5_0 ho).2.1 (ch5_0 ho).2.2 (vp_in_nI (n := 1) (by decide) (by decide)) dX5_credit_5 ?_
  refine lv_topi (fun x5 ex5 => ?_)
  have hw := hw x5 ex5
  refine lv_bipush (v := 15) hx hb dX5_credit_6 (by decide) ?_
  refine lv_iand hx hb dX5_credit_8 ?_
  refine lv_topi (fun x8 ex8 => ?_)
  have hw := hw x8 ex8
  exact hret _ _ _ _ _ _ dX5_credit_9 hw hP hS
def b_X0_hearCall_70 (o : Nat) (p1 : Nat) (Q : VV → Prop) (s0 : Int32) (v : VV) : Prop :=
  (¬ s0 = 0 → Q v) ∧ (s0 = 0 → w_X5_from p1 v (fun (x80 : Int32) (v1 : VV) => w_X0_sendLink o 128 x80 0 2 v1 (fun (v2 : VV) => Q v2)))
set_option maxHeartbeats 4000000 in
set_option maxRecDepth 100000 in
theorem tb_X0_hearCall_70 {p : Program} {l : Launch} {e : Env} {s : State} {m : MethodId} {args : Array Value} {below : List Frame} {meth : Method} {c : Code} {QQ : State → Prop} {dC : Nat → ClassId} {dI : Nat → Nat → Nat} {base : Nat} {cy : Nat → ClassId} (hx : p.tables.exec = Jvm.exec) (hb : c.code = cX0_hearCall) (hml : c.maxLocals = 3) (hown : s.vm.findClass RX0 = some m.cls) (hts : ∀ w ∈ TB, w.before args s = true) (hK : va_K (dC, dI) vwCl (tyL cy) s) (o : Nat) (ho : isO 0 o) (p1 : Nat) (hp1 : isO 5 p1) (Q : VV → Prop) (hret : ∀ (pc : Nat) (v : VV) (H : Heap) (locs : List Loc) (ls : Array Slot), decode cX0_hearCall pc = .ok (.return_, 1) → Q v → va_P (dC, dI) vwCl (Wd base cy rf v 874) H → va_S (fun q => base ≤ q) s.heap H locs → W p l e { frames := 4, cells := 0, slots := 0, locals := 92 } s m args below meth c H locs 0 0 QQ (F0 m pc ls [])) (s0 : Int32) (v : VV) (H : Heap) (locs : List Loc) (ls : Array Slot) (hw : b_X0_hearCall_70 o p1 Q  s0 v) : lv_has ls 3 [(0, .ref (base + o)), (1, .ref (base + p1))] → va_P (dC, dI) vwCl (Wd base cy rf v 874) H → va_S (fun q => base ≤ q) s.heap H locs → W p l e { frames := 4, cells := 0, slots := 0, locals := 92 } s m args below meth c H locs 0 0 QQ (F0 m 70 ls [.int s0]) := by
  intro hl hP hS
  refine lv_istore_n (lv' := [(2, .int s0), (0, .ref (base + o)), (1, .ref (base + p1))]) hx hb dX0_hearCall_70 rfl hl (by decide) rfl (fun ls hl => ?_)
  refine lv_iload_n hx hb dX0_hearCall_71 rfl (lv_at hl 0 rfl) ?_
  refine lv_if_ne (tgt := 88) hx hb dX0_hearCall_72 (by decide) (fun c72 => ?_) (fun c72 => ?_)
  · have hw := hw.1 c72
    exact hret _ _ _ _ _ dX0_hearCall_88 hw hP hS
  · have hw := hw.2 c72
    refine lv_aload_n hx hb dX0_hearCall_75 rfl (lv_at hl 1 rfl) ?_
    refine lv_sipush (v := 128) hx hb dX0_hearCall_76 (by decide) ?_
    refine lv_aload_n hx hb dX0_hearCall_79 rfl (lv_at hl 2 rfl) ?_
    refine k_I (As := []) (rest := [.int 128, .ref (base + o)]) ⟨hx, hb, hml, hown, hts⟩ (t_X5_from l dC dI base cy p1 hp1 v _ hw) (cwV 0 hts (gV ml_X0_178 mi_X5_from mx_X5_from mn_X5 mo_X5_from) rfl rfl rfl (by decide +kernel) ⟨by decide, by decide⟩) hK hP hS hp1 (by decide) rfl rfl hl.1 rfl (Nat.le_of_ble_eq_true rfl) dX0_hearCall_80 ⟨Nat.zero_le _, Nat.zero_le _⟩ (fun x80 v1 H locs hw hP hS => ?_)
    refine lv_iconst (v := 0) hx hb dX0_hearCall_83 (by decide) ?_
    refine lv_iconst (v := 2) hx hb dX0_hearCall_84 (by decide) ?_
    refine k_V (As := [.int 128, .int x80, .int 0, .int 2]) (rest := []) ⟨hx, hb, hml, hown, hts⟩ (t_X0_sendLink l dC dI base cy o ho 128 x80 0 2 v1 _ hw) (cwV 4 hts (gV ml_X0_181 mi_X0_sendLink mx_X0_sendLink mn_X0 mo_X0_sendLink) rfl rfl rfl (by decide +kernel) ⟨by decide, by decide⟩) hK hP hS ho (by decide) rfl rfl hl.1 rfl (Nat.le_of_ble_eq_true rfl) dX0_hearCall_85 ⟨Nat.zero_le _, Nat.zero_le _⟩ (fun v2 H locs hw hP hS => ?_)
    exact hret _ _ _ _ _ dX0_hearCall_88 hw hP hS
def b_X0_hearCall_69 (o : Nat) (p1 : Nat) (Q : VV → Prop)  (v : VV) : Prop :=
  b_X0_hearCall_70 o p1 Q  0 v
set_option maxHeartbeats 4000000 in
set_option maxRecDepth 100000 in
theorem tb_X0_hearCall_69 {p : Program} {l : Launch} {e : Env} {s : State} {m : MethodId} {args : Array Value} {below : List Frame} {meth : Method} {c : Code} {QQ : State → Prop} {dC : Nat → ClassId} {dI : Nat → Nat → Nat} {base : Nat} {cy : Nat → ClassId} (hx : p.tables.exec = Jvm.exec) (hb : c.code = cX0_hearCall) (hml : c.maxLocals = 3) (hown : s.vm.findClass RX0 = some m.cls) (hts : ∀ w ∈ TB, w.before args s = true) (hK : va_K (dC, dI) vwCl (tyL cy) s) (o : Nat) (ho : isO 0 o) (p1 : Nat) (hp1 : isO 5 p1) (Q : VV → Prop) (hret : ∀ (pc : Nat) (v : VV) (H : Heap) (locs : List Loc) (ls : Array Slot), decode cX0_hearCall pc = .ok (.return_, 1) → Q v → va_P (dC, dI) vwCl (Wd base cy rf v 874) H → va_S (fun q => base ≤ q) s.heap H locs → W p l e { frames := 4, cells := 0, slots := 0, locals := 92 } s m args below meth c H locs 0 0 QQ (F0 m pc ls []))  (v : VV) (H : Heap) (locs : List Loc) (ls : Array Slot) (hw : b_X0_hearCall_69 o p1 Q   v) : lv_has ls 3 [(0, .ref (base + o)), (1, .ref (base + p1))] → va_P (dC, dI) vwCl (Wd base cy rf v 874) H → va_S (fun q => base ≤ q) s.heap H locs → W p l e { frames := 4, cells := 0, slots := 0, locals := 92 } s m args below meth c H locs 0 0 QQ (F0 m 69 ls []) := by
  intro hl hP hS
  refine lv_iconst (v := 0) hx hb dX0_hearCall_69 (by decide) ?_
  exact tb_X0_hearCall_70 hx hb hml hown hts hK o ho p1 hp1 _ hret  0 v _ _ _ hw (lv_sub hl [0, 1] rfl) hP hS
def w_X0_hearCall (o : Nat) (p1 : Nat) (v : VV) (Q : VV → Prop) : Prop :=
  ∀ x1 : Int32, x1 = v o 8 → (¬ x1 = 0 → ∀ x40 : Int32, x40 = v o 8 → (¬ x40 = 2 → b_X0_hearCall_69 o p1 Q   v) ∧ (x40 = 2 → ∀ x48 : Int32, x48 = v o 12 → (x48 = 0 → b_X0_hearCall_69 o p1 Q   v) ∧ (¬ x48 = 0 → ∀ x55 : Int32, x55 = v o 10 → w_X5_from p1 v (fun (x59 : Int32) (v1 : VV) => (¬ x55 = x59 → b_X0_hearCall_69 o p1 Q   v1) ∧ (x55 = x59 → b_X0_hearCall_70 o p1 Q  1 v1))))) ∧ (x1 = 0 → w_X5_from p1 v (fun (x10 : Int32) (v2 : VV) => w_X0_beginConnection o 2 x10 v2 (fun (v3 : VV) => w_X5_credit p1 v3 (fun (x21 : Int32) (v4 : VV) => ∀ v5 : VV, v5 = up2 v4 (o + 1) 5 x21 → w_X0_awaitLink o 214 v5 (fun (v6 : VV) => w_X0_sendAwaitedLink o v6 (fun (v7 : VV) => Q v7))))))
set_option maxHeartbeats 4000000 in
set_option maxRecDepth 100000 in
/-- TransportFour$End.hearCall -/
theorem t_X0_hearCall (l : Launch) (dC : Nat → ClassId) (dI : Nat → Nat → Nat) (base : Nat) (cy : Nat → ClassId) (o : Nat) (ho : isO 0 o) (p1 : Nat) (hp1 : isO 5 p1) (v : VV) (Q : VV → Prop) (hw : w_X0_hearCall o p1 v Q) : CV l yX0_hearCall (.code yX0_hearCall cX0_hearCall 3 none :: TB) { frames := 4, cells := 0, slots := 0, locals := 92 } dC dI base cy [.ref (base + o), .ref (base + p1)] v Q := by
  refine Met.ofW (cc := cX0_hearCall) (maxL := 3) (ret := none) (by decide) rfl ?_
  intro p e s m args below meth c s₁ B hml hv
  obtain ⟨rfl, hP, hK⟩ := hv
  have hx := B.exec
  have hb := B.bytes
  have hr := B.returns
  have hts0 := atoms_spec (ws := (.code yX0_hearCall cX0_hearCall 3 none :: TB)) B.pre
  have hts : ∀ w ∈ TB, w.before ([.ref (base + o), .ref (base + p1)]).toArray s = true := fun w h => hts0 w (List.mem_cons_of_mem _ h)
  have hown : s.vm.findClass RX0 = some m.cls := findClass_of_methodNamed B.named
  have hlocks := B.notSynchronized
  have hS : va_S (fun q => base ≤ q) s.heap s.heap [] := va_S.rf
  have hl := lv_entry ([.ref (base + o), .ref (base + p1)]) (n := 3) (Nat.le_of_ble_eq_true rfl)
  rw [lg_entry_eq]
  generalize (lg_sl ([.ref (base + o), .ref (base + p1)]) ++ List.replicate (3 - (lg_sl ([.ref (base + o), .ref (base + p1)])).length) Slot.unset).toArray = ls at hl ⊢
  have hl : lv_has ls 3 [(0, .ref (base + o)), (1, .ref (base + p1))] := hl
  have hret : ∀ (pc : Nat) (v : VV) (H : Heap) (locs : List Loc) (ls : Array Slot), decode cX0_hearCall pc = .ok (.return_, 1) → Q v → va_P (dC, dI) vwCl (Wd base cy rf v 874) H → va_S (fun q => base ≤ q) s.heap H locs → W p l e { frames := 4, cells := 0, slots := 0, locals := 92 } s m ([.ref (base + o), .ref (base + p1)]).toArray below meth c H locs 0 0 (MQ below (va_Qv Q (Hp dC dI base cy) (fun q => base ≤ q)) ([.ref (base + o), .ref (base + p1)]).toArray s 0 0 (fun q => base ≤ q)) (F0 m pc ls []) := fun pc v H locs ls hd hq hP hS => W.vret hx hb hr (fun t ht hW => ⟨⟨v, rfl, hq, by rw [ht]; exact hP, va_K.moved hW.alike hK⟩, hS.F ht⟩) hS.2.2 hd
  refine lv_aload_n hx hb dX0_hearCall_0 rfl (lv_at hl 0 rfl) ?_
  refine w_gI (C := RX0) (T := TX0) (N := 15) (ci := 0) hx hb hts in0 hown hK hP 8 ho.1 ho rfl (by decide) (hts _ mf_X0_57) dX0_hearCall_1 ?_
  refine lv_topi (fun x1 ex1 => ?_)
  have hw := hw x1 ex1
  refine lv_if_ne (tgt := 39) hx hb dX0_hearCall_4 (by decide) (fun c4 => ?_) (fun c4 => ?_)
  · have hw := hw.1 c4
    refine lv_aload_n hx hb dX0_hearCall_39 rfl (lv_at hl 0 rfl) ?_
    refine w_gI (C := RX0) (T := TX0) (N := 15) (ci := 0) hx hb hts in0 hown hK hP 8 ho.1 ho rfl (by decide) (hts _ mf_X0_57) dX0_hearCall_40 ?_
    refine lv_topi (fun x40 ex40 => ?_)
    have hw := hw x40 ex40
    refine lv_iconst (v := 2) hx hb dX0_hearCall_43 (by decide) ?_
    refine lv_icmp_ne (tgt := 69) hx hb dX0_hearCall_44 (by decide) (fun c44 => ?_) (fun c44 => ?_)
    · have hw := hw.1 c44
      exact tb_X0_hearCall_69 hx hb hml hown hts hK o ho p1 hp1 _ hret   v _ _ _ hw (lv_sub hl [0, 1] rfl) hP hS
    · have hw := hw.2 c44
      refine lv_aload_n hx hb dX0_hearCall_47 rfl (lv_at hl 0 rfl) ?_
      refine w_gI (C := RX0) (T := TX0) (N := 15) (ci := 0) hx hb hts in0 hown hK hP 12 ho.1 ho rfl (by decide) (hts _ mf_X0_84) dX0_hearCall_48 ?_
      refine lv_topi (fun x48 ex48 => ?_)
      have hw := hw x48 ex48
      refine lv_if_eq (tgt := 69) hx hb dX0_hearCall_51 (by decide) (fun c51 => ?_) (fun c51 => ?_)
      · have hw := hw.1 c51
        exact tb_X0_hearCall_69 hx hb hml hown hts hK o ho p1 hp1 _ hret   v _ _ _ hw (lv_sub hl [0, 1] rfl) hP hS
      · have hw := hw.2 c51
        refine lv_aload_n hx hb dX0_hearCall_54 rfl (lv_at hl 0 rfl) ?_
        refine w_gI (C := RX0) (T := TX0) (N := 15) (ci := 0) hx hb hts in0 hown hK hP 10 ho.1 ho rfl (by decide) (hts _ mf_X0_81) dX0_hearCall_55 ?_
        refine lv_topi (fun x55 ex55 => ?_)
        have hw := hw x55 ex55
        refine lv_aload_n hx hb dX0_hearCall_58 rfl (lv_at hl 1 rfl) ?_
        refine k_I (As := []) (rest := [.int x55]) ⟨hx, hb, hml, hown, hts⟩ (t_X5_from l dC dI base cy p1 hp1 v _ hw) (cwV 0 hts (gV ml_X0_178 mi_X5_from mx_X5_from mn_X5 mo_X5_from) rfl rfl rfl (by decide +kernel) ⟨by decide, by decide⟩) hK hP hS hp1 (by decide) rfl rfl hl.1 rfl (Nat.le_of_ble_eq_true rfl) dX0_hearCall_59 ⟨Nat.zero_le _, Nat.zero_le _⟩ (fun x59 v1 H locs hw hP hS => ?_)
        refine lv_icmp_ne (tgt := 69) hx hb dX0_hearCall_62 (by decide) (fun c62 => ?_) (fun c62 => ?_)
        · have hw := hw.1 c62
          exact tb_X0_hearCall_69 hx hb hml hown hts hK o ho p1 hp1 _ hret   v1 _ _ _ hw (lv_sub hl [0, 1] rfl) hP hS
        · have hw := hw.2 c62
          refine lv_iconst (v := 1) hx hb dX0_hearCall_65 (by decide) ?_
          refine lv_goto (tgt := 70) hx hb dX0_hearCall_66 (by decide) ?_
          exact tb_X0_hearCall_70 hx hb hml hown hts hK o ho p1 hp1 _ hret  1 v1 _ _ _ hw (lv_sub hl [0, 1] rfl) hP hS
  · have hw := hw.2 c4
    refine lv_aload_n hx hb dX0_hearCall_7 rfl (lv_at hl 0 rfl) ?_
    refine lv_iconst (v := 2) hx hb dX0_hearCall_8 (by decide) ?_
    refine lv_aload_n hx hb dX0_hearCall_9 rfl (lv_at hl 1 rfl) ?_
    refine k_I (As := []) (rest := [.int 2, .ref (base + o)]) ⟨hx, hb, hml, hown, hts⟩ (t_X5_from l dC dI base cy p1 hp1 v _ hw) (cwV 0 hts (gV ml_X0_178 mi_X5_from mx_X5_from mn_X5 mo_X5_from) rfl rfl rfl (by decide +kernel) ⟨by decide, by decide⟩) hK hP hS hp1 (by decide) rfl rfl hl.1 rfl (Nat.le_of_ble_eq_true rfl) dX0_hearCall_10 ⟨Nat.zero_le _, Nat.zero_le _⟩ (fun x10 v2 H locs hw hP hS => ?_)
    refine k_V (As := [.int 2, .int x10]) (rest := []) ⟨hx, hb, hml, hown, hts⟩ (t_X0_beginConnection l dC dI base cy o ho 2 x10 v2 _ hw) (cwV 2 hts (gV ml_X0_60 mi_X0_beginConnection mx_X0_beginConnection mn_X0 mo_X0_beginConnection) rfl rfl rfl (by decide +kernel) ⟨by decide, by decide⟩) hK hP hS ho (by decide) rfl rfl hl.1 rfl (Nat.le_of_ble_eq_true rfl) dX0_hearCall_13 ⟨Nat.zero_le _, Nat.zero_le _⟩ (fun v3 H locs hw hP hS => ?_)
    refine lv_aload_n hx hb dX0_hearCall_16 rfl (lv_at hl 0 rfl) ?_
    refine w_gR (C := RX0) (T := TX0) (N := 15) (ci := 0) hx hb hts in0 hown hK hP 2 ho.1 ho rfl (by decide) (ch0_2 ho).1 (hts _ mf_X0_12) dX0_hearCall_17 ?_
    refine lv_aload_n hx hb dX0_hearCall_20 rfl (lv_at hl 1 rfl) ?_
    refine k_I (As := []) (rest := [.ref (base + (o + 1))]) ⟨hx, hb, hml, hown, hts⟩ (t_X5_credit l dC dI base cy p1 hp1 v3 _ hw) (cwV 0 hts (gV ml_X0_185 mi_X5_credit mx_X5_credit mn_X5 mo_X5_credit) rfl rfl rfl (by decide +kernel) ⟨by decide, by decide⟩) hK hP hS hp1 (by decide) rfl rfl hl.1 rfl (Nat.le_of_ble_eq_true rfl) dX0_hearCall_21 ⟨Nat.zero_le _, Nat.zero_le _⟩ (fun x21 v4 H locs hw hP hS => ?_)
    refine w_pI (C := RX3) (T := TX3) (N := 6) (ci := 3) hx hb hts in3 tyX3 tyX3_ok nmX3 hown hK hP hS 5 (ch0_2 ho).2.1 (ch0_2 ho).2 rfl (by decide) (hts _ mf_X0_143) rfl (ty := .int) (by decide +kernel) rfl rfl dX0_hearCall_24 (fun v5 H locs hv5 hP hz hS => ?_)
    have hw := hw v5 hv5
    refine lv_aload_n hx hb dX0_hearCall_27 rfl (lv_at hl 0 rfl) ?_
    refine lv_sipush (v := 214) hx hb dX0_hearCall_28 (by decide) ?_
    refine k_V (As := [.int 214]) (rest := []) ⟨hx, hb, hml, hown, hts⟩ (t_X0_awaitLink l dC dI base cy o ho 214 v5 _ hw) (cwV 1 hts (gV ml_X0_64 mi_X0_awaitLink mx_X0_awaitLink mn_X0 mo_X0_awaitLink) rfl rfl rfl (by decide +kernel) ⟨by decide, by decide⟩) hK hP hS ho (by decide) rfl rfl hl.1 rfl (Nat.le_of_ble_eq_true rfl) dX0_hearCall_31 ⟨Nat.zero_le _, Nat.zero_le _⟩ (fun v6 H locs hw hP hS => ?_)
    refine lv_aload_n hx hb dX0_hearCall_34 rfl (lv_at hl 0 rfl) ?_
    refine k_V (As := []) (rest := []) ⟨hx, hb, hml, hown, hts⟩ (t_X0_sendAwaitedLink l dC dI base cy o ho v6 _ hw) (cwV 0 hts (gV ml_X0_68 mi_X0_sendAwaitedLink mx_X0_sendAwaitedLink mn_X0 mo_X0_sendAwaitedLink) rfl rfl rfl (by decide +kernel) ⟨by decide, by decide⟩) hK hP hS ho (by decide) rfl rfl hl.1 rfl (Nat.le_of_ble_eq_true rfl) dX0_hearCall_35 ⟨Nat.zero_le _, Nat.zero_le _⟩ (fun v7 H locs hw hP hS => ?_)
    exact hret _ _ _ _ _ dX0_hearCall_38 hw hP hS
def b_X0_hasConnection_24 (o : Nat) (Q : Int32 → VV → Prop)  (v : VV) : Prop :=
  Q 1 v
set_option maxHeartbeats 4000000 in
set_option maxRecDepth 100000 in
theorem tb_X0_hasConnection_24 {p : Program} {l : Launch} {e : Env} {s : State} {m : MethodId} {args : Array Value} {below : List Frame} {meth : Method} {c : Code} {QQ : State → Prop} {dC : Nat → ClassId} {dI : Nat → Nat → Nat} {base : Nat} {cy : Nat → ClassId} (hx : p.tables.exec = Jvm.exec) (hb : c.code = cX0_hasConnection) (hml : c.maxLocals = 1) (hown : s.vm.findClass RX0 = some m.cls) (hts : ∀ w ∈ TB, w.before args s = true) (hK : va_K (dC, dI) vwCl (tyL cy) s) (o : Nat) (ho : isO 0 o) (Q : Int32 → VV → Prop) (hret : ∀ (pc : Nat) (x : Int32) (v : VV) (H : Heap) (locs : List Loc) (ls : Array Slot), decode cX0_hasConnection pc = .ok (.ireturn, 1) → (x = 0 ∨ x = 1) → Q x v → va_P (dC, dI) vwCl (Wd base cy rf v 874) H → va_S (fun q => base ≤ q) s.heap H locs → W p l e { frames := 0, cells := 0, slots := 0, locals := 0 } s m args below meth c H locs 0 0 QQ (F0 m pc ls [.int x]))  (v : VV) (H : Heap) (locs : List Loc) (ls : Array Slot) (hw : b_X0_hasConnection_24 o Q   v) : lv_has ls 1 [(0, .ref (base + o))] → va_P (dC, dI) vwCl (Wd base cy rf v 874) H → va_S (fun q => base ≤ q) s.heap H locs → W p l e { frames := 0, cells := 0, slots := 0, locals := 0 } s m args below meth c H locs 0 0 QQ (F0 m 24 ls []) := by
  intro hl hP hS
  refine lv_iconst (v := 1) hx hb dX0_hasConnection_24 (by decide) ?_
  refine lv_goto (tgt := 29) hx hb dX0_hasConnection_25 (by decide) ?_
  exact hret _ _ _ _ _ _ dX0_hasConnection_29 (by decide) hw hP hS
def w_X0_hasConnection (o : Nat) (v : VV) (Q : Int32 → VV → Prop) : Prop :=
  ∀ x1 : Int32, x1 = v o 8 → (x1 = 1 → b_X0_hasConnection_24 o Q   v) ∧ (¬ x1 = 1 → ∀ x9 : Int32, x9 = v o 8 → (x9 = 2 → b_X0_hasConnection_24 o Q   v) ∧ (¬ x9 = 2 → ∀ x17 : Int32, x17 = v o 8 → (¬ x17 = 3 → Q 0 v) ∧ (x17 = 3 → b_X0_hasConnection_24 o Q   v)))
set_option maxHeartbeats 4000000 in
set_option maxRecDepth 100000 in
/-- TransportFour$End.hasConnection -/
theorem t_X0_hasConnection (l : Launch) (dC : Nat → ClassId) (dI : Nat → Nat → Nat) (base : Nat) (cy : Nat → ClassId) (o : Nat) (ho : isO 0 o) (v : VV) (Q : Int32 → VV → Prop) (hw : w_X0_hasConnection o v Q) : CI l yX0_hasConnection (.code yX0_hasConnection cX0_hasConnection 1 (some .boolean) :: TB) { frames := 0, cells := 0, slots := 0, locals := 0 } dC dI base cy [.ref (base + o)] v Q := by
  refine Met.ofW (cc := cX0_hasConnection) (maxL := 1) (ret := (some .boolean)) (by decide) rfl ?_
  intro p e s m args below meth c s₁ B hml hv
  obtain ⟨rfl, hP, hK⟩ := hv
  have hx := B.exec
  have hb := B.bytes
  have hr := B.returns
  have hts0 := atoms_spec (ws := (.code yX0_hasConnection cX0_hasConnection 1 (some .boolean) :: TB)) B.pre
  have hts : ∀ w ∈ TB, w.before ([.ref (base + o)]).toArray s = true := fun w h => hts0 w (List.mem_cons_of_mem _ h)
  have hown : s.vm.findClass RX0 = some m.cls := findClass_of_methodNamed B.named
  have hlocks := B.notSynchronized
  have hS : va_S (fun q => base ≤ q) s.heap s.heap [] := va_S.rf
  have hl := lv_entry ([.ref (base + o)]) (n := 1) (Nat.le_of_ble_eq_true rfl)
  rw [lg_entry_eq]
  generalize (lg_sl ([.ref (base + o)]) ++ List.replicate (1 - (lg_sl ([.ref (base + o)])).length) Slot.unset).toArray = ls at hl ⊢
  have hl : lv_has ls 1 [(0, .ref (base + o))] := hl
  have hret : ∀ (pc : Nat) (x : Int32) (v : VV) (H : Heap) (locs : List Loc) (ls : Array Slot), decode cX0_hasConnection pc = .ok (.ireturn, 1) → (x = 0 ∨ x = 1) → Q x v → va_P (dC, dI) vwCl (Wd base cy rf v 874) H → va_S (fun q => base ≤ q) s.heap H locs → W p l e { frames := 0, cells := 0, slots := 0, locals := 0 } s m ([.ref (base + o)]).toArray below meth c H locs 0 0 (MQ below (va_Qi Q (Hp dC dI base cy) (fun q => base ≤ q)) ([.ref (base + o)]).toArray s 0 0 (fun q => base ≤ q)) (F0 m pc ls [.int x]) := fun pc x v H locs ls hd hz hq hP hS => W.zret (v := x) hx hb hr (zb_n hz) (fun t ht hW => ⟨⟨x, v, rfl, hq, by rw [ht]; exact hP, va_K.moved hW.alike hK⟩, hS.F ht⟩) hS.2.2 hd
  refine lv_aload_n hx hb dX0_hasConnection_0 rfl (lv_at hl 0 rfl) ?_
  refine w_gI (C := RX0) (T := TX0) (N := 15) (ci := 0) hx hb hts in0 hown hK hP 8 ho.1 ho rfl (by decide) (hts _ mf_X0_57) dX0_hasConnection_1 ?_
  refine lv_topi (fun x1 ex1 => ?_)
  have hw := hw x1 ex1
  refine lv_iconst (v := 1) hx hb dX0_hasConnection_4 (by decide) ?_
  refine lv_icmp_eq (tgt := 24) hx hb dX0_hasConnection_5 (by decide) (fun c5 => ?_) (fun c5 => ?_)
  · have hw := hw.1 c5
    exact tb_X0_hasConnection_24 hx hb hml hown hts hK o ho _ hret   v _ _ _ hw (lv_sub hl [0] rfl) hP hS
  · have hw := hw.2 c5
    refine lv_aload_n hx hb dX0_hasConnection_8 rfl (lv_at hl 0 rfl) ?_
    refine w_gI (C := RX0) (T := TX0) (N := 15) (ci := 0) hx hb hts in0 hown hK hP 8 ho.1 ho rfl (by decide) (hts _ mf_X0_57) dX0_hasConnection_9 ?_
    refine lv_topi (fun x9 ex9 => ?_)
    have hw := hw x9 ex9
    refine lv_iconst (v := 2) hx hb dX0_hasConnection_12 (by decide) ?_
    refine lv_icmp_eq (tgt := 24) hx hb dX0_hasConnection_13 (by decide) (fun c13 => ?_) (fun c13 => ?_)
    · have hw := hw.1 c13
      exact tb_X0_hasConnection_24 hx hb hml hown hts hK o ho _ hret   v _ _ _ hw (lv_sub hl [0] rfl) hP hS
    · have hw := hw.2 c13
      refine lv_aload_n hx hb dX0_hasConnection_16 rfl (lv_at hl 0 rfl) ?_
      refine w_gI (C := RX0) (T := TX0) (N := 15) (ci := 0) hx hb hts in0 hown hK hP 8 ho.1 ho rfl (by decide) (hts _ mf_X0_57) dX0_hasConnection_17 ?_
      refine lv_topi (fun x17 ex17 => ?_)
      have hw := hw x17 ex17
      refine lv_iconst (v := 3) hx hb dX0_hasConnection_20 (by decide) ?_
      refine lv_icmp_ne (tgt := 28) hx hb dX0_hasConnection_21 (by decide) (fun c21 => ?_) (fun c21 => ?_)
      · have hw := hw.1 c21
        refine lv_iconst (v := 0) hx hb dX0_hasConnection_28 (by decide) ?_
        exact hret _ _ _ _ _ _ dX0_hasConnection_29 (by decide) hw hP hS
      · have hw := hw.2 c21
        exact tb_X0_hasConnection_24 hx hb hml hown hts hK o ho _ hret   v _ _ _ hw (lv_sub hl [0] rfl) hP hS
def w_X5_to (o : Nat) (v : VV) (Q : Int32 → VV → Prop) : Prop :=
  w_X5_pairAt o 2 v (fun (x2 : Int32) (v1 : VV) => Q x2 v1)
set_option maxHeartbeats 4000000 in
set_option maxRecDepth 100000 in
/-- TransportFour$Unit.to -/
theorem t_X5_to (l : Launch) (dC : Nat → ClassId) (dI : Nat → Nat → Nat) (base : Nat) (cy : Nat → ClassId) (o : Nat) (ho : isO 5 o) (v : VV) (Q : Int32 → VV → Prop) (hw : w_X5_to o v Q) : CI l yX5_to (.code yX5_to cX5_to 1 (some .int) :: TB) { frames := 1, cells := 0, slots := 0, locals := 21 } dC dI base cy [.ref (base + o)] v Q := by
  refine Met.ofW (cc := cX5_to) (maxL := 1) (ret := (some .int)) (by decide) rfl ?_
  intro p e s m args below meth c s₁ B hml hv
  obtain ⟨rfl, hP, hK⟩ := hv
  have hx := B.exec
  have hb := B.bytes
  have hr := B.returns
  have hts0 := atoms_spec (ws := (.code yX5_to cX5_to 1 (some .int) :: TB)) B.pre
  have hts : ∀ w ∈ TB, w.before ([.ref (base + o)]).toArray s = true := fun w h => hts0 w (List.mem_cons_of_mem _ h)
  have hown : s.vm.findClass RX5 = some m.cls := findClass_of_methodNamed B.named
  have hlocks := B.notSynchronized
  have hS : va_S (fun q => base ≤ q) s.heap s.heap [] := va_S.rf
  have hl := lv_entry ([.ref (base + o)]) (n := 1) (Nat.le_of_ble_eq_true rfl)
  rw [lg_entry_eq]
  generalize (lg_sl ([.ref (base + o)]) ++ List.replicate (1 - (lg_sl ([.ref (base + o)])).length) Slot.unset).toArray = ls at hl ⊢
  have hl : lv_has ls 1 [(0, .ref (base + o))] := hl
  have hret : ∀ (pc : Nat) (x : Int32) (v : VV) (H : Heap) (locs : List Loc) (ls : Array Slot), decode cX5_to pc = .ok (.ireturn, 1) → Q x v → va_P (dC, dI) vwCl (Wd base cy rf v 874) H → va_S (fun q => base ≤ q) s.heap H locs → W p l e { frames := 1, cells := 0, slots := 0, locals := 21 } s m ([.ref (base + o)]).toArray below meth c H locs 0 0 (MQ below (va_Qi Q (Hp dC dI base cy) (fun q => base ≤ q)) ([.ref (base + o)]).toArray s 0 0 (fun q => base ≤ q)) (F0 m pc ls [.int x]) := fun pc x v H locs ls hd hq hP hS => W.iret (v := x) hx hb hr (fun t ht hW => ⟨⟨x, v, rfl, hq, by rw [ht]; exact hP, va_K.moved hW.alike hK⟩, hS.F ht⟩) hS.2.2 hd
  refine lv_aload_n hx hb dX5_to_0 rfl (lv_at hl 0 rfl) ?_
  refine lv_iconst (v := 2) hx hb dX5_to_1 (by decide) ?_
  refine k_I (As := [.int 2]) (rest := []) ⟨hx, hb, hml, hown, hts⟩ (t_X5_pairAt l dC dI base cy o ho 2 v _ hw) (cwV 1 hts (gV ml_X5_40 mi_X5_pairAt mx_X5_pairAt mn_X5 mo_X5_pairAt) rfl rfl rfl (by decide +kernel) ⟨by decide, by decide⟩) hK hP hS ho (by decide) rfl rfl hl.1 rfl (Nat.le_of_ble_eq_true rfl) dX5_to_2 ⟨Nat.zero_le _, Nat.zero_le _⟩ (fun x2 v1 H locs hw hP hS => ?_)
  exact hret _ _ _ _ _ _ dX5_to_5 hw hP hS
