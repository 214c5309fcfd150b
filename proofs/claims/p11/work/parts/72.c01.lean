def b_X5_plainSum_4 (o : Nat) (Q : Int32 → VV → Prop) (fu : Nat) : Int32 → Int32 → VV → Prop :=
  Nat.rec (motive := fun _ => Int32 → Int32 → VV → Prop) (fun _ _ _ => False) (fun _ ih a1 a2 v => ∀ x6 : Int32, x6 = v o 1 → (x6 ≤ a2 → Q a1 v) ∧ (¬ x6 ≤ a2 → vp_in a2 17 ∧ ∀ x18 : Int32, x18 = v (o + 1) (Int32.toNatClampNeg a2) → ∀ x19 : Int32, x19 = a1 + x18 → ∀ x21 : Int32, x21 = a2 + 1 → ih x19 x21 v)) fu
set_option maxHeartbeats 4000000 in
set_option maxRecDepth 100000 in
theorem tb_X5_plainSum_4 {p : Program} {l : Launch} {e : Env} {s : State} {m : MethodId} {args : Array Value} {below : List Frame} {meth : Method} {c : Code} {QQ : State → Prop} {dC : Nat → ClassId} {dI : Nat → Nat → Nat} {base : Nat} {cy : Nat → ClassId} (hx : p.tables.exec = Jvm.exec) (hb : c.code = cX5_plainSum) (hml : c.maxLocals = 3) (hown : s.vm.findClass RX5 = some m.cls) (hts : ∀ w ∈ TB, w.before args s = true) (hK : va_K (dC, dI) vwCl (tyL cy) s) (o : Nat) (ho : isO 5 o) (Q : Int32 → VV → Prop) (hret : ∀ (pc : Nat) (x : Int32) (v : VV) (H : Heap) (locs : List Loc) (ls : Array Slot), decode cX5_plainSum pc = .ok (.ireturn, 1) → Q x v → va_P (dC, dI) vwCl (Wd base cy rf v 874) H → va_S (fun q => base ≤ q) s.heap H locs → W p l e { frames := 0, cells := 0, slots := 0, locals := 0 } s m args below meth c H locs 0 0 QQ (F0 m pc ls [.int x])) : ∀ (fu : Nat) (a1 : Int32) (a2 : Int32) (v : VV) (H : Heap) (locs : List Loc) (ls : Array Slot), b_X5_plainSum_4 o Q  fu a1 a2 v → lv_has ls 3 [(0, .ref (base + o)), (1, .int a1), (2, .int a2)] → va_P (dC, dI) vwCl (Wd base cy rf v 874) H → va_S (fun q => base ≤ q) s.heap H locs → W p l e { frames := 0, cells := 0, slots := 0, locals := 0 } s m args below meth c H locs 0 0 QQ (F0 m 4 ls []) := by
  intro fu
  induction fu with
  | zero =>
    intro a1 a2 v H locs ls hw hl hP hS
    exact hw.elim
  | succ fu ih =>
    intro a1 a2 v H locs ls hw hl hP hS
    refine lv_iload_n hx hb dX5_plainSum_4 rfl (lv_at hl 2 rfl) ?_
    refine lv_aload_n hx hb dX5_plainSum_5 rfl (lv_at hl 0 rfl) ?_
    refine w_gI (C := RX5) (T := TX5) (N := 7) (ci := 5) hx hb hts in5 hown hK hP 1 ho.1 ho rfl (by decide) (hts _ mf_X5_19) dX5_plainSum_6 ?_
    refine lv_topi (fun x6 ex6 => ?_)
    have hw := hw x6 ex6
    refine lv_icmp_ge (tgt := 27) hx hb dX5_plainSum_9 (by decide) (fun c9 => ?_) (fun c9 => ?_)
    · have hw := hw.1 c9
      refine lv_iload_n hx hb dX5_plainSum_27 rfl (lv_at hl 1 rfl) ?_
      exact hret _ _ _ _ _ _ dX5_plainSum_28 hw hP hS
    · have hw := hw.2 c9
      refine lv_iload_n hx hb dX5_plainSum_12 rfl (lv_at hl 1 rfl) ?_
      refine lv_aload_n hx hb dX5_plainSum_13 rfl (lv_at hl 0 rfl) ?_
      refine w_gR (C := RX5) (T := TX5) (N := 7) (ci := 5) hx hb hts in5 hown hK hP 0 ho.1 ho rfl (by decide) (ch5_0 ho).1 (hts _ mf_X5_9) dX5_plainSum_14 ?_
      refine lv_iload_n hx hb dX5_plainSum_17 rfl (lv_at hl 2 rfl) ?_
      obtain ⟨hi1, hw⟩ := hw
      refine w_ia (N := 17) hx hb hK hP (ch5_0 ho).2.1.1 (ch5_0 ho).2.1 (ch5_0 ho).2.2 hi1 dX5_plainSum_18 ?_
      refine lv_topi (fun x18 ex18 => ?_)
      have hw := hw x18 ex18
      refine lv_iadd hx hb dX5_plainSum_19 ?_
      refine lv_topi (fun x19 ex19 => ?_)
      have hw := hw x19 ex19
      refine lv_istore_n (lv' := [(1, .int x19), (0, .ref (base + o)), (2, .int a2)]) hx hb dX5_plainSum_20 rfl hl (by decide) rfl (fun ls hl => ?_)
      obtain ⟨x21, ex21⟩ : ∃ y : Int32, y = a2 + 1 := ⟨_, rfl⟩
      have hw := hw x21 ex21
      refine lv_iinc (v := x21) (lv' := [(2, .int x21), (1, .int x19), (0, .ref (base + o))]) hx hb dX5_plainSum_21 hl (k := 2) rfl (by rw [ex21]; first | rfl | (rw [show Int32.ofInt (-1) = (-1 : Int32) from by decide])) (by decide) rfl (fun ls hl => ?_)
      refine lv_goto (tgt := 4) hx hb dX5_plainSum_24 (by decide) ?_
      exact ih x19 x21 v _ _ _ hw (lv_sub hl [2, 1, 0] rfl) hP hS
def w_X5_plainSum (o : Nat) (v : VV) (Q : Int32 → VV → Prop) : Prop :=
  ∃ fu : Nat, b_X5_plainSum_4 o Q  fu 0 0 v
set_option maxHeartbeats 4000000 in
set_option maxRecDepth 100000 in
/-- TransportFour$Unit.plainSum -/
theorem t_X5_plainSum (l : Launch) (dC : Nat → ClassId) (dI : Nat → Nat → Nat) (base : Nat) (cy : Nat → ClassId) (o : Nat) (ho : isO 5 o) (v : VV) (Q : Int32 → VV → Prop) (hw : w_X5_plainSum o v Q) : CI l yX5_plainSum (.code yX5_plainSum cX5_plainSum 3 (some .int) :: TB) { frames := 0, cells := 0, slots := 0, locals := 0 } dC dI base cy [.ref (base + o)] v Q := by
  refine Met.ofW (cc := cX5_plainSum) (maxL := 3) (ret := (some .int)) (by decide) rfl ?_
  intro p e s m args below meth c s₁ B hml hv
  obtain ⟨rfl, hP, hK⟩ := hv
  have hx := B.exec
  have hb := B.bytes
  have hr := B.returns
  have hts0 := atoms_spec (ws := (.code yX5_plainSum cX5_plainSum 3 (some .int) :: TB)) B.pre
  have hts : ∀ w ∈ TB, w.before ([.ref (base + o)]).toArray s = true := fun w h => hts0 w (List.mem_cons_of_mem _ h)
  have hown : s.vm.findClass RX5 = some m.cls := findClass_of_methodNamed B.named
  have hlocks := B.notSynchronized
  have hS : va_S (fun q => base ≤ q) s.heap s.heap [] := va_S.rf
  have hl := lv_entry ([.ref (base + o)]) (n := 3) (Nat.le_of_ble_eq_true rfl)
  rw [lg_entry_eq]
  generalize (lg_sl ([.ref (base + o)]) ++ List.replicate (3 - (lg_sl ([.ref (base + o)])).length) Slot.unset).toArray = ls at hl ⊢
  have hl : lv_has ls 3 [(0, .ref (base + o))] := hl
  have hret : ∀ (pc : Nat) (x : Int32) (v : VV) (H : Heap) (locs : List Loc) (ls : Array Slot), decode cX5_plainSum pc = .ok (.ireturn, 1) → Q x v → va_P (dC, dI) vwCl (Wd base cy rf v 874) H → va_S (fun q => base ≤ q) s.heap H locs → W p l e { frames := 0, cells := 0, slots := 0, locals := 0 } s m ([.ref (base + o)]).toArray below meth c H locs 0 0 (MQ below (va_Qi Q (Hp dC dI base cy) (fun q => base ≤ q)) ([.ref (base + o)]).toArray s 0 0 (fun q => base ≤ q)) (F0 m pc ls [.int x]) := fun pc x v H locs ls hd hq hP hS => W.iret (v := x) hx hb hr (fun t ht hW => ⟨⟨x, v, rfl, hq, by rw [ht]; exact hP, va_K.moved hW.alike hK⟩, hS.F ht⟩) hS.2.2 hd
  refine lv_iconst (v := 0) hx hb dX5_plainSum_0 (by decide) ?_
  refine lv_istore_n (lv' := [(1, .int 0), (0, .ref (base + o))]) hx hb dX5_plainSum_1 rfl hl (by decide) rfl (fun ls hl => ?_)
  refine lv_iconst (v := 0) hx hb dX5_plainSum_2 (by decide) ?_
  refine lv_istore_n (lv' := [(2, .int 0), (1, .int 0), (0, .ref (base + o))]) hx hb dX5_plainSum_3 rfl hl (by decide) rfl (fun ls hl => ?_)
  obtain ⟨fu, hw⟩ := hw
  exact tb_X5_plainSum_4 hx hb hml hown hts hK o ho _ hret  fu 0 0 v _ _ _ hw (lv_sub hl [2, 1, 0] rfl) hP hS
def b_X5_weightedSum_4 (o : Nat) (Q : Int32 → VV → Prop) (fu : Nat) : Int32 → Int32 → VV → Prop :=
  Nat.rec (motive := fun _ => Int32 → Int32 → VV → Prop) (fun _ _ _ => False) (fun _ ih a1 a2 v => ∀ x6 : Int32, x6 = v o 1 → (x6 ≤ a2 → Q a1 v) ∧ (¬ x6 ≤ a2 → ∀ x14 : Int32, x14 = v o 1 → ∀ x18 : Int32, x18 = x14 - a2 → vp_in a2 17 ∧ ∀ x24 : Int32, x24 = v (o + 1) (Int32.toNatClampNeg a2) → ∀ x25 : Int32, x25 = x18 * x24 → ∀ x26 : Int32, x26 = a1 + x25 → ∀ x28 : Int32, x28 = a2 + 1 → ih x26 x28 v)) fu
set_option maxHeartbeats 4000000 in
set_option maxRecDepth 100000 in
theorem tb_X5_weightedSum_4 {p : Program} {l : Launch} {e : Env} {s : State} {m : MethodId} {args : Array Value} {below : List Frame} {meth : Method} {c : Code} {QQ : State → Prop} {dC : Nat → ClassId} {dI : Nat → Nat → Nat} {base : Nat} {cy : Nat → ClassId} (hx : p.tables.exec = Jvm.exec) (hb : c.code = cX5_weightedSum) (hml : c.maxLocals = 3) (hown : s.vm.findClass RX5 = some m.cls) (hts : ∀ w ∈ TB, w.before args s = true) (hK : va_K (dC, dI) vwCl (tyL cy) s) (o : Nat) (ho : isO 5 o) (Q : Int32 → VV → Prop) (hret : ∀ (pc : Nat) (x : Int32) (v : VV) (H : Heap) (locs : List Loc) (ls : Array Slot), decode cX5_weightedSum pc = .ok (.ireturn, 1) → Q x v → va_P (dC, dI) vwCl (Wd base cy rf v 874) H → va_S (fun q => base ≤ q) s.heap H locs → W p l e { frames := 0, cells := 0, slots := 0, locals := 0 } s m args below meth c H locs 0 0 QQ (F0 m pc ls [.int x])) : ∀ (fu : Nat) (a1 : Int32) (a2 : Int32) (v : VV) (H : Heap) (locs : List Loc) (ls : Array Slot), b_X5_weightedSum_4 o Q  fu a1 a2 v → lv_has ls 3 [(0, .ref (base + o)), (1, .int a1), (2, .int a2)] → va_P (dC, dI) vwCl (Wd base cy rf v 874) H → va_S (fun q => base ≤ q) s.heap H locs → W p l e { frames := 0, cells := 0, slots := 0, locals := 0 } s m args below meth c H locs 0 0 QQ (F0 m 4 ls []) := by
  intro fu
  induction fu with
  | zero =>
    intro a1 a2 v H locs ls hw hl hP hS
    exact hw.elim
  | succ fu ih =>
    intro a1 a2 v H locs ls hw hl hP hS
    refine lv_iload_n hx hb dX5_weightedSum_4 rfl (lv_at hl 2 rfl) ?_
    refine lv_aload_n hx hb dX5_weightedSum_5 rfl (lv_at hl 0 rfl) ?_
    refine w_gI (C := RX5) (T := TX5) (N := 7) (ci := 5) hx hb hts in5 hown hK hP 1 ho.1 ho rfl (by decide) (hts _ mf_X5_19) dX5_weightedSum_6 ?_
    refine lv_topi (fun x6 ex6 => ?_)
    have hw := hw x6 ex6
    refine lv_icmp_ge (tgt := 34) hx hb dX5_weightedSum_9 (by decide) (fun c9 => ?_) (fun c9 => ?_)
    · have hw := hw.1 c9
      refine lv_iload_n hx hb dX5_weightedSum_34 rfl (lv_at hl 1 rfl) ?_
      exact hret _ _ _ _ _ _ dX5_weightedSum_35 hw hP hS
    · have hw := hw.2 c9
      refine lv_iload_n hx hb dX5_weightedSum_12 rfl (lv_at hl 1 rfl) ?_
      refine lv_aload_n hx hb dX5_weightedSum_13 rfl (lv_at hl 0 rfl) ?_
      refine w_gI (C := RX5) (T := TX5) (N := 7) (ci := 5) hx hb hts in5 hown hK hP 1 ho.1 ho rfl (by decide) (hts _ mf_X5_19) dX5_weightedSum_14 ?_
      refine lv_topi (fun x14 ex14 => ?_)
      have hw := hw x14 ex14
      refine lv_iload_n hx hb dX5_weightedSum_17 rfl (lv_at hl 2 rfl) ?_
      refine lv_isub hx hb dX5_weightedSum_18 ?_
      refine lv_topi (fun x18 ex18 => ?_)
      have hw := hw x18 ex18
      refine lv_aload_n hx hb dX5_weightedSum_19 rfl (lv_at hl 0 rfl) ?_
      refine w_gR (C := RX5) (T := TX5) (N := 7) (ci := 5) hx hb hts in5 hown hK hP 0 ho.1 ho rfl (by decide) (ch5_0 ho).1 (hts _ mf_X5_9) dX5_weightedSum_20 ?_
      refine lv_iload_n hx hb dX5_weightedSum_23 rfl (lv_at hl 2 rfl) ?_
      obtain ⟨hi1, hw⟩ := hw
      refine w_ia (N := 17) hx hb hK hP (ch5_0 ho).2.1.1 (ch5_0 ho).2.1 (ch5_0 ho).2.2 hi1 dX5_weightedSum_24 ?_
      refine lv_topi (fun x24 ex24 => ?_)
      have hw := hw x24 ex24
      refine lv_imul hx hb dX5_weightedSum_25 ?_
      refine lv_topi (fun x25 ex25 => ?_)
      have hw := hw x25 ex25
      refine lv_iadd hx hb dX5_weightedSum_26 ?_
      refine lv_topi (fun x26 ex26 => ?_)
      have hw := hw x26 ex26
      refine lv_istore_n (lv' := [(1, .int x26), (0, .ref (base + o)), (2, .int a2)]) hx hb dX5_weightedSum_27 rfl hl (by decide) rfl (fun ls hl => ?_)
      obtain ⟨x28, ex28⟩ : ∃ y : Int32, y = a2 + 1 := ⟨_, rfl⟩
      have hw := hw x28 ex28
      refine lv_iinc (v := x28) (lv' := [(2, .int x28), (1, .int x26), (0, .ref (base + o))]) hx hb dX5_weightedSum_28 hl (k := 2) rfl (by rw [ex28]; first | rfl | (rw [show Int32.ofInt (-1) = (-1 : Int32) from by decide])) (by decide) rfl (fun ls hl => ?_)
      refine lv_goto (tgt := 4) hx hb dX5_weightedSum_31 (by decide) ?_
      exact ih x26 x28 v _ _ _ hw (lv_sub hl [2, 1, 0] rfl) hP hS
def w_X5_weightedSum (o : Nat) (v : VV) (Q : Int32 → VV → Prop) : Prop :=
  ∃ fu : Nat, b_X5_weightedSum_4 o Q  fu 0 0 v
set_option maxHeartbeats 4000000 in
set_option maxRecDepth 100000 in
/-- TransportFour$Unit.weightedSum -/
theorem t_X5_weightedSum (l : Launch) (dC : Nat → ClassId) (dI : Nat → Nat → Nat) (base : Nat) (cy : Nat → ClassId) (o : Nat) (ho : isO 5 o) (v : VV) (Q : Int32 → VV → Prop) (hw : w_X5_weightedSum o v Q) : CI l yX5_weightedSum (.code yX5_weightedSum cX5_weightedSum 3 (some .int) :: TB) { frames := 0, cells := 0, slots := 0, locals := 0 } dC dI base cy [.ref (base + o)] v Q := by
  refine Met.ofW (cc := cX5_weightedSum) (maxL := 3) (ret := (some .int)) (by decide) rfl ?_
  intro p e s m args below meth c s₁ B hml hv
  obtain ⟨rfl, hP, hK⟩ := hv
  have hx := B.exec
  have hb := B.bytes
  have hr := B.returns
  have hts0 := atoms_spec (ws := (.code yX5_weightedSum cX5_weightedSum 3 (some .int) :: TB)) B.pre
  have hts : ∀ w ∈ TB, w.before ([.ref (base + o)]).toArray s = true := fun w h => hts0 w (List.mem_cons_of_mem _ h)
  have hown : s.vm.findClass RX5 = some m.cls := findClass_of_methodNamed B.named
  have hlocks := B.notSynchronized
  have hS : va_S (fun q => base ≤ q) s.heap s.heap [] := va_S.rf
  have hl := lv_entry ([.ref (base + o)]) (n := 3) (Nat.le_of_ble_eq_true rfl)
  rw [lg_entry_eq]
  generalize (lg_sl ([.ref (base + o)]) ++ List.replicate (3 - (lg_sl ([.ref (base + o)])).length) Slot.unset).toArray = ls at hl ⊢
  have hl : lv_has ls 3 [(0, .ref (base + o))] := hl
  have hret : ∀ (pc : Nat) (x : Int32) (v : VV) (H : Heap) (locs : List Loc) (ls : Array Slot), decode cX5_weightedSum pc = .ok (.ireturn, 1) → Q x v → va_P (dC, dI) vwCl (Wd base cy rf v 874) H → va_S (fun q => base ≤ q) s.heap H locs → W p l e { frames := 0, cells := 0, slots := 0, locals := 0 } s m ([.ref (base + o)]).toArray below meth c H locs 0 0 (MQ below (va_Qi Q (Hp dC dI base cy) (fun q => base ≤ q)) ([.ref (base + o)]).toArray s 0 0 (fun q => base ≤ q)) (F0 m pc ls [.int x]) := fun pc x v H locs ls hd hq hP hS => W.iret (v := x) hx hb hr (fun t ht hW => ⟨⟨x, v, rfl, hq, by rw [ht]; exact hP, va_K.moved hW.alike hK⟩, hS.F ht⟩) hS.2.2 hd
  refine lv_iconst (v := 0) hx hb dX5_weightedSum_0 (by decide) ?_
  refine lv_istore_n (lv' := [(1, .int 0), (0, .ref (base + o))]) hx hb dX5_weightedSum_1 rfl hl (by decide) rfl (fun ls hl => ?_)
  refine lv_iconst (v := 0) hx hb dX5_weightedSum_2 (by decide) ?_
  refine lv_istore_n (lv' := [(2, .int 0), (1, .int 0), (0, .ref (base + o))]) hx hb dX5_weightedSum_3 rfl hl (by decide) rfl (fun ls hl => ?_)
  obtain ⟨fu, hw⟩ := hw
  exact tb_X5_weightedSum_4 hx hb hml hown hts hK o ho _ hret  fu 0 0 v _ _ _ hw (lv_sub hl [2, 1, 0] rfl) hP hS
def b_X5_fillChecks_99 (o : Nat) (p1 : Int32) (p2 : Int32) (Q : VV → Prop) (a1 : Int32) (a2 : Int32) (a3 : Int32) (a4 : Int32) (a5 : Int32) (a6 : Int32) (s0 : Int32) (s1 : Int32) (v : VV) : Prop :=
  vp_in s1 17 ∧ ∀ v1 : VV, v1 = up2 v (o + 1) (Int32.toNatClampNeg s1) s0 → Q v1
set_option maxHeartbeats 4000000 in
set_option maxRecDepth 100000 in
theorem tb_X5_fillChecks_99 {p : Program} {l : Launch} {e : Env} {s : State} {m : MethodId} {args : Array Value} {below : List Frame} {meth : Method} {c : Code} {QQ : State → Prop} {dC : Nat → ClassId} {dI : Nat → Nat → Nat} {base : Nat} {cy : Nat → ClassId} (hx : p.tables.exec = Jvm.exec) (hb : c.code = cX5_fillChecks) (hml : c.maxLocals = 7) (hown : s.vm.findClass RX5 = some m.cls) (hts : ∀ w ∈ TB, w.before args s = true) (hK : va_K (dC, dI) vwCl (tyL cy) s) (o : Nat) (ho : isO 5 o) (p1 : Int32) (p2 : Int32) (Q : VV → Prop) (hret : ∀ (pc : Nat) (v : VV) (H : Heap) (locs : List Loc) (ls : Array Slot), decode cX5_fillChecks pc = .ok (.return_, 1) → Q v → va_P (dC, dI) vwCl (Wd base cy rf v 874) H → va_S (fun q => base ≤ q) s.heap H locs → W p l e { frames := 0, cells := 0, slots := 0, locals := 0 } s m args below meth c H locs 0 0 QQ (F0 m pc ls [])) (a1 : Int32) (a2 : Int32) (a3 : Int32) (a4 : Int32) (a5 : Int32) (a6 : Int32) (s0 : Int32) (s1 : Int32) (v : VV) (H : Heap) (locs : List Loc) (ls : Array Slot) (hw : b_X5_fillChecks_99 o p1 p2 Q  a1 a2 a3 a4 a5 a6 s0 s1 v) : lv_has ls 7 [(0, .ref (base + o)), (1, .int a1), (2, .int a2), (3, .int a3), (4, .int a4), (5, .int a5), (6, .int a6)] → va_P (dC, dI) vwCl (Wd base cy rf v 874) H → va_S (fun q => base ≤ q) s.heap H locs → W p l e { frames := 0, cells := 0, slots := 0, locals := 0 } s m args below meth c H locs 0 0 QQ (F0 m 99 ls [.int s0, .int s1, .ref (base + (o + 1))]) := by
  intro hl hP hS
  obtain ⟨hi2, hw⟩ := hw
  refine w_is (N := 17) hx hb hK hP hS (ch5_0 ho).2.1.1 (ch5_0 ho).2.1 (ch5_0 ho).2.2 hi2 dX5_fillChecks_99 (fun v1 H locs hv1 hP hz hS => ?_)
  have hw := hw v1 hv1
  exact hret _ _ _ _ _ dX5_fillChecks_100 hw hP hS
def b_X5_fillChecks_77 (o : Nat) (p1 : Int32) (p2 : Int32) (Q : VV → Prop) (a1 : Int32) (a2 : Int32) (a3 : Int32) (a4 : Int32) (a5 : Int32) (a6 : Int32) (s0 : Int32) (s1 : Int32) (v : VV) : Prop :=
  vp_in s1 17 ∧ ∀ v1 : VV, v1 = up2 v (o + 1) (Int32.toNatClampNeg s1) s0 → (0 ≤ a6 → b_X5_fillChecks_99 o p1 p2 Q  a1 a2 a3 a4 a5 a6 a6 a3 v1) ∧ (¬ 0 ≤ a6 → ∀ x93 : Int32, x93 = a6 + 255 → b_X5_fillChecks_99 o p1 p2 Q  a1 a2 a3 a4 a5 a6 x93 a3 v1)
set_option maxHeartbeats 4000000 in
set_option maxRecDepth 100000 in
theorem tb_X5_fillChecks_77 {p : Program} {l : Launch} {e : Env} {s : State} {m : MethodId} {args : Array Value} {below : List Frame} {meth : Method} {c : Code} {QQ : State → Prop} {dC : Nat → ClassId} {dI : Nat → Nat → Nat} {base : Nat} {cy : Nat → ClassId} (hx : p.tables.exec = Jvm.exec) (hb : c.code = cX5_fillChecks) (hml : c.maxLocals = 7) (hown : s.vm.findClass RX5 = some m.cls) (hts : ∀ w ∈ TB, w.before args s = true) (hK : va_K (dC, dI) vwCl (tyL cy) s) (o : Nat) (ho : isO 5 o) (p1 : Int32) (p2 : Int32) (Q : VV → Prop) (hret : ∀ (pc : Nat) (v : VV) (H : Heap) (locs : List Loc) (ls : Array Slot), decode cX5_fillChecks pc = .ok (.return_, 1) → Q v → va_P (dC, dI) vwCl (Wd base cy rf v 874) H → va_S (fun q => base ≤ q) s.heap H locs → W p l e { frames := 0, cells := 0, slots := 0, locals := 0 } s m args below meth c H locs 0 0 QQ (F0 m pc ls [])) (a1 : Int32) (a2 : Int32) (a3 : Int32) (a4 : Int32) (a5 : Int32) (a6 : Int32) (s0 : Int32) (s1 : Int32) (v : VV) (H : Heap) (locs : List Loc) (ls : Array Slot) (hw : b_X5_fillChecks_77 o p1 p2 Q  a1 a2 a3 a4 a5 a6 s0 s1 v) : lv_has ls 7 [(0, .ref (base + o)), (1, .int a1), (2, .int a2), (3, .int a3), (4, .int a4), (5, .int a5), (6, .int a6)] → va_P (dC, dI) vwCl (Wd base cy rf v 874) H → va_S (fun q => base ≤ q) s.heap H locs → W p l e { frames := 0, cells := 0, slots := 0, locals := 0 } s m args below meth c H locs 0 0 QQ (F0 m 77 ls [.int s0, .int s1, .ref (base + (o + 1))]) := by
  intro hl hP hS
  obtain ⟨hi2, hw⟩ := hw
  refine w_is (N := 17) hx hb hK hP hS (ch5_0 ho).2.1.1 (ch5_0 ho).2.1 (ch5_0 ho).2.2 hi2 dX5_fillChecks_77 (fun v1 H locs hv1 hP hz hS => ?_)
  have hw := hw v1 hv1
  refine lv_aload_n hx hb dX5_fillChecks_78 rfl (lv_at hl 0 rfl) ?_
  refine w_gR (C := RX5) (T := TX5) (N := 7) (ci := 5) hx hb hts in5 hown hK hP 0 ho.1 ho rfl (by decide) (ch5_0 ho).1 (hts _ mf_X5_9) dX5_fillChecks_79 ?_
  refine lv_iload_n hx hb dX5_fillChecks_82 rfl (lv_at hl 3 rfl) ?_
  refine lv_iload hx hb dX5_fillChecks_83 (lv_at hl 6 rfl) ?_
  refine lv_if_ge (tgt := 97) hx hb dX5_fillChecks_85 (by decide) (fun c85 => ?_) (fun c85 => ?_)
  · have hw := hw.1 c85
    refine lv_iload hx hb dX5_fillChecks_97 (lv_at hl 6 rfl) ?_
    exact tb_X5_fillChecks_99 hx hb hml hown hts hK o ho p1 p2 _ hret  a1 a2 a3 a4 a5 a6 a6 a3 v1 _ _ _ hw (lv_sub hl [0, 1, 2, 3, 4, 5, 6] rfl) hP hS
  · have hw := hw.2 c85
    refine lv_iload hx hb dX5_fillChecks_88 (lv_at hl 6 rfl) ?_
    refine lv_sipush (v := 255) hx hb dX5_fillChecks_90 (by decide) ?_
    refine lv_iadd hx hb dX5_fillChecks_93 ?_
    refine lv_topi (fun x93 ex93 => ?_)
    have hw := hw x93 ex93
    refine lv_goto (tgt := 99) hx hb dX5_fillChecks_94 (by decide) ?_
    exact tb_X5_fillChecks_99 hx hb hml hown hts hK o ho p1 p2 _ hret  a1 a2 a3 a4 a5 a6 x93 a3 v1 _ _ _ hw (lv_sub hl [0, 1, 2, 3, 4, 5, 6] rfl) hP hS
def w_X5_fillChecks (o : Nat) (p1 : Int32) (p2 : Int32) (v : VV) (Q : VV → Prop) : Prop :=
  ∀ x5 : Int32, x5 = v (o + 1) (Int32.toNatClampNeg 0) → ∀ x8 : Int32, x8 = v o 1 → ∀ x12 : Int32, x12 = x8 - x5 → ∀ x18 : Int32, x18 = x12 * p1 → ∀ x20 : Int32, x20 = x18 - p2 → ∀ x24 : Int32, x24 = x20 - x20 / 255 * 255 → ∀ x31 : Int32, x31 = x12 + 1 → ∀ x33 : Int32, x33 = x31 * p1 → ∀ x34 : Int32, x34 = p2 - x33 → ∀ x38 : Int32, x38 = x34 - x34 / 255 * 255 → (x5 < 1 → Q v) ∧ (¬ x5 < 1 → ∀ x48 : Int32, x48 = v o 1 → (x48 ≤ x5 → Q v) ∧ (¬ x48 ≤ x5 → ∀ x60 : Int32, x60 = x5 - 1 → (0 ≤ x24 → b_X5_fillChecks_77 o p1 p2 Q  p1 p2 x5 x12 x24 x38 x24 x60 v) ∧ (¬ 0 ≤ x24 → ∀ x71 : Int32, x71 = x24 + 255 → b_X5_fillChecks_77 o p1 p2 Q  p1 p2 x5 x12 x24 x38 x71 x60 v)))
set_option maxHeartbeats 4000000 in
set_option maxRecDepth 100000 in
/-- TransportFour$Unit.fillChecks -/
theorem t_X5_fillChecks (l : Launch) (dC : Nat → ClassId) (dI : Nat → Nat → Nat) (base : Nat) (cy : Nat → ClassId) (o : Nat) (ho : isO 5 o) (p1 : Int32) (p2 : Int32) (v : VV) (Q : VV → Prop) (hw : w_X5_fillChecks o p1 p2 v Q) : CV l yX5_fillChecks (.code yX5_fillChecks cX5_fillChecks 7 none :: TB) { frames := 0, cells := 0, slots := 0, locals := 0 } dC dI base cy [.ref (base + o), .int p1, .int p2] v Q := by
  refine Met.ofW (cc := cX5_fillChecks) (maxL := 7) (ret := none) (by decide) rfl ?_
  intro p e s m args below meth c s₁ B hml hv
  obtain ⟨rfl, hP, hK⟩ := hv
  have hx := B.exec
  have hb := B.bytes
  have hr := B.returns
  have hts0 := atoms_spec (ws := (.code yX5_fillChecks cX5_fillChecks 7 none :: TB)) B.pre
  have hts : ∀ w ∈ TB, w.before ([.ref (base + o), .int p1, .int p2]).toArray s = true := fun w h => hts0 w (List.mem_cons_of_mem _ h)
  have hown : s.vm.findClass RX5 = some m.cls := findClass_of_methodNamed B.named
  have hlocks := B.notSynchronized
  have hS : va_S (fun q => base ≤ q) s.heap s.heap [] := va_S.rf
  have hl := lv_entry ([.ref (base + o), .int p1, .int p2]) (n := 7) (Nat.le_of_ble_eq_true rfl)
  rw [lg_entry_eq]
  generalize (lg_sl ([.ref (base + o), .int p1, .int p2]) ++ List.replicate (7 - (lg_sl ([.ref (base + o), .int p1, .int p2])).length) Slot.unset).toArray = ls at hl ⊢
  have hl : lv_has ls 7 [(0, .ref (base + o)), (1, .int p1), (2, .int p2)] := hl
  have hret : ∀ (pc : Nat) (v : VV) (H : Heap) (locs : List Loc) (ls : Array Slot), decode cX5_fillChecks pc = .ok (.return_, 1) → Q v → va_P (dC, dI) vwCl (Wd base cy rf v 874) H → va_S (fun q => base ≤ q) s.heap H locs → W p l e { frames := 0, cells := 0, slots := 0, locals := 0 } s m ([.ref (base + o), .int p1, .int p2]).toArray below meth c H locs 0 0 (MQ below (va_Qv Q (Hp dC dI base cy) (fun q => base ≤ q)) ([.ref (base + o), .int p1, .int p2]).toArray s 0 0 (fun q => base ≤ q)) (F0 m pc ls []) := fun pc v H locs ls hd hq hP hS => W.vret hx hb hr (fun t ht hW => ⟨⟨v, rfl, hq, by rw [ht]; exact hP, va_K.moved hW.alike hK⟩, hS.F ht⟩) hS.2.2 hd
  refine lv_aload_n hx hb dX5_fillChecks_0 rfl (lv_at hl 0 rfl) ?_
  refine w_gR (C := RX5) (T := TX5) (N := 7) (ci := 5) hx hb hts in5 hown hK hP 0 ho.1 ho rfl (by decide) (ch5_0 ho).1 (hts _ mf_X5_9) dX5_fillChecks_1 ?_
  refine lv_iconst (v := 0) hx hb dX5_fillChecks_4 (by decide) ?_
  refine w_ia (N := 17) hx hb hK hP (ch5_0 ho).2.1.1 (ch5_0 ho).2.1 (ch5_0 ho).2.2 (vp_in_nI (n := 0) (by decide) (by decide)) dX5_fillChecks_5 ?_
  refine lv_topi (fun x5 ex5 => ?_)
  have hw := hw x5 ex5
  refine lv_istore_n (lv' := [(3, .int x5), (0, .ref (base + o)), (1, .int p1), (2, .int p2)]) hx hb dX5_fillChecks_6 rfl hl (by decide) rfl (fun ls hl => ?_)
  refine lv_aload_n hx hb dX5_fillChecks_7 rfl (lv_at hl 1 rfl) ?_
  refine w_gI (C := RX5) (T := TX5) (N := 7) (ci := 5) hx hb hts in5 hown hK hP 1 ho.1 ho rfl (by decide) (hts _ mf_X5_19) dX5_fillChecks_8 ?_
  refine lv_topi (fun x8 ex8 => ?_)
  have hw := hw x8 ex8
  refine lv_iload_n hx hb dX5_fillChecks_11 rfl (lv_at hl 0 rfl) ?_
  refine lv_isub hx hb dX5_fillChecks_12 ?_
  refine lv_topi (fun x12 ex12 => ?_)
  have hw := hw x12 ex12
  refine lv_istore (lv' := [(4, .int x12), (3, .int x5), (0, .ref (base + o)), (1, .int p1), (2, .int p2)]) hx hb dX5_fillChecks_13 hl (by decide) rfl (fun ls hl => ?_)
  refine lv_iload hx hb dX5_fillChecks_15 (lv_at hl 0 rfl) ?_
  refine lv_iload_n hx hb dX5_fillChecks_17 rfl (lv_at hl 3 rfl) ?_
  refine lv_imul hx hb dX5_fillChecks_18 ?_
  refine lv_topi (fun x18 ex18 => ?_)
  have hw := hw x18 ex18
  refine lv_iload_n hx hb dX5_fillChecks_19 rfl (lv_at hl 4 rfl) ?_
  refine lv_isub hx hb dX5_fillChecks_20 ?_
  refine lv_topi (fun x20 ex20 => ?_)
  have hw := hw x20 ex20
  refine lv_sipush (v := 255) hx hb dX5_fillChecks_21 (by decide) ?_
  refine lv_irem hx hb dX5_fillChecks_24 (by decide) ?_
  refine lv_topi (fun x24 ex24 => ?_)
  have hw := hw x24 ex24
  refine lv_istore (lv' := [(5, .int x24), (4, .int x12), (3, .int x5), (0, .ref (base + o)), (1, .int p1), (2, .int p2)]) hx hb dX5_fillChecks_25 hl (by decide) rfl (fun ls hl => ?_)
  refine lv_iload_n hx hb dX5_fillChecks_27 rfl (lv_at hl 5 rfl) ?_
  refine lv_iload hx hb dX5_fillChecks_28 (lv_at hl 1 rfl) ?_
  refine lv_iconst (v := 1) hx hb dX5_fillChecks_30 (by decide) ?_
  refine lv_iadd hx hb dX5_fillChecks_31 ?_
  refine lv_topi (fun x31 ex31 => ?_)
  have hw := hw x31 ex31
  refine lv_iload_n hx hb dX5_fillChecks_32 rfl (lv_at hl 4 rfl) ?_
  refine lv_imul hx hb dX5_fillChecks_33 ?_
  refine lv_topi (fun x33 ex33 => ?_)
  have hw := hw x33 ex33
  refine lv_isub hx hb dX5_fillChecks_34 ?_
  refine lv_topi (fun x34 ex34 => ?_)
  have hw := hw x34 ex34
  refine lv_sipush (v := 255) hx hb dX5_fillChecks_35 (by decide) ?_
  refine lv_irem hx hb dX5_fillChecks_38 (by decide) ?_
  refine lv_topi (fun x38 ex38 => ?_)
  have hw := hw x38 ex38
  refine lv_istore (lv' := [(6, .int x38), (5, .int x24), (4, .int x12), (3, .int x5), (0, .ref (base + o)), (1, .int p1), (2, .int p2)]) hx hb dX5_fillChecks_39 hl (by decide) rfl (fun ls hl => ?_)
  refine lv_iload_n hx hb dX5_fillChecks_41 rfl (lv_at hl 3 rfl) ?_
  refine lv_iconst (v := 1) hx hb dX5_fillChecks_42 (by decide) ?_
  refine lv_icmp_lt (tgt := 100) hx hb dX5_fillChecks_43 (by decide) (fun c43 => ?_) (fun c43 => ?_)
  · have hw := hw.1 c43
    exact hret _ _ _ _ _ dX5_fillChecks_100 hw hP hS
  · have hw := hw.2 c43
    refine lv_iload_n hx hb dX5_fillChecks_46 rfl (lv_at hl 3 rfl) ?_
    refine lv_aload_n hx hb dX5_fillChecks_47 rfl (lv_at hl 4 rfl) ?_
    refine w_gI (C := RX5) (T := TX5) (N := 7) (ci := 5) hx hb hts in5 hown hK hP 1 ho.1 ho rfl (by decide) (hts _ mf_X5_19) dX5_fillChecks_48 ?_
    refine lv_topi (fun x48 ex48 => ?_)
    have hw := hw x48 ex48
    refine lv_icmp_ge (tgt := 100) hx hb dX5_fillChecks_51 (by decide) (fun c51 => ?_) (fun c51 => ?_)
    · have hw := hw.1 c51
      exact hret _ _ _ _ _ dX5_fillChecks_100 hw hP hS
    · have hw := hw.2 c51
      refine lv_aload_n hx hb dX5_fillChecks_54 rfl (lv_at hl 4 rfl) ?_
      refine w_gR (C := RX5) (T := TX5) (N := 7) (ci := 5) hx hb hts in5 hown hK hP 0 ho.1 ho rfl (by decide) (ch5_0 ho).1 (hts _ mf_X5_9) dX5_fillChecks_55 ?_
      refine lv_iload_n hx hb dX5_fillChecks_58 rfl (lv_at hl 3 rfl) ?_
      refine lv_iconst (v := 1) hx hb dX5_fillChecks_59 (by decide) ?_
      refine lv_isub hx hb dX5_fillChecks_60 ?_
      refine lv_topi (fun x60 ex60 => ?_)
      have hw := hw x60 ex60
      refine lv_iload hx hb dX5_fillChecks_61 (lv_at hl 1 rfl) ?_
      refine lv_if_ge (tgt := 75) hx hb dX5_fillChecks_63 (by decide) (fun c63 => ?_) (fun c63 => ?_)
      · have hw := hw.1 c63
        refine lv_iload hx hb dX5_fillChecks_75 (lv_at hl 1 rfl) ?_
        exact tb_X5_fillChecks_77 hx hb hml hown hts hK o ho p1 p2 _ hret  p1 p2 x5 x12 x24 x38 x24 x60 v _ _ _ hw (lv_sub hl [4, 5, 6, 3, 2, 1, 0] rfl) hP hS
      · have hw := hw.2 c63
        refine lv_iload hx hb dX5_fillChecks_66 (lv_at hl 1 rfl) ?_
        refine lv_sipush (v := 255) hx hb dX5_fillChecks_68 (by decide) ?_
        refine lv_iadd hx hb dX5_fillChecks_71 ?_
        refine lv_topi (fun x71 ex71 => ?_)
        have hw := hw x71 ex71
        refine lv_goto (tgt := 77) hx hb dX5_fillChecks_72 (by decide) ?_
        exact tb_X5_fillChecks_77 hx hb hml hown hts hK o ho p1 p2 _ hret  p1 p2 x5 x12 x24 x38 x71 x60 v _ _ _ hw (lv_sub hl [4, 5, 6, 3, 2, 1, 0] rfl) hP hS
def b_X2_applyFaults_115 (p1 : Nat) (Q : VV → Prop) (K7 : Int32 → Int32 → Int32 → VV → Prop) (a2 : Int32) (a3 : Int32) (a4 : Int32) (v : VV) : Prop :=
  ∀ x115 : Int32, x115 = a4 + 1 → K7 a2 a3 x115 v
set_option maxHeartbeats 4000000 in
set_option maxRecDepth 100000 in
theorem tb_X2_applyFaults_115 {p : Program} {l : Launch} {e : Env} {s : State} {m : MethodId} {args : Array Value} {below : List Frame} {meth : Method} {c : Code} {QQ : State → Prop} {dC : Nat → ClassId} {dI : Nat → Nat → Nat} {base : Nat} {cy : Nat → ClassId} (hx : p.tables.exec = Jvm.exec) (hb : c.code = cX2_applyFaults) (hml : c.maxLocals = 5) (hown : s.vm.findClass RX2 = some m.cls) (hts : ∀ w ∈ TB, w.before args s = true) (hK : va_K (dC, dI) vwCl (tyL cy) s) (p1 : Nat) (hp1 : isO 5 p1) (Q : VV → Prop) (hret : ∀ (pc : Nat) (v : VV) (H : Heap) (locs : List Loc) (ls : Array Slot), decode cX2_applyFaults pc = .ok (.return_, 1) → Q v → va_P (dC, dI) vwCl (Wd base cy rf v 874) H → va_S (fun q => base ≤ q) s.heap H locs → W p l e { frames := 0, cells := 0, slots := 0, locals := 0 } s m args below meth c H locs 0 0 QQ (F0 m pc ls [])) (K7 : Int32 → Int32 → Int32 → VV → Prop) (hK7 : ∀ (a2 : Int32) (a3 : Int32) (a4 : Int32) (v : VV) (H : Heap) (locs : List Loc) (ls : Array Slot), K7 a2 a3 a4 v → lv_has ls 5 [(0, .ref (base + 1)), (1, .ref (base + p1)), (2, .int a2), (3, .int a3), (4, .int a4)] → va_P (dC, dI) vwCl (Wd base cy rf v 874) H → va_S (fun q => base ≤ q) s.heap H locs → W p l e { frames := 0, cells := 0, slots := 0, locals := 0 } s m args below meth c H locs 0 0 QQ (F0 m 7 ls [])) (a2 : Int32) (a3 : Int32) (a4 : Int32) (v : VV) (H : Heap) (locs : List Loc) (ls : Array Slot) (hw : b_X2_applyFaults_115 p1 Q K7 a2 a3 a4 v) : lv_has ls 5 [(0, .ref (base + 1)), (1, .ref (base + p1)), (2, .int a2), (3, .int a3), (4, .int a4)] → va_P (dC, dI) vwCl (Wd base cy rf v 874) H → va_S (fun q => base ≤ q) s.heap H locs → W p l e { frames := 0, cells := 0, slots := 0, locals := 0 } s m args below meth c H locs 0 0 QQ (F0 m 115 ls []) := by
  intro hl hP hS
  obtain ⟨x115, ex115⟩ : ∃ y : Int32, y = a4 + 1 := ⟨_, rfl⟩
  have hw := hw x115 ex115
  refine lv_iinc (v := x115) (lv' := [(4, .int x115), (0, .ref (base + 1)), (1, .ref (base + p1)), (2, .int a2), (3, .int a3)]) hx hb dX2_applyFaults_115 hl (k := 4) rfl (by rw [ex115]; first | rfl | (rw [show Int32.ofInt (-1) = (-1 : Int32) from by decide])) (by decide) rfl (fun ls hl => ?_)
  refine lv_goto (tgt := 7) hx hb dX2_applyFaults_118 (by decide) ?_
  exact hK7 a2 a3 x115 v _ _ _ hw (lv_sub hl [1, 2, 3, 4, 0] rfl) hP hS
def b_X2_applyFaults_7 (p1 : Nat) (Q : VV → Prop) (fu : Nat) : Int32 → Int32 → Int32 → VV → Prop :=
  Nat.rec (motive := fun _ => Int32 → Int32 → Int32 → VV → Prop) (fun _ _ _ _ => False) (fun _ ih a2 a3 a4 v => ∀ x10 : Int32, x10 = v 1 7 → (x10 ≤ a4 → (a2 = 0 → (a3 = 0 → Q v) ∧ (¬ a3 = 0 → ∀ x139 : Int32, x139 = v p1 3 → ∀ x143 : Int32, x143 = x139 + 1 → ∀ v1 : VV, v1 = up2 v p1 4 x143 → Q v1)) ∧ (¬ a2 = 0 → ∀ v2 : VV, v2 = up2 v p1 3 ((-1)) → Q v2)) ∧ (¬ x10 ≤ a4 → vp_in a4 60 ∧ ∀ x22 : Int32, x22 = v 6 (Int32.toNatClampNeg a4) → ∀ x24 : Int32, x24 = v 1 8 → (x22 = x24 → vp_in a4 60 ∧ ∀ x39 : Int32, x39 = v 5 (Int32.toNatClampNeg a4) → (x39 = 1 → b_X2_applyFaults_115 p1 Q ih 1 a3 a4 v) ∧ (x39 = 2 → b_X2_applyFaults_115 p1 Q ih a2 1 a4 v) ∧ (x39 = 3 → ∀ x80 : Int32, x80 = v 1 10 → ∀ x84 : Int32, x84 = x80 + 2 → ∀ x86 : Int32, x86 = x84 + 5 → ∀ v5 : VV, v5 = up2 v p1 3 x86 → b_X2_applyFaults_115 p1 Q ih a2 a3 a4 v5) ∧ (¬ x39 = 1 → ¬ x39 = 2 → ¬ x39 = 3 → vp_in a4 60 ∧ ∀ x100 : Int32, x100 = v 7 (Int32.toNatClampNeg a4) → ∀ v7 : VV, v7 = up2 v p1 5 x100 → vp_in a4 60 ∧ ∀ x111 : Int32, x111 = v7 8 (Int32.toNatClampNeg a4) → ∀ v9 : VV, v9 = up2 v7 p1 6 x111 → b_X2_applyFaults_115 p1 Q ih a2 a3 a4 v9)) ∧ (¬ x22 = x24 → b_X2_applyFaults_115 p1 Q ih a2 a3 a4 v))) fu
set_option maxHeartbeats 4000000 in
set_option maxRecDepth 100000 in
theorem tb_X2_applyFaults_7 {p : Program} {l : Launch} {e : Env} {s : State} {m : MethodId} {args : Array Value} {below : List Frame} {meth : Method} {c : Code} {QQ : State → Prop} {dC : Nat → ClassId} {dI : Nat → Nat → Nat} {base : Nat} {cy : Nat → ClassId} (hx : p.tables.exec = Jvm.exec) (hb : c.code = cX2_applyFaults) (hml : c.maxLocals = 5) (hown : s.vm.findClass RX2 = some m.cls) (hts : ∀ w ∈ TB, w.before args s = true) (hK : va_K (dC, dI) vwCl (tyL cy) s) (p1 : Nat) (hp1 : isO 5 p1) (Q : VV → Prop) (hret : ∀ (pc : Nat) (v : VV) (H : Heap) (locs : List Loc) (ls : Array Slot), decode cX2_applyFaults pc = .ok (.return_, 1) → Q v → va_P (dC, dI) vwCl (Wd base cy rf v 874) H → va_S (fun q => base ≤ q) s.heap H locs → W p l e { frames := 0, cells := 0, slots := 0, locals := 0 } s m args below meth c H locs 0 0 QQ (F0 m pc ls [])) : ∀ (fu : Nat) (a2 : Int32) (a3 : Int32) (a4 : Int32) (v : VV) (H : Heap) (locs : List Loc) (ls : Array Slot), b_X2_applyFaults_7 p1 Q  fu a2 a3 a4 v → lv_has ls 5 [(0, .ref (base + 1)), (1, .ref (base + p1)), (2, .int a2), (3, .int a3), (4, .int a4)] → va_P (dC, dI) vwCl (Wd base cy rf v 874) H → va_S (fun q => base ≤ q) s.heap H locs → W p l e { frames := 0, cells := 0, slots := 0, locals := 0 } s m args below meth c H locs 0 0 QQ (F0 m 7 ls []) := by
  intro fu
  induction fu with
  | zero =>
    intro a2 a3 a4 v H locs ls hw hl hP hS
    exact hw.elim
  | succ fu ih =>
    intro a2 a3 a4 v H locs ls hw hl hP hS
    refine lv_iload hx hb dX2_applyFaults_7 (lv_at hl 4 rfl) ?_
    refine lv_aload_n hx hb dX2_applyFaults_9 rfl (lv_at hl 0 rfl) ?_
    refine w_gI (C := RX2) (T := TX2) (N := 11) (ci := 2) hx hb hts in2 hown hK hP 7 th2.1 th2 rfl (by decide) (hts _ mf_X2_38) dX2_applyFaults_10 ?_
    refine lv_topi (fun x10 ex10 => ?_)
    have hw := hw x10 ex10
    refine lv_icmp_ge (tgt := 121) hx hb dX2_applyFaults_13 (by decide) (fun c13 => ?_) (fun c13 => ?_)
    · have hw := hw.1 c13
      refine lv_iload_n hx hb dX2_applyFaults_121 rfl (lv_at hl 2 rfl) ?_
      refine lv_if_eq (tgt := 133) hx hb dX2_applyFaults_122 (by decide) (fun c122 => ?_) (fun c122 => ?_)
      · have hw := hw.1 c122
        refine lv_iload_n hx hb dX2_applyFaults_133 rfl (lv_at hl 3 rfl) ?_
        refine lv_if_eq (tgt := 147) hx hb dX2_applyFaults_134 (by decide) (fun c134 => ?_) (fun c134 => ?_)
        · have hw := hw.1 c134
          exact hret _ _ _ _ _ dX2_applyFaults_147 hw hP hS
        · have hw := hw.2 c134
          refine lv_aload_n hx hb dX2_applyFaults_137 rfl (lv_at hl 1 rfl) ?_
          refine lv_aload_n hx hb dX2_applyFaults_138 rfl (lv_at hl 1 rfl) ?_
          refine w_gI (C := RX5) (T := TX5) (N := 7) (ci := 5) hx hb hts in5 hown hK hP 3 hp1.1 hp1 rfl (by decide) (hts _ mf_X2_66) dX2_applyFaults_139 ?_
          refine lv_topi (fun x139 ex139 => ?_)
          have hw := hw x139 ex139
          refine lv_iconst (v := 1) hx hb dX2_applyFaults_142 (by decide) ?_
          refine lv_iadd hx hb dX2_applyFaults_143 ?_
          refine lv_topi (fun x143 ex143 => ?_)
          have hw := hw x143 ex143
          refine w_pI (C := RX5) (T := TX5) (N := 7) (ci := 5) hx hb hts in5 tyX5 tyX5_ok nmX5 hown hK hP hS 4 hp1.1 hp1 rfl (by decide) (hts _ mf_X2_69) rfl (ty := .int) (by decide +kernel) rfl rfl dX2_applyFaults_144 (fun v1 H locs hv1 hP hz hS => ?_)
          have hw := hw v1 hv1
          exact hret _ _ _ _ _ dX2_applyFaults_147 hw hP hS
      · have hw := hw.2 c122
        refine lv_aload_n hx hb dX2_applyFaults_125 rfl (lv_at hl 1 rfl) ?_
        refine lv_iconst (v := -1) hx hb dX2_applyFaults_126 (by decide) ?_
        refine w_pI (C := RX5) (T := TX5) (N := 7) (ci := 5) hx hb hts in5 tyX5 tyX5_ok nmX5 hown hK hP hS 3 hp1.1 hp1 rfl (by decide) (hts _ mf_X2_66) rfl (ty := .int) (by decide +kernel) rfl rfl dX2_applyFaults_127 (fun v2 H locs hv2 hP hz hS => ?_)
        have hw := hw v2 hv2
        refine lv_goto (tgt := 147) hx hb dX2_applyFaults_130 (by decide) ?_
        exact hret _ _ _ _ _ dX2_applyFaults_147 hw hP hS
    · have hw := hw.2 c13
      refine lv_aload_n hx hb dX2_applyFaults_16 rfl (lv_at hl 0 rfl) ?_
      refine w_gR (C := RX2) (T := TX2) (N := 11) (ci := 2) hx hb hts in2 hown hK hP 3 th2.1 th2 rfl (by decide) (ch2_3 th2).1 (hts _ mf_X2_26) dX2_applyFaults_17 ?_
      refine lv_iload hx hb dX2_applyFaults_20 (lv_at hl 4 rfl) ?_
      obtain ⟨hi3, hw⟩ := hw
      refine w_ia (N := 60) hx hb hK hP (ch2_3 th2).2.1.1 (ch2_3 th2).2.1 (ch2_3 th2).2.2 hi3 dX2_applyFaults_22 ?_
      refine lv_topi (fun x22 ex22 => ?_)
      have hw := hw x22 ex22
      refine lv_aload_n hx hb dX2_applyFaults_23 rfl (lv_at hl 0 rfl) ?_
      refine w_gI (C := RX2) (T := TX2) (N := 11) (ci := 2) hx hb hts in2 hown hK hP 8 th2.1 th2 rfl (by decide) (hts _ mf_X2_42) dX2_applyFaults_24 ?_
      refine lv_topi (fun x24 ex24 => ?_)
      have hw := hw x24 ex24
      refine lv_icmp_eq (tgt := 33) hx hb dX2_applyFaults_27 (by decide) (fun c27 => ?_) (fun c27 => ?_)
      · have hw := hw.1 c27
        refine lv_aload_n hx hb dX2_applyFaults_33 rfl (lv_at hl 0 rfl) ?_
        refine w_gR (C := RX2) (T := TX2) (N := 11) (ci := 2) hx hb hts in2 hown hK hP 2 th2.1 th2 rfl (by decide) (ch2_2 th2).1 (hts _ mf_X2_22) dX2_applyFaults_34 ?_
        refine lv_iload hx hb dX2_applyFaults_37 (lv_at hl 4 rfl) ?_
        obtain ⟨hi4, hw⟩ := hw
        refine w_ia (N := 60) hx hb hK hP (ch2_2 th2).2.1.1 (ch2_2 th2).2.1 (ch2_2 th2).2.2 hi4 dX2_applyFaults_39 ?_
        refine lv_topi (fun x39 ex39 => ?_)
        have hw := hw x39 ex39
        by_cases z40_1 : x39 = 1
        · refine lv_tableIn (tgt := 68) hx hb dX2_applyFaults_40 (by rw [z40_1]; decide) (by rw [z40_1]; decide) (by rw [z40_1]; rfl) (by decide) ?_
          have hw := hw.1 z40_1
          refine lv_iconst (v := 1) hx hb dX2_applyFaults_68 (by decide) ?_
          refine lv_istore_n (lv' := [(2, .int 1), (0, .ref (base + 1)), (1, .ref (base + p1)), (3, .int a3), (4, .int a4)]) hx hb dX2_applyFaults_69 rfl hl (by decide) rfl (fun ls hl => ?_)
          refine lv_goto (tgt := 115) hx hb dX2_applyFaults_70 (by decide) ?_
          exact tb_X2_applyFaults_115 hx hb hml hown hts hK p1 hp1 _ hret _ ih 1 a3 a4 v _ _ _ hw (lv_sub hl [1, 2, 0, 3, 4] rfl) hP hS
        by_cases z40_2 : x39 = 2
        · refine lv_tableIn (tgt := 73) hx hb dX2_applyFaults_40 (by rw [z40_2]; decide) (by rw [z40_2]; decide) (by rw [z40_2]; rfl) (by decide) ?_
          have hw := hw.2.1 z40_2
          refine lv_iconst (v := 1) hx hb dX2_applyFaults_73 (by decide) ?_
          refine lv_istore_n (lv' := [(3, .int 1), (0, .ref (base + 1)), (1, .ref (base + p1)), (2, .int a2), (4, .int a4)]) hx hb dX2_applyFaults_74 rfl hl (by decide) rfl (fun ls hl => ?_)
          refine lv_goto (tgt := 115) hx hb dX2_applyFaults_75 (by decide) ?_
          exact tb_X2_applyFaults_115 hx hb hml hown hts hK p1 hp1 _ hret _ ih a2 1 a4 v _ _ _ hw (lv_sub hl [1, 2, 3, 0, 4] rfl) hP hS
        by_cases z40_3 : x39 = 3
        · refine lv_tableIn (tgt := 78) hx hb dX2_applyFaults_40 (by rw [z40_3]; decide) (by rw [z40_3]; decide) (by rw [z40_3]; rfl) (by decide) ?_
          have hw := hw.2.2.1 z40_3
          refine lv_aload_n hx hb dX2_applyFaults_78 rfl (lv_at hl 1 rfl) ?_
          refine lv_aload_n hx hb dX2_applyFaults_79 rfl (lv_at hl 0 rfl) ?_
          refine w_gI (C := RX2) (T := TX2) (N := 11) (ci := 2) hx hb hts in2 hown hK hP 10 th2.1 th2 rfl (by decide) (hts _ mf_X2_63) dX2_applyFaults_80 ?_
          refine lv_topi (fun x80 ex80 => ?_)
          have hw := hw x80 ex80
          refine lv_iconst (v := 2) hx hb dX2_applyFaults_83 (by decide) ?_
          refine lv_iadd hx hb dX2_applyFaults_84 ?_
          refine lv_topi (fun x84 ex84 => ?_)
          have hw := hw x84 ex84
          refine lv_iconst (v := 5) hx hb dX2_applyFaults_85 (by decide) ?_
          refine lv_iadd hx hb dX2_applyFaults_86 ?_
          refine lv_topi (fun x86 ex86 => ?_)
          have hw := hw x86 ex86
          refine w_pI (C := RX5) (T := TX5) (N := 7) (ci := 5) hx hb hts in5 tyX5 tyX5_ok nmX5 hown hK hP hS 3 hp1.1 hp1 rfl (by decide) (hts _ mf_X2_66) rfl (ty := .int) (by decide +kernel) rfl rfl dX2_applyFaults_87 (fun v5 H locs hv5 hP hz hS => ?_)
          have hw := hw v5 hv5
          refine lv_goto (tgt := 115) hx hb dX2_applyFaults_90 (by decide) ?_
          exact tb_X2_applyFaults_115 hx hb hml hown hts hK p1 hp1 _ hret _ ih a2 a3 a4 v5 _ _ _ hw (lv_sub hl [0, 1, 2, 3, 4] rfl) hP hS
        have hw := hw.2.2.2 z40_1 z40_2 z40_3
        refine lv_tableOut (tgt := 93) hx hb dX2_applyFaults_40 (by have := lv_neT z40_1 (a := 1) (by decide); have := lv_neT z40_2 (a := 2) (by decide); have := lv_neT z40_3 (a := 3) (by decide); omega) (by decide) ?_
        refine lv_aload_n hx hb dX2_applyFaults_93 rfl (lv_at hl 1 rfl) ?_
        refine lv_aload_n hx hb dX2_applyFaults_94 rfl (lv_at hl 0 rfl) ?_
        refine w_gR (C := RX2) (T := TX2) (N := 11) (ci := 2) hx hb hts in2 hown hK hP 4 th2.1 th2 rfl (by decide) (ch2_4 th2).1 (hts _ mf_X2_29) dX2_applyFaults_95 ?_
        refine lv_iload hx hb dX2_applyFaults_98 (lv_at hl 4 rfl) ?_
        obtain ⟨hi6, hw⟩ := hw
        refine w_ia (N := 60) hx hb hK hP (ch2_4 th2).2.1.1 (ch2_4 th2).2.1 (ch2_4 th2).2.2 hi6 dX2_applyFaults_100 ?_
        refine lv_topi (fun x100 ex100 => ?_)
        have hw := hw x100 ex100
        refine w_pI (C := RX5) (T := TX5) (N := 7) (ci := 5) hx hb hts in5 tyX5 tyX5_ok nmX5 hown hK hP hS 5 hp1.1 hp1 rfl (by decide) (hts _ mf_X2_82) rfl (ty := .int) (by decide +kernel) rfl rfl dX2_applyFaults_101 (fun v7 H locs hv7 hP hz hS => ?_)
        have hw := hw v7 hv7
        refine lv_aload_n hx hb dX2_applyFaults_104 rfl (lv_at hl 1 rfl) ?_
        refine lv_aload_n hx hb dX2_applyFaults_105 rfl (lv_at hl 0 rfl) ?_
        refine w_gR (C := RX2) (T := TX2) (N := 11) (ci := 2) hx hb hts in2 hown hK hP 5 th2.1 th2 rfl (by decide) (ch2_5 th2).1 (hts _ mf_X2_32) dX2_applyFaults_106 ?_
        refine lv_iload hx hb dX2_applyFaults_109 (lv_at hl 4 rfl) ?_
        obtain ⟨hi8, hw⟩ := hw
        refine w_ia (N := 60) hx hb hK hP (ch2_5 th2).2.1.1 (ch2_5 th2).2.1 (ch2_5 th2).2.2 hi8 dX2_applyFaults_111 ?_
        refine lv_topi (fun x111 ex111 => ?_)
        have hw := hw x111 ex111
        refine w_pI (C := RX5) (T := TX5) (N := 7) (ci := 5) hx hb hts in5 tyX5 tyX5_ok nmX5 hown hK hP hS 6 hp1.1 hp1 rfl (by decide) (hts _ mf_X2_72) rfl (ty := .int) (by decide +kernel) rfl rfl dX2_applyFaults_112 (fun v9 H locs hv9 hP hz hS => ?_)
        have hw := hw v9 hv9
        exact tb_X2_applyFaults_115 hx hb hml hown hts hK p1 hp1 _ hret _ ih a2 a3 a4 v9 _ _ _ hw (lv_sub hl [0, 1, 2, 3, 4] rfl) hP hS
      · have hw := hw.2 c27
        refine lv_goto (tgt := 115) hx hb dX2_applyFaults_30 (by decide) ?_
        exact tb_X2_applyFaults_115 hx hb hml hown hts hK p1 hp1 _ hret _ ih a2 a3 a4 v _ _ _ hw (lv_sub hl [0, 1, 2, 3, 4] rfl) hP hS
def w_X2_applyFaults (p1 : Nat) (v : VV) (Q : VV → Prop) : Prop :=
  ∃ fu : Nat, b_X2_applyFaults_7 p1 Q  fu 0 0 0 v
set_option maxHeartbeats 4000000 in
set_option maxRecDepth 100000 in
/-- TransportFour$Net.applyFaults -/
theorem t_X2_applyFaults (l : Launch) (dC : Nat → ClassId) (dI : Nat → Nat → Nat) (base : Nat) (cy : Nat → ClassId) (p1 : Nat) (hp1 : isO 5 p1) (v : VV) (Q : VV → Prop) (hw : w_X2_applyFaults p1 v Q) : CV l yX2_applyFaults (.code yX2_applyFaults cX2_applyFaults 5 none :: TB) { frames := 0, cells := 0, slots := 0, locals := 0 } dC dI base cy [.ref (base + 1), .ref (base + p1)] v Q := by
  refine Met.ofW (cc := cX2_applyFaults) (maxL := 5) (ret := none) (by decide) rfl ?_
  intro p e s m args below meth c s₁ B hml hv
  obtain ⟨rfl, hP, hK⟩ := hv
  have hx := B.exec
  have hb := B.bytes
  have hr := B.returns
  have hts0 := atoms_spec (ws := (.code yX2_applyFaults cX2_applyFaults 5 none :: TB)) B.pre
  have hts : ∀ w ∈ TB, w.before ([.ref (base + 1), .ref (base + p1)]).toArray s = true := fun w h => hts0 w (List.mem_cons_of_mem _ h)
  have hown : s.vm.findClass RX2 = some m.cls := findClass_of_methodNamed B.named
  have hlocks := B.notSynchronized
  have hS : va_S (fun q => base ≤ q) s.heap s.heap [] := va_S.rf
  have hl := lv_entry ([.ref (base + 1), .ref (base + p1)]) (n := 5) (Nat.le_of_ble_eq_true rfl)
  rw [lg_entry_eq]
  generalize (lg_sl ([.ref (base + 1), .ref (base + p1)]) ++ List.replicate (5 - (lg_sl ([.ref (base + 1), .ref (base + p1)])).length) Slot.unset).toArray = ls at hl ⊢
  have hl : lv_has ls 5 [(0, .ref (base + 1)), (1, .ref (base + p1))] := hl
  have hret : ∀ (pc : Nat) (v : VV) (H : Heap) (locs : List Loc) (ls : Array Slot), decode cX2_applyFaults pc = .ok (.return_, 1) → Q v → va_P (dC, dI) vwCl (Wd base cy rf v 874) H → va_S (fun q => base ≤ q) s.heap H locs → W p l e { frames := 0, cells := 0, slots := 0, locals := 0 } s m ([.ref (base + 1), .ref (base + p1)]).toArray below meth c H locs 0 0 (MQ below (va_Qv Q (Hp dC dI base cy) (fun q => base ≤ q)) ([.ref (base + 1), .ref (base + p1)]).toArray s 0 0 (fun q => base ≤ q)) (F0 m pc ls []) := fun pc v H locs ls hd hq hP hS => W.vret hx hb hr (fun t ht hW => ⟨⟨v, rfl, hq, by rw [ht]; exact hP, va_K.moved hW.alike hK⟩, hS.F ht⟩) hS.2.2 hd
  refine lv_iconst (v := 0) hx hb dX2_applyFaults_0 (by decide) ?_
  refine lv_istore_n (lv' := [(2, .int 0), (0, .ref (base + 1)), (1, .ref (base + p1))]) hx hb dX2_applyFaults_1 rfl hl (by decide) rfl (fun ls hl => ?_)
  refine lv_iconst (v := 0) hx hb dX2_applyFaults_2 (by decide) ?_
  refine lv_istore_n (lv' := [(3, .int 0), (2, .int 0), (0, .ref (base + 1)), (1, .ref (base + p1))]) hx hb dX2_applyFaults_3 rfl hl (by decide) rfl (fun ls hl => ?_)
  refine lv_iconst (v := 0) hx hb dX2_applyFaults_4 (by decide) ?_
  refine lv_istore (lv' := [(4, .int 0), (3, .int 0), (2, .int 0), (0, .ref (base + 1)), (1, .ref (base + p1))]) hx hb dX2_applyFaults_5 hl (by decide) rfl (fun ls hl => ?_)
  obtain ⟨fu, hw⟩ := hw
  exact tb_X2_applyFaults_7 hx hb hml hown hts hK p1 hp1 _ hret  fu 0 0 0 v _ _ _ hw (lv_sub hl [3, 4, 2, 1, 0] rfl) hP hS
def w_X2_dispatch (p1 : Int32) (v : VV) (Q : VV → Prop) : Prop :=
  ∀ x2 : Int32, x2 = v 1 8 → w_X2_unitOf x2 v (fun (t5 : Nat) (v1 : VV) => isO 5 t5 ∧ w_X5_plainSum t5 v1 (fun (x11 : Int32) (v2 : VV) => w_X5_weightedSum t5 v2 (fun (x15 : Int32) (v3 : VV) => w_X5_fillChecks t5 x11 x15 v3 (fun (v4 : VV) => ∀ v5 : VV, v5 = up2 v4 t5 2 p1 → ∀ x28 : Int32, x28 = v5 1 10 → ∀ x32 : Int32, x32 = x28 + 2 → ∀ v6 : VV, v6 = up2 v5 t5 3 x32 → ∀ v7 : VV, v7 = up2 v6 t5 4 ((-1)) → ∀ v8 : VV, v8 = up2 v7 t5 6 0 → w_X2_applyFaults t5 v8 (fun (v9 : VV) => ∀ x57 : Int32, x57 = v9 1 10 → vp_in p1 2 ∧ ∀ v10 : VV, v10 = up2 v9 9 (Int32.toNatClampNeg p1) x57 → ∀ x63 : Int32, x63 = v10 1 8 → ∀ x67 : Int32, x67 = x63 + 1 → ∀ v12 : VV, v12 = up2 v10 1 8 x67 → ∀ x72 : Int32, x72 = v12 1 8 → ∀ x76 : Int32, x76 = v12 1 9 → ∀ x79 : Int32, x79 = x72 - x76 → (x79 ≤ 256 → Q v12) ∧ (¬ x79 ≤ 256 → ∀ x88 : Int32, x88 = v12 1 8 → ∀ x94 : Int32, x94 = x88 - 256 → ∀ v13 : VV, v13 = up2 v12 1 9 x94 → Q v13))))))
set_option maxHeartbeats 4000000 in
set_option maxRecDepth 100000 in
/-- TransportFour$Net.dispatch -/
theorem t_X2_dispatch (l : Launch) (dC : Nat → ClassId) (dI : Nat → Nat → Nat) (base : Nat) (cy : Nat → ClassId) (p1 : Int32) (v : VV) (Q : VV → Prop) (hw : w_X2_dispatch p1 v Q) : CV l yX2_dispatch (.code yX2_dispatch cX2_dispatch 3 none :: TB) { frames := 1, cells := 0, slots := 0, locals := 26 } dC dI base cy [.ref (base + 1), .int p1] v Q := by
  refine Met.ofW (cc := cX2_dispatch) (maxL := 3) (ret := none) (by decide) rfl ?_
  intro p e s m args below meth c s₁ B hml hv
  obtain ⟨rfl, hP, hK⟩ := hv
  have hx := B.exec
  have hb := B.bytes
  have hr := B.returns
  have hts0 := atoms_spec (ws := (.code yX2_dispatch cX2_dispatch 3 none :: TB)) B.pre
  have hts : ∀ w ∈ TB, w.before ([.ref (base + 1), .int p1]).toArray s = true := fun w h => hts0 w (List.mem_cons_of_mem _ h)
  have hown : s.vm.findClass RX2 = some m.cls := findClass_of_methodNamed B.named
  have hlocks := B.notSynchronized
  have hS : va_S (fun q => base ≤ q) s.heap s.heap [] := va_S.rf
  have hl := lv_entry ([.ref (base + 1), .int p1]) (n := 3) (Nat.le_of_ble_eq_true rfl)
  rw [lg_entry_eq]
  generalize (lg_sl ([.ref (base + 1), .int p1]) ++ List.replicate (3 - (lg_sl ([.ref (base + 1), .int p1])).length) Slot.unset).toArray = ls at hl ⊢
  have hl : lv_has ls 3 [(0, .ref (base + 1)), (1, .int p1)] := hl
  have hret : ∀ (pc : Nat) (v : VV) (H : Heap) (locs : List Loc) (ls : Array Slot), decode cX2_dispatch pc = .ok (.return_, 1) → Q v → va_P (dC, dI) vwCl (Wd base cy rf v 874) H → va_S (fun q => base ≤ q) s.heap H locs → W p l e { frames := 1, cells := 0, slots := 0, locals := 26 } s m ([.ref (base + 1), .int p1]).toArray below meth c H locs 0 0 (MQ below (va_Qv Q (Hp dC dI base cy) (fun q => base ≤ q)) ([.ref (base + 1), .int p1]).toArray s 0 0 (fun q => base ≤ q)) (F0 m pc ls []) := fun pc v H locs ls hd hq hP hS => W.vret hx hb hr (fun t ht hW => ⟨⟨v, rfl, hq, by rw [ht]; exact hP, va_K.moved hW.alike hK⟩, hS.F ht⟩) hS.2.2 hd
  refine lv_aload_n hx hb dX2_dispatch_0 rfl (lv_at hl 0 rfl) ?_
  refine lv_aload_n hx hb dX2_dispatch_1 rfl (lv_at hl 0 rfl) ?_
  refine w_gI (C := RX2) (T := TX2) (N := 11) (ci := 2) hx hb hts in2 hown hK hP 8 th2.1 th2 rfl (by decide) (hts _ mf_X2_42) dX2_dispatch_2 ?_
  refine lv_topi (fun x2 ex2 => ?_)
  have hw := hw x2 ex2
  refine k_Q (As := [.int x2]) (rest := []) ⟨hx, hb, hml, hown, hts⟩ (t_X2_unitOf l dC dI base cy x2 v _ hw) (cwV 1 hts (gV ml_X2_45 mi_X2_unitOf mx_X2_unitOf mn_X2 mo_X2_unitOf) rfl rfl rfl (by decide +kernel) ⟨by decide, by decide⟩) hK hP hS th2 (by decide) rfl rfl hl.1 rfl (Nat.le_of_ble_eq_true rfl) dX2_dispatch_5 ⟨Nat.zero_le _, Nat.zero_le _⟩ (fun t5 v1 H locs hw hP hS => ?_)
  obtain ⟨ht5, hw⟩ := hw
  refine lv_astore_n (lv' := [(2, .ref (base + t5)), (0, .ref (base + 1)), (1, .int p1)]) hx hb dX2_dispatch_8 rfl hl (by decide) rfl (fun ls hl => ?_)
  refine lv_aload_n hx hb dX2_dispatch_9 rfl (lv_at hl 0 rfl) ?_
  refine lv_aload_n hx hb dX2_dispatch_10 rfl (lv_at hl 0 rfl) ?_
  refine k_I (As := []) (rest := [.ref (base + t5)]) ⟨hx, hb, hml, hown, hts⟩ (t_X5_plainSum l dC dI base cy t5 ht5 v1 _ hw) (cwV 0 hts (gV ml_X2_49 mi_X5_plainSum mx_X5_plainSum mn_X5 mo_X5_plainSum) rfl rfl rfl (by decide +kernel) ⟨by decide, by decide⟩) hK hP hS ht5 (by decide) rfl rfl hl.1 rfl (Nat.le_of_ble_eq_true rfl) dX2_dispatch_11 ⟨Nat.zero_le _, Nat.zero_le _⟩ (fun x11 v2 H locs hw hP hS => ?_)
  refine lv_aload_n hx hb dX2_dispatch_14 rfl (lv_at hl 0 rfl) ?_
  refine k_I (As := []) (rest := [.int x11, .ref (base + t5)]) ⟨hx, hb, hml, hown, hts⟩ (t_X5_weightedSum l dC dI base cy t5 ht5 v2 _ hw) (cwV 0 hts (gV ml_X2_53 mi_X5_weightedSum mx_X5_weightedSum mn_X5 mo_X5_weightedSum) rfl rfl rfl (by decide +kernel) ⟨by decide, by decide⟩) hK hP hS ht5 (by decide) rfl rfl hl.1 rfl (Nat.le_of_ble_eq_true rfl) dX2_dispatch_15 ⟨Nat.zero_le _, Nat.zero_le _⟩ (fun x15 v3 H locs hw hP hS => ?_)
  refine k_V (As := [.int x11, .int x15]) (rest := []) ⟨hx, hb, hml, hown, hts⟩ (t_X5_fillChecks l dC dI base cy t5 ht5 x11 x15 v3 _ hw) (cwV 2 hts (gV ml_X2_56 mi_X5_fillChecks mx_X5_fillChecks mn_X5 mo_X5_fillChecks) rfl rfl rfl (by decide +kernel) ⟨by decide, by decide⟩) hK hP hS ht5 (by decide) rfl rfl hl.1 rfl (Nat.le_of_ble_eq_true rfl) dX2_dispatch_18 ⟨Nat.zero_le _, Nat.zero_le _⟩ (fun v4 H locs hw hP hS => ?_)
  refine lv_aload_n hx hb dX2_dispatch_21 rfl (lv_at hl 0 rfl) ?_
  refine lv_iload_n hx hb dX2_dispatch_22 rfl (lv_at hl 2 rfl) ?_
  refine w_pI (C := RX5) (T := TX5) (N := 7) (ci := 5) hx hb hts in5 tyX5 tyX5_ok nmX5 hown hK hP hS 2 ht5.1 ht5 rfl (by decide) (hts _ mf_X2_60) rfl (ty := .int) (by decide +kernel) rfl rfl dX2_dispatch_23 (fun v5 H locs hv5 hP hz hS => ?_)
  have hw := hw v5 hv5
  refine lv_aload_n hx hb dX2_dispatch_26 rfl (lv_at hl 0 rfl) ?_
  refine lv_aload_n hx hb dX2_dispatch_27 rfl (lv_at hl 1 rfl) ?_
  refine w_gI (C := RX2) (T := TX2) (N := 11) (ci := 2) hx hb hts in2 hown hK hP 10 th2.1 th2 rfl (by decide) (hts _ mf_X2_63) dX2_dispatch_28 ?_
  refine lv_topi (fun x28 ex28 => ?_)
  have hw := hw x28 ex28
  refine lv_iconst (v := 2) hx hb dX2_dispatch_31 (by decide) ?_
  refine lv_iadd hx hb dX2_dispatch_32 ?_
  refine lv_topi (fun x32 ex32 => ?_)
  have hw := hw x32 ex32
  refine w_pI (C := RX5) (T := TX5) (N := 7) (ci := 5) hx hb hts in5 tyX5 tyX5_ok nmX5 hown hK hP hS 3 ht5.1 ht5 rfl (by decide) (hts _ mf_X2_66) rfl (ty := .int) (by decide +kernel) rfl rfl dX2_dispatch_33 (fun v6 H locs hv6 hP hz hS => ?_)
  have hw := hw v6 hv6
  refine lv_aload_n hx hb dX2_dispatch_36 rfl (lv_at hl 0 rfl) ?_
  refine lv_iconst (v := -1) hx hb dX2_dispatch_37 (by decide) ?_
  refine w_pI (C := RX5) (T := TX5) (N := 7) (ci := 5) hx hb hts in5 tyX5 tyX5_ok nmX5 hown hK hP hS 4 ht5.1 ht5 rfl (by decide) (hts _ mf_X2_69) rfl (ty := .int) (by decide +kernel) rfl rfl dX2_dispatch_38 (fun v7 H locs hv7 hP hz hS => ?_)
  have hw := hw v7 hv7
  refine lv_aload_n hx hb dX2_dispatch_41 rfl (lv_at hl 0 rfl) ?_
  refine lv_iconst (v := 0) hx hb dX2_dispatch_42 (by decide) ?_
  refine w_pI (C := RX5) (T := TX5) (N := 7) (ci := 5) hx hb hts in5 tyX5 tyX5_ok nmX5 hown hK hP hS 6 ht5.1 ht5 rfl (by decide) (hts _ mf_X2_72) rfl (ty := .int) (by decide +kernel) rfl rfl dX2_dispatch_43 (fun v8 H locs hv8 hP hz hS => ?_)
  have hw := hw v8 hv8
  refine lv_aload_n hx hb dX2_dispatch_46 rfl (lv_at hl 1 rfl) ?_
  refine lv_aload_n hx hb dX2_dispatch_47 rfl (lv_at hl 0 rfl) ?_
  refine k_V (As := [.ref (base + t5)]) (rest := []) ⟨hx, hb, hml, hown, hts⟩ (t_X2_applyFaults l dC dI base cy t5 ht5 v8 _ hw) (cwV 1 hts (gV ml_X2_75 mi_X2_applyFaults mx_X2_applyFaults mn_X2 mo_X2_applyFaults) rfl rfl rfl (by decide +kernel) ⟨by decide, by decide⟩) hK hP hS th2 (by decide) rfl rfl hl.1 rfl (Nat.le_of_ble_eq_true rfl) dX2_dispatch_48 ⟨Nat.zero_le _, Nat.zero_le _⟩ (fun v9 H locs hw hP hS => ?_)
  refine lv_aload_n hx hb dX2_dispatch_51 rfl (lv_at hl 1 rfl) ?_
  refine w_gR (C := RX2) (T := TX2) (N := 11) (ci := 2) hx hb hts in2 hown hK hP 6 th2.1 th2 rfl (by decide) (ch2_6 th2).1 (hts _ mf_X2_35) dX2_dispatch_52 ?_
  refine lv_iload_n hx hb dX2_dispatch_55 rfl (lv_at hl 2 rfl) ?_
  refine lv_aload_n hx hb dX2_dispatch_56 rfl (lv_at hl 1 rfl) ?_
  refine w_gI (C := RX2) (T := TX2) (N := 11) (ci := 2) hx hb hts in2 hown hK hP 10 th2.1 th2 rfl (by decide) (hts _ mf_X2_63) dX2_dispatch_57 ?_
  refine lv_topi (fun x57 ex57 => ?_)
  have hw := hw x57 ex57
  obtain ⟨hi11, hw⟩ := hw
  refine w_is (N := 2) hx hb hK hP hS (ch2_6 th2).2.1.1 (ch2_6 th2).2.1 (ch2_6 th2).2.2 hi11 dX2_dispatch_60 (fun v10 H locs hv10 hP hz hS => ?_)
  have hw := hw v10 hv10
  refine lv_aload_n hx hb dX2_dispatch_61 rfl (lv_at hl 1 rfl) ?_
  refine lv_dup hx hb dX2_dispatch_62 rfl ?_
  refine w_gI (C := RX2) (T := TX2) (N := 11) (ci := 2) hx hb hts in2 hown hK hP 8 th2.1 th2 rfl (by decide) (hts _ mf_X2_42) dX2_dispatch_63 ?_
  refine lv_topi (fun x63 ex63 => ?_)
  have hw := hw x63 ex63
  refine lv_iconst (v := 1) hx hb dX2_dispatch_66 (by decide) ?_
  refine lv_iadd hx hb dX2_dispatch_67 ?_
  refine lv_topi (fun x67 ex67 => ?_)
  have hw := hw x67 ex67
  refine w_pI (C := RX2) (T := TX2) (N := 11) (ci := 2) hx hb hts in2 tyX2 tyX2_ok nmX2 hown hK hP hS 8 th2.1 th2 rfl (by decide) (hts _ mf_X2_42) rfl (ty := .int) (by decide +kernel) rfl rfl dX2_dispatch_68 (fun v12 H locs hv12 hP hz hS => ?_)
  have hw := hw v12 hv12
  refine lv_aload_n hx hb dX2_dispatch_71 rfl (lv_at hl 1 rfl) ?_
  refine w_gI (C := RX2) (T := TX2) (N := 11) (ci := 2) hx hb hts in2 hown hK hP 8 th2.1 th2 rfl (by decide) (hts _ mf_X2_42) dX2_dispatch_72 ?_
  refine lv_topi (fun x72 ex72 => ?_)
  have hw := hw x72 ex72
  refine lv_aload_n hx hb dX2_dispatch_75 rfl (lv_at hl 1 rfl) ?_
  refine w_gI (C := RX2) (T := TX2) (N := 11) (ci := 2) hx hb hts in2 hown hK hP 9 th2.1 th2 rfl (by decide) (hts _ mf_X2_79) dX2_dispatch_76 ?_
  refine lv_topi (fun x76 ex76 => ?_)
  have hw := hw x76 ex76
  refine lv_isub hx hb dX2_dispatch_79 ?_
  refine lv_topi (fun x79 ex79 => ?_)
  have hw := hw x79 ex79
  refine lv_sipush (v := 256) hx hb dX2_dispatch_80 (by decide) ?_
  refine lv_icmp_le (tgt := 98) hx hb dX2_dispatch_83 (by decide) (fun c83 => ?_) (fun c83 => ?_)
  · have hw := hw.1 c83
    exact hret _ _ _ _ _ dX2_dispatch_98 hw hP hS
  · have hw := hw.2 c83
    refine lv_aload_n hx hb dX2_dispatch_86 rfl (lv_at hl 1 rfl) ?_
    refine lv_aload_n hx hb dX2_dispatch_87 rfl (lv_at hl 1 rfl) ?_
    refine w_gI (C := RX2) (T := TX2) (N := 11) (ci := 2) hx hb hts in2 hown hK hP 8 th2.1 th2 rfl (by decide) (hts _ mf_X2_42) dX2_dispatch_88 ?_
    refine lv_topi (fun x88 ex88 => ?_)
    have hw := hw x88 ex88
    refine lv_sipush (v := 256) hx hb dX2_dispatch_91 (by decide) ?_
    refine lv_isub hx hb dX2_dispatch_94 ?_
    refine lv_topi (fun x94 ex94 => ?_)
    have hw := hw x94 ex94
    refine w_pI (C := RX2) (T := TX2) (N := 11) (ci := 2) hx hb hts in2 tyX2 tyX2_ok nmX2 hown hK hP hS 9 th2.1 th2 rfl (by decide) (hts _ mf_X2_79) rfl (ty := .int) (by decide +kernel) rfl rfl dX2_dispatch_95 (fun v13 H locs hv13 hP hz hS => ?_)
    have hw := hw v13 hv13
    exact hret _ _ _ _ _ dX2_dispatch_98 hw hP hS
def w_X0_sendLink (o : Nat) (p1 : Int32) (p2 : Int32) (p3 : Int32) (p4 : Int32) (v : VV) (Q : VV → Prop) : Prop :=
  w_X2_nextUnit  v (fun (t4 : Nat) (v1 : VV) => isO 5 t4 ∧ w_X5_writeLink t4 p1 p2 p3 p4 v1 (fun (v2 : VV) => ∀ x20 : Int32, x20 = v2 o 0 → w_X2_dispatch x20 v2 (fun (v3 : VV) => Q v3)))
set_option maxHeartbeats 4000000 in
set_option maxRecDepth 100000 in
/-- TransportFour$End.sendLink -/
theorem t_X0_sendLink (l : Launch) (dC : Nat → ClassId) (dI : Nat → Nat → Nat) (base : Nat) (cy : Nat → ClassId) (o : Nat) (ho : isO 0 o) (p1 : Int32) (p2 : Int32) (p3 : Int32) (p4 : Int32) (v : VV) (Q : VV → Prop) (hw : w_X0_sendLink o p1 p2 p3 p4 v Q) : CV l yX0_sendLink (.code yX0_sendLink cX0_sendLink 5 none :: TB) { frames := 2, cells := 0, slots := 0, locals := 48 } dC dI base cy [.ref (base + o), .int p1, .int p2, .int p3, .int p4] v Q := by
  refine Met.ofW (cc := cX0_sendLink) (maxL := 5) (ret := none) (by decide) rfl ?_
  intro p e s m args below meth c s₁ B hml hv
  obtain ⟨rfl, hP, hK⟩ := hv
  have hx := B.exec
  have hb := B.bytes
  have hr := B.returns
  have hts0 := atoms_spec (ws := (.code yX0_sendLink cX0_sendLink 5 none :: TB)) B.pre
  have hts : ∀ w ∈ TB, w.before ([.ref (base + o), .int p1, .int p2, .int p3, .int p4]).toArray s = true := fun w h => hts0 w (List.mem_cons_of_mem _ h)
  have hown : s.vm.findClass RX0 = some m.cls := findClass_of_methodNamed B.named
  have hlocks := B.notSynchronized
  have hS : va_S (fun q => base ≤ q) s.heap s.heap [] := va_S.rf
  have hl := lv_entry ([.ref (base + o), .int p1, .int p2, .int p3, .int p4]) (n := 5) (Nat.le_of_ble_eq_true rfl)
  rw [lg_entry_eq]
  generalize (lg_sl ([.ref (base + o), .int p1, .int p2, .int p3, .int p4]) ++ List.replicate (5 - (lg_sl ([.ref (base + o), .int p1, .int p2, .int p3, .int p4])).length) Slot.unset).toArray = ls at hl ⊢
  have hl : lv_has ls 5 [(0, .ref (base + o)), (1, .int p1), (2, .int p2), (3, .int p3), (4, .int p4)] := hl
  have hret : ∀ (pc : Nat) (v : VV) (H : Heap) (locs : List Loc) (ls : Array Slot), decode cX0_sendLink pc = .ok (.return_, 1) → Q v → va_P (dC, dI) vwCl (Wd base cy rf v 874) H → va_S (fun q => base ≤ q) s.heap H locs → W p l e { frames := 2, cells := 0, slots := 0, locals := 48 } s m ([.ref (base + o), .int p1, .int p2, .int p3, .int p4]).toArray below meth c H locs 0 0 (MQ below (va_Qv Q (Hp dC dI base cy) (fun q => base ≤ q)) ([.ref (base + o), .int p1, .int p2, .int p3, .int p4]).toArray s 0 0 (fun q => base ≤ q)) (F0 m pc ls []) := fun pc v H locs ls hd hq hP hS => W.vret hx hb hr (fun t ht hW => ⟨⟨v, rfl, hq, by rw [ht]; exact hP, va_K.moved hW.alike hK⟩, hS.F ht⟩) hS.2.2 hd
  refine lv_aload_n hx hb dX0_sendLink_0 rfl (lv_at hl 0 rfl) ?_
  refine w_gR (C := RX0) (T := TX0) (N := 15) (ci := 0) hx hb hts in0 hown hK hP 1 ho.1 ho rfl (by decide) (ch0_1 ho).1 (hts _ mf_X0_53) dX0_sendLink_1 ?_
  refine k_Q (As := []) (rest := []) ⟨hx, hb, hml, hown, hts⟩ (t_X2_nextUnit l dC dI base cy  v _ hw) (cwV 0 hts (gV ml_X0_264 mi_X2_nextUnit mx_X2_nextUnit mn_X2 mo_X2_nextUnit) rfl rfl rfl (by decide +kernel) ⟨by decide, by decide⟩) hK hP hS (ch0_1 ho).2 (by decide) rfl rfl hl.1 rfl (Nat.le_of_ble_eq_true rfl) dX0_sendLink_4 ⟨Nat.zero_le _, Nat.zero_le _⟩ (fun t4 v1 H locs hw hP hS => ?_)
  obtain ⟨ht4, hw⟩ := hw
  refine lv_iload_n hx hb dX0_sendLink_7 rfl (lv_at hl 1 rfl) ?_
  refine lv_iload_n hx hb dX0_sendLink_8 rfl (lv_at hl 2 rfl) ?_
  refine lv_iload_n hx hb dX0_sendLink_9 rfl (lv_at hl 3 rfl) ?_
  refine lv_iload hx hb dX0_sendLink_10 (lv_at hl 4 rfl) ?_
  refine k_V (As := [.int p1, .int p2, .int p3, .int p4]) (rest := []) ⟨hx, hb, hml, hown, hts⟩ (t_X5_writeLink l dC dI base cy t4 ht4 p1 p2 p3 p4 v1 _ hw) (cwV 4 hts (gV ml_X0_268 mi_X5_writeLink mx_X5_writeLink mn_X5 mo_X5_writeLink) rfl rfl rfl (by decide +kernel) ⟨by decide, by decide⟩) hK hP hS ht4 (by decide) rfl rfl hl.1 rfl (Nat.le_of_ble_eq_true rfl) dX0_sendLink_12 ⟨Nat.zero_le _, Nat.zero_le _⟩ (fun v2 H locs hw hP hS => ?_)
  refine lv_aload_n hx hb dX0_sendLink_15 rfl (lv_at hl 0 rfl) ?_
  refine w_gR (C := RX0) (T := TX0) (N := 15) (ci := 0) hx hb hts in0 hown hK hP 1 ho.1 ho rfl (by decide) (ch0_1 ho).1 (hts _ mf_X0_53) dX0_sendLink_16 ?_
  refine lv_aload_n hx hb dX0_sendLink_19 rfl (lv_at hl 0 rfl) ?_
  refine w_gI (C := RX0) (T := TX0) (N := 15) (ci := 0) hx hb hts in0 hown hK hP 0 ho.1 ho rfl (by decide) (hts _ mf_X0_50) dX0_sendLink_20 ?_
  refine lv_topi (fun x20 ex20 => ?_)
  have hw := hw x20 ex20
  refine k_V (As := [.int x20]) (rest := []) ⟨hx, hb, hml, hown, hts⟩ (t_X2_dispatch l dC dI base cy x20 v2 _ hw) (cwV 1 hts (gV ml_X0_271 mi_X2_dispatch mx_X2_dispatch mn_X2 mo_X2_dispatch) rfl rfl rfl (by decide +kernel) ⟨by decide, by decide⟩) hK hP hS (ch0_1 ho).2 (by decide) rfl rfl hl.1 rfl (Nat.le_of_ble_eq_true rfl) dX0_sendLink_23 ⟨Nat.zero_le _, Nat.zero_le _⟩ (fun v3 H locs hw hP hS => ?_)
  exact hret _ _ _ _ _ dX0_sendLink_26 hw hP hS
def b_X0_sendAwaitedLink_43 (o : Nat) (Q : VV → Prop) (s0 : Int32) (s1 : Int32) (s2 : Int32) (s3 : Int32) (v : VV) : Prop :=
  w_X0_sendLink o s3 s2 s1 s0 v (fun (v1 : VV) => Q v1)
set_option maxHeartbeats 4000000 in
set_option maxRecDepth 100000 in
theorem tb_X0_sendAwaitedLink_43 {p : Program} {l : Launch} {e : Env} {s : State} {m : MethodId} {args : Array Value} {below : List Frame} {meth : Method} {c : Code} {QQ : State → Prop} {dC : Nat → ClassId} {dI : Nat → Nat → Nat} {base : Nat} {cy : Nat → ClassId} (hx : p.tables.exec = Jvm.exec) (hb : c.code = cX0_sendAwaitedLink) (hml : c.maxLocals = 1) (hown : s.vm.findClass RX0 = some m.cls) (hts : ∀ w ∈ TB, w.before args s = true) (hK : va_K (dC, dI) vwCl (tyL cy) s) (o : Nat) (ho : isO 0 o) (Q : VV → Prop) (hret : ∀ (pc : Nat) (v : VV) (H : Heap) (locs : List Loc) (ls : Array Slot), decode cX0_sendAwaitedLink pc = .ok (.return_, 1) → Q v → va_P (dC, dI) vwCl (Wd base cy rf v 874) H → va_S (fun q => base ≤ q) s.heap H locs → W p l e { frames := 3, cells := 0, slots := 0, locals := 72 } s m args below meth c H locs 0 0 QQ (F0 m pc ls [])) (s0 : Int32) (s1 : Int32) (s2 : Int32) (s3 : Int32) (v : VV) (H : Heap) (locs : List Loc) (ls : Array Slot) (hw : b_X0_sendAwaitedLink_43 o Q  s0 s1 s2 s3 v) : lv_has ls 1 [(0, .ref (base + o))] → va_P (dC, dI) vwCl (Wd base cy rf v 874) H → va_S (fun q => base ≤ q) s.heap H locs → W p l e { frames := 3, cells := 0, slots := 0, locals := 72 } s m args below meth c H locs 0 0 QQ (F0 m 43 ls [.int s0, .int s1, .int s2, .int s3, .ref (base + o)]) := by
  intro hl hP hS
  refine k_V (As := [.int s3, .int s2, .int s1, .int s0]) (rest := []) ⟨hx, hb, hml, hown, hts⟩ (t_X0_sendLink l dC dI base cy o ho s3 s2 s1 s0 v _ hw) (cwV 4 hts (gV ml_X0_181 mi_X0_sendLink mx_X0_sendLink mn_X0 mo_X0_sendLink) rfl rfl rfl (by decide +kernel) ⟨by decide, by decide⟩) hK hP hS ho (by decide) rfl rfl hl.1 rfl (Nat.le_of_ble_eq_true rfl) dX0_sendAwaitedLink_43 ⟨Nat.zero_le _, Nat.zero_le _⟩ (fun v1 H locs hw hP hS => ?_)
  exact hret _ _ _ _ _ dX0_sendAwaitedLink_46 hw hP hS
def w_X0_sendAwaitedLink (o : Nat) (v : VV) (Q : VV → Prop) : Prop :=
  ∀ x8 : Int32, x8 = v 1 10 → w_X8_count (o + 145) x8 v (fun (v1 : VV) => ∀ x16 : Int32, x16 = v1 o 7 → ∀ x20 : Int32, x20 = v1 o 10 → ∀ x24 : Int32, x24 = v1 o 9 → ∀ x28 : Int32, x28 = v1 o 7 → (¬ x28 = 128 → b_X0_sendAwaitedLink_43 o Q  64 x24 x20 x16 v1) ∧ (x28 = 128 → b_X0_sendAwaitedLink_43 o Q  0 x24 x20 x16 v1))
set_option maxHeartbeats 4000000 in
set_option maxRecDepth 100000 in
/-- TransportFour$End.sendAwaitedLink -/
theorem t_X0_sendAwaitedLink (l : Launch) (dC : Nat → ClassId) (dI : Nat → Nat → Nat) (base : Nat) (cy : Nat → ClassId) (o : Nat) (ho : isO 0 o) (v : VV) (Q : VV → Prop) (hw : w_X0_sendAwaitedLink o v Q) : CV l yX0_sendAwaitedLink (.code yX0_sendAwaitedLink cX0_sendAwaitedLink 1 none :: TB) { frames := 3, cells := 0, slots := 0, locals := 72 } dC dI base cy [.ref (base + o)] v Q := by
  refine Met.ofW (cc := cX0_sendAwaitedLink) (maxL := 1) (ret := none) (by decide) rfl ?_
  intro p e s m args below meth c s₁ B hml hv
  obtain ⟨rfl, hP, hK⟩ := hv
  have hx := B.exec
  have hb := B.bytes
  have hr := B.returns
  have hts0 := atoms_spec (ws := (.code yX0_sendAwaitedLink cX0_sendAwaitedLink 1 none :: TB)) B.pre
  have hts : ∀ w ∈ TB, w.before ([.ref (base + o)]).toArray s = true := fun w h => hts0 w (List.mem_cons_of_mem _ h)
  have hown : s.vm.findClass RX0 = some m.cls := findClass_of_methodNamed B.named
  have hlocks := B.notSynchronized
  have hS : va_S (fun q => base ≤ q) s.heap s.heap [] := va_S.rf
  have hl := lv_entry ([.ref (base + o)]) (n := 1) (Nat.le_of_ble_eq_true rfl)
  rw [lg_entry_eq]
  generalize (lg_sl ([.ref (base + o)]) ++ List.replicate (1 - (lg_sl ([.ref (base + o)])).length) Slot.unset).toArray = ls at hl ⊢
  have hl : lv_has ls 1 [(0, .ref (base + o))] := hl
  have hret : ∀ (pc : Nat) (v : VV) (H : Heap) (locs : List Loc) (ls : Array Slot), decode cX0_sendAwaitedLink pc = .ok (.return_, 1) → Q v → va_P (dC, dI) vwCl (Wd base cy rf v 874) H → va_S (fun q => base ≤ q) s.heap H locs → W p l e { frames := 3, cells := 0, slots := 0, locals := 72 } s m ([.ref (base + o)]).toArray below meth c H locs 0 0 (MQ below (va_Qv Q (Hp dC dI base cy) (fun q => base ≤ q)) ([.ref (base + o)]).toArray s 0 0 (fun q => base ≤ q)) (F0 m pc ls []) := fun pc v H locs ls hd hq hP hS => W.vret hx hb hr (fun t ht hW => ⟨⟨v, rfl, hq, by rw [ht]; exact hP, va_K.moved hW.alike hK⟩, hS.F ht⟩) hS.2.2 hd
  refine lv_aload_n hx hb dX0_sendAwaitedLink_0 rfl (lv_at hl 0 rfl) ?_
  refine w_gR (C := RX0) (T := TX0) (N := 15) (ci := 0) hx hb hts in0 hown hK hP 6 ho.1 ho rfl (by decide) (ch0_6 ho).1 (hts _ mf_X0_42) dX0_sendAwaitedLink_1 ?_
  refine lv_aload_n hx hb dX0_sendAwaitedLink_4 rfl (lv_at hl 0 rfl) ?_
  refine w_gR (C := RX0) (T := TX0) (N := 15) (ci := 0) hx hb hts in0 hown hK hP 1 ho.1 ho rfl (by decide) (ch0_1 ho).1 (hts _ mf_X0_53) dX0_sendAwaitedLink_5 ?_
  refine w_gI (C := RX2) (T := TX2) (N := 11) (ci := 2) hx hb hts in2 hown hK hP 10 (ch0_1 ho).2.1 (ch0_1 ho).2 rfl (by decide) (hts _ mf_X0_88) dX0_sendAwaitedLink_8 ?_
  refine lv_topi (fun x8 ex8 => ?_)
  have hw := hw x8 ex8
  refine k_V (As := [.int x8]) (rest := []) ⟨hx, hb, hml, hown, hts⟩ (t_X8_count l dC dI base cy (o + 145) (ch0_6 ho).2 x8 v _ hw) (cwV 1 hts (gV ml_X0_261 mi_X8_count mx_X8_count mn_X8 mo_X8_count) rfl rfl rfl (by decide +kernel) ⟨by decide, by decide⟩) hK hP hS (ch0_6 ho).2 (by decide) rfl rfl hl.1 rfl (Nat.le_of_ble_eq_true rfl) dX0_sendAwaitedLink_11 ⟨Nat.zero_le _, Nat.zero_le _⟩ (fun v1 H locs hw hP hS => ?_)
  refine lv_aload_n hx hb dX0_sendAwaitedLink_14 rfl (lv_at hl 0 rfl) ?_
  refine lv_aload_n hx hb dX0_sendAwaitedLink_15 rfl (lv_at hl 0 rfl) ?_
  refine w_gI (C := RX0) (T := TX0) (N := 15) (ci := 0) hx hb hts in0 hown hK hP 7 ho.1 ho rfl (by decide) (hts _ mf_X0_257) dX0_sendAwaitedLink_16 ?_
  refine lv_topi (fun x16 ex16 => ?_)
  have hw := hw x16 ex16
  refine lv_aload_n hx hb dX0_sendAwaitedLink_19 rfl (lv_at hl 0 rfl) ?_
  refine w_gI (C := RX0) (T := TX0) (N := 15) (ci := 0) hx hb hts in0 hown hK hP 10 ho.1 ho rfl (by decide) (hts _ mf_X0_81) dX0_sendAwaitedLink_20 ?_
  refine lv_topi (fun x20 ex20 => ?_)
  have hw := hw x20 ex20
  refine lv_aload_n hx hb dX0_sendAwaitedLink_23 rfl (lv_at hl 0 rfl) ?_
  refine w_gI (C := RX0) (T := TX0) (N := 15) (ci := 0) hx hb hts in0 hown hK hP 9 ho.1 ho rfl (by decide) (hts _ mf_X0_71) dX0_sendAwaitedLink_24 ?_
  refine lv_topi (fun x24 ex24 => ?_)
  have hw := hw x24 ex24
  refine lv_aload_n hx hb dX0_sendAwaitedLink_27 rfl (lv_at hl 0 rfl) ?_
  refine w_gI (C := RX0) (T := TX0) (N := 15) (ci := 0) hx hb hts in0 hown hK hP 7 ho.1 ho rfl (by decide) (hts _ mf_X0_257) dX0_sendAwaitedLink_28 ?_
  refine lv_topi (fun x28 ex28 => ?_)
  have hw := hw x28 ex28
  refine lv_sipush (v := 128) hx hb dX0_sendAwaitedLink_31 (by decide) ?_
  refine lv_icmp_ne (tgt := 41) hx hb dX0_sendAwaitedLink_34 (by decide) (fun c34 => ?_) (fun c34 => ?_)
  · have hw := hw.1 c34
    refine lv_bipush (v := 64) hx hb dX0_sendAwaitedLink_41 (by decide) ?_
    exact tb_X0_sendAwaitedLink_43 hx hb hml hown hts hK o ho _ hret  64 x24 x20 x16 v1 _ _ _ hw (lv_sub hl [0] rfl) hP hS
  · have hw := hw.2 c34
    refine lv_iconst (v := 0) hx hb dX0_sendAwaitedLink_37 (by decide) ?_
    refine lv_goto (tgt := 43) hx hb dX0_sendAwaitedLink_38 (by decide) ?_
    exact tb_X0_sendAwaitedLink_43 hx hb hml hown hts hK o ho _ hret  0 x24 x20 x16 v1 _ _ _ hw (lv_sub hl [0] rfl) hP hS
