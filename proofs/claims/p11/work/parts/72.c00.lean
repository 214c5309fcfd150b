def b_X9_isNoEnd_13 (p1 : Int32) (Q : Int32 → VV → Prop) (a0 : Int32) (v : VV) : Prop :=
  Q 0 v
set_option maxHeartbeats 4000000 in
set_option maxRecDepth 100000 in
theorem tb_X9_isNoEnd_13 {p : Program} {l : Launch} {e : Env} {s : State} {m : MethodId} {args : Array Value} {below : List Frame} {meth : Method} {c : Code} {QQ : State → Prop} {dC : Nat → ClassId} {dI : Nat → Nat → Nat} {base : Nat} {cy : Nat → ClassId} (hx : p.tables.exec = Jvm.exec) (hb : c.code = cX9_isNoEnd) (hml : c.maxLocals = 1) (hown : s.vm.findClass RX9 = some m.cls) (hts : ∀ w ∈ TB, w.before args s = true) (hK : va_K (dC, dI) vwCl (tyL cy) s) (p1 : Int32) (Q : Int32 → VV → Prop) (hret : ∀ (pc : Nat) (x : Int32) (v : VV) (H : Heap) (locs : List Loc) (ls : Array Slot), decode cX9_isNoEnd pc = .ok (.ireturn, 1) → (x = 0 ∨ x = 1) → Q x v → va_P (dC, dI) vwCl (Wd base cy rf v 874) H → va_S (fun q => base ≤ q) s.heap H locs → W p l e { frames := 0, cells := 0, slots := 0, locals := 0 } s m args below meth c H locs 0 0 QQ (F0 m pc ls [.int x])) (a0 : Int32) (v : VV) (H : Heap) (locs : List Loc) (ls : Array Slot) (hw : b_X9_isNoEnd_13 p1 Q  a0 v) : lv_has ls 1 [(0, .int a0)] → va_P (dC, dI) vwCl (Wd base cy rf v 874) H → va_S (fun q => base ≤ q) s.heap H locs → W p l e { frames := 0, cells := 0, slots := 0, locals := 0 } s m args below meth c H locs 0 0 QQ (F0 m 13 ls []) := by
  intro hl hP hS
  refine lv_iconst (v := 0) hx hb dX9_isNoEnd_13 (by decide) ?_
  exact hret _ _ _ _ _ _ dX9_isNoEnd_14 (by decide) hw hP hS
def w_X9_isNoEnd (p1 : Int32) (v : VV) (Q : Int32 → VV → Prop) : Prop :=
  (p1 = 0 → b_X9_isNoEnd_13 p1 Q  p1 v) ∧ (¬ p1 = 0 → (p1 = 1 → b_X9_isNoEnd_13 p1 Q  p1 v) ∧ (¬ p1 = 1 → Q 1 v))
set_option maxHeartbeats 4000000 in
set_option maxRecDepth 100000 in
/-- TransportFour.isNoEnd -/
theorem t_X9_isNoEnd (l : Launch) (dC : Nat → ClassId) (dI : Nat → Nat → Nat) (base : Nat) (cy : Nat → ClassId) (p1 : Int32) (v : VV) (Q : Int32 → VV → Prop) (hw : w_X9_isNoEnd p1 v Q) : CI l yX9_isNoEnd (.code yX9_isNoEnd cX9_isNoEnd 1 (some .boolean) :: TB) { frames := 0, cells := 0, slots := 0, locals := 0 } dC dI base cy [.int p1] v Q := by
  refine Met.ofW (cc := cX9_isNoEnd) (maxL := 1) (ret := (some .boolean)) (by decide) rfl ?_
  intro p e s m args below meth c s₁ B hml hv
  obtain ⟨rfl, hP, hK⟩ := hv
  have hx := B.exec
  have hb := B.bytes
  have hr := B.returns
  have hts0 := atoms_spec (ws := (.code yX9_isNoEnd cX9_isNoEnd 1 (some .boolean) :: TB)) B.pre
  have hts : ∀ w ∈ TB, w.before ([.int p1]).toArray s = true := fun w h => hts0 w (List.mem_cons_of_mem _ h)
  have hown : s.vm.findClass RX9 = some m.cls := findClass_of_methodNamed B.named
  have hlocks := B.notSynchronized
  have hS : va_S (fun q => base ≤ q) s.heap s.heap [] := va_S.rf
  have hl := lv_entry ([.int p1]) (n := 1) (Nat.le_of_ble_eq_true rfl)
  rw [lg_entry_eq]
  generalize (lg_sl ([.int p1]) ++ List.replicate (1 - (lg_sl ([.int p1])).length) Slot.unset).toArray = ls at hl ⊢
  have hl : lv_has ls 1 [(0, .int p1)] := hl
  have hret : ∀ (pc : Nat) (x : Int32) (v : VV) (H : Heap) (locs : List Loc) (ls : Array Slot), decode cX9_isNoEnd pc = .ok (.ireturn, 1) → (x = 0 ∨ x = 1) → Q x v → va_P (dC, dI) vwCl (Wd base cy rf v 874) H → va_S (fun q => base ≤ q) s.heap H locs → W p l e { frames := 0, cells := 0, slots := 0, locals := 0 } s m ([.int p1]).toArray below meth c H locs 0 0 (MQ below (va_Qi Q (Hp dC dI base cy) (fun q => base ≤ q)) ([.int p1]).toArray s 0 0 (fun q => base ≤ q)) (F0 m pc ls [.int x]) := fun pc x v H locs ls hd hz hq hP hS => W.zret (v := x) hx hb hr (zb_n hz) (fun t ht hW => ⟨⟨x, v, rfl, hq, by rw [ht]; exact hP, va_K.moved hW.alike hK⟩, hS.F ht⟩) hS.2.2 hd
  refine lv_iload_n hx hb dX9_isNoEnd_0 rfl (lv_at hl 0 rfl) ?_
  refine lv_if_eq (tgt := 13) hx hb dX9_isNoEnd_1 (by decide) (fun c1 => ?_) (fun c1 => ?_)
  · have hw := hw.1 c1
    exact tb_X9_isNoEnd_13 hx hb hml hown hts hK p1 _ hret  p1 v _ _ _ hw (lv_sub hl [0] rfl) hP hS
  · have hw := hw.2 c1
    refine lv_iload_n hx hb dX9_isNoEnd_4 rfl (lv_at hl 0 rfl) ?_
    refine lv_iconst (v := 1) hx hb dX9_isNoEnd_5 (by decide) ?_
    refine lv_icmp_eq (tgt := 13) hx hb dX9_isNoEnd_6 (by decide) (fun c6 => ?_) (fun c6 => ?_)
    · have hw := hw.1 c6
      exact tb_X9_isNoEnd_13 hx hb hml hown hts hK p1 _ hret  p1 v _ _ _ hw (lv_sub hl [0] rfl) hP hS
    · have hw := hw.2 c6
      refine lv_iconst (v := 1) hx hb dX9_isNoEnd_9 (by decide) ?_
      refine lv_goto (tgt := 14) hx hb dX9_isNoEnd_10 (by decide) ?_
      exact hret _ _ _ _ _ _ dX9_isNoEnd_14 (by decide) hw hP hS
def w_X3_clear (o : Nat) (v : VV) (Q : VV → Prop) : Prop :=
  ∀ v1 : VV, v1 = up2 v o 2 0 → ∀ v2 : VV, v2 = up2 v1 o 3 0 → ∀ v3 : VV, v3 = up2 v2 o 4 0 → ∀ v4 : VV, v4 = up2 v3 o 5 0 → Q v4
set_option maxHeartbeats 4000000 in
set_option maxRecDepth 100000 in
/-- TransportFour$Outbox.clear -/
theorem t_X3_clear (l : Launch) (dC : Nat → ClassId) (dI : Nat → Nat → Nat) (base : Nat) (cy : Nat → ClassId) (o : Nat) (ho : isO 3 o) (v : VV) (Q : VV → Prop) (hw : w_X3_clear o v Q) : CV l yX3_clear (.code yX3_clear cX3_clear 1 none :: TB) { frames := 0, cells := 0, slots := 0, locals := 0 } dC dI base cy [.ref (base + o)] v Q := by
  refine Met.ofW (cc := cX3_clear) (maxL := 1) (ret := none) (by decide) rfl ?_
  intro p e s m args below meth c s₁ B hml hv
  obtain ⟨rfl, hP, hK⟩ := hv
  have hx := B.exec
  have hb := B.bytes
  have hr := B.returns
  have hts0 := atoms_spec (ws := (.code yX3_clear cX3_clear 1 none :: TB)) B.pre
  have hts : ∀ w ∈ TB, w.before ([.ref (base + o)]).toArray s = true := fun w h => hts0 w (List.mem_cons_of_mem _ h)
  have hown : s.vm.findClass RX3 = some m.cls := findClass_of_methodNamed B.named
  have hlocks := B.notSynchronized
  have hS : va_S (fun q => base ≤ q) s.heap s.heap [] := va_S.rf
  have hl := lv_entry ([.ref (base + o)]) (n := 1) (Nat.le_of_ble_eq_true rfl)
  rw [lg_entry_eq]
  generalize (lg_sl ([.ref (base + o)]) ++ List.replicate (1 - (lg_sl ([.ref (base + o)])).length) Slot.unset).toArray = ls at hl ⊢
  have hl : lv_has ls 1 [(0, .ref (base + o))] := hl
  have hret : ∀ (pc : Nat) (v : VV) (H : Heap) (locs : List Loc) (ls : Array Slot), decode cX3_clear pc = .ok (.return_, 1) → Q v → va_P (dC, dI) vwCl (Wd base cy rf v 874) H → va_S (fun q => base ≤ q) s.heap H locs → W p l e { frames := 0, cells := 0, slots := 0, locals := 0 } s m ([.ref (base + o)]).toArray below meth c H locs 0 0 (MQ below (va_Qv Q (Hp dC dI base cy) (fun q => base ≤ q)) ([.ref (base + o)]).toArray s 0 0 (fun q => base ≤ q)) (F0 m pc ls []) := fun pc v H locs ls hd hq hP hS => W.vret hx hb hr (fun t ht hW => ⟨⟨v, rfl, hq, by rw [ht]; exact hP, va_K.moved hW.alike hK⟩, hS.F ht⟩) hS.2.2 hd
  refine lv_aload_n hx hb dX3_clear_0 rfl (lv_at hl 0 rfl) ?_
  refine lv_iconst (v := 0) hx hb dX3_clear_1 (by decide) ?_
  refine w_pI (C := RX3) (T := TX3) (N := 6) (ci := 3) hx hb hts in3 tyX3 tyX3_ok nmX3 hown hK hP hS 2 ho.1 ho rfl (by decide) (hts _ mf_X3_18) rfl (ty := .int) (by decide +kernel) rfl rfl dX3_clear_2 (fun v1 H locs hv1 hP hz hS => ?_)
  have hw := hw v1 hv1
  refine lv_aload_n hx hb dX3_clear_5 rfl (lv_at hl 0 rfl) ?_
  refine lv_iconst (v := 0) hx hb dX3_clear_6 (by decide) ?_
  refine w_pI (C := RX3) (T := TX3) (N := 6) (ci := 3) hx hb hts in3 tyX3 tyX3_ok nmX3 hown hK hP hS 3 ho.1 ho rfl (by decide) (hts _ mf_X3_22) rfl (ty := .int) (by decide +kernel) rfl rfl dX3_clear_7 (fun v2 H locs hv2 hP hz hS => ?_)
  have hw := hw v2 hv2
  refine lv_aload_n hx hb dX3_clear_10 rfl (lv_at hl 0 rfl) ?_
  refine lv_iconst (v := 0) hx hb dX3_clear_11 (by decide) ?_
  refine w_pI (C := RX3) (T := TX3) (N := 6) (ci := 3) hx hb hts in3 tyX3 tyX3_ok nmX3 hown hK hP hS 4 ho.1 ho rfl (by decide) (hts _ mf_X3_25) rfl (ty := .int) (by decide +kernel) rfl rfl dX3_clear_12 (fun v3 H locs hv3 hP hz hS => ?_)
  have hw := hw v3 hv3
  refine lv_aload_n hx hb dX3_clear_15 rfl (lv_at hl 0 rfl) ?_
  refine lv_iconst (v := 0) hx hb dX3_clear_16 (by decide) ?_
  refine w_pI (C := RX3) (T := TX3) (N := 6) (ci := 3) hx hb hts in3 tyX3 tyX3_ok nmX3 hown hK hP hS 5 ho.1 ho rfl (by decide) (hts _ mf_X3_28) rfl (ty := .int) (by decide +kernel) rfl rfl dX3_clear_17 (fun v4 H locs hv4 hP hz hS => ?_)
  have hw := hw v4 hv4
  exact hret _ _ _ _ _ dX3_clear_20 hw hP hS
def b_X1_clear_2 (o : Nat) (Q : VV → Prop) (fu : Nat) : Int32 → VV → Prop :=
  Nat.rec (motive := fun _ => Int32 → VV → Prop) (fun _ _ => False) (fun _ ih a1 v => (8 ≤ a1 → ∀ v1 : VV, v1 = up2 v o 8 0 → ∀ v2 : VV, v2 = up2 v1 o 9 0 → ∀ v3 : VV, v3 = up2 v2 o 10 0 → ∀ v4 : VV, v4 = up2 v3 o 11 0 → ∀ v5 : VV, v5 = up2 v4 o 12 0 → ∀ v6 : VV, v6 = up2 v5 o 13 0 → Q v6) ∧ (¬ 8 ≤ a1 → vp_in a1 8 ∧ ∀ v7 : VV, v7 = up2 v (o + 12) (Int32.toNatClampNeg a1) (vp_nar .boolean 0) → ∀ x15 : Int32, x15 = a1 + 1 → ih x15 v7)) fu
set_option maxHeartbeats 4000000 in
set_option maxRecDepth 100000 in
theorem tb_X1_clear_2 {p : Program} {l : Launch} {e : Env} {s : State} {m : MethodId} {args : Array Value} {below : List Frame} {meth : Method} {c : Code} {QQ : State → Prop} {dC : Nat → ClassId} {dI : Nat → Nat → Nat} {base : Nat} {cy : Nat → ClassId} (hx : p.tables.exec = Jvm.exec) (hb : c.code = cX1_clear) (hml : c.maxLocals = 2) (hown : s.vm.findClass RX1 = some m.cls) (hts : ∀ w ∈ TB, w.before args s = true) (hK : va_K (dC, dI) vwCl (tyL cy) s) (o : Nat) (ho : isO 1 o) (Q : VV → Prop) (hret : ∀ (pc : Nat) (v : VV) (H : Heap) (locs : List Loc) (ls : Array Slot), decode cX1_clear pc = .ok (.return_, 1) → Q v → va_P (dC, dI) vwCl (Wd base cy rf v 874) H → va_S (fun q => base ≤ q) s.heap H locs → W p l e { frames := 0, cells := 0, slots := 0, locals := 0 } s m args below meth c H locs 0 0 QQ (F0 m pc ls [])) : ∀ (fu : Nat) (a1 : Int32) (v : VV) (H : Heap) (locs : List Loc) (ls : Array Slot), b_X1_clear_2 o Q  fu a1 v → lv_has ls 2 [(0, .ref (base + o)), (1, .int a1)] → va_P (dC, dI) vwCl (Wd base cy rf v 874) H → va_S (fun q => base ≤ q) s.heap H locs → W p l e { frames := 0, cells := 0, slots := 0, locals := 0 } s m args below meth c H locs 0 0 QQ (F0 m 2 ls []) := by
  intro fu
  induction fu with
  | zero =>
    intro a1 v H locs ls hw hl hP hS
    exact hw.elim
  | succ fu ih =>
    intro a1 v H locs ls hw hl hP hS
    refine lv_iload_n hx hb dX1_clear_2 rfl (lv_at hl 1 rfl) ?_
    refine lv_bipush (v := 8) hx hb dX1_clear_3 (by decide) ?_
    refine lv_icmp_ge (tgt := 21) hx hb dX1_clear_5 (by decide) (fun c5 => ?_) (fun c5 => ?_)
    · have hw := hw.1 c5
      refine lv_aload_n hx hb dX1_clear_21 rfl (lv_at hl 0 rfl) ?_
      refine lv_iconst (v := 0) hx hb dX1_clear_22 (by decide) ?_
      refine w_pI (C := RX1) (T := TX1) (N := 15) (ci := 1) hx hb hts in1 tyX1 tyX1_ok nmX1 hown hK hP hS 8 ho.1 ho rfl (by decide) (hts _ mf_X1_39) rfl (ty := .int) (by decide +kernel) rfl rfl dX1_clear_23 (fun v1 H locs hv1 hP hz hS => ?_)
      have hw := hw v1 hv1
      refine lv_aload_n hx hb dX1_clear_26 rfl (lv_at hl 0 rfl) ?_
      refine lv_iconst (v := 0) hx hb dX1_clear_27 (by decide) ?_
      refine w_pI (C := RX1) (T := TX1) (N := 15) (ci := 1) hx hb hts in1 tyX1 tyX1_ok nmX1 hown hK hP hS 9 ho.1 ho rfl (by decide) (hts _ mf_X1_43) rfl (ty := .int) (by decide +kernel) rfl rfl dX1_clear_28 (fun v2 H locs hv2 hP hz hS => ?_)
      have hw := hw v2 hv2
      refine lv_aload_n hx hb dX1_clear_31 rfl (lv_at hl 0 rfl) ?_
      refine lv_iconst (v := 0) hx hb dX1_clear_32 (by decide) ?_
      refine w_pI (C := RX1) (T := TX1) (N := 15) (ci := 1) hx hb hts in1 tyX1 tyX1_ok nmX1 hown hK hP hS 10 ho.1 ho rfl (by decide) (hts _ mf_X1_46) rfl (ty := .int) (by decide +kernel) rfl rfl dX1_clear_33 (fun v3 H locs hv3 hP hz hS => ?_)
      have hw := hw v3 hv3
      refine lv_aload_n hx hb dX1_clear_36 rfl (lv_at hl 0 rfl) ?_
      refine lv_iconst (v := 0) hx hb dX1_clear_37 (by decide) ?_
      refine w_pI (C := RX1) (T := TX1) (N := 15) (ci := 1) hx hb hts in1 tyX1 tyX1_ok nmX1 hown hK hP hS 11 ho.1 ho rfl (by decide) (hts _ mf_X1_49) rfl (ty := .int) (by decide +kernel) rfl rfl dX1_clear_38 (fun v4 H locs hv4 hP hz hS => ?_)
      have hw := hw v4 hv4
      refine lv_aload_n hx hb dX1_clear_41 rfl (lv_at hl 0 rfl) ?_
      refine lv_iconst (v := 0) hx hb dX1_clear_42 (by decide) ?_
      refine w_pI (C := RX1) (T := TX1) (N := 15) (ci := 1) hx hb hts in1 tyX1 tyX1_ok nmX1 hown hK hP hS 12 ho.1 ho rfl (by decide) (hts _ mf_X1_52) rfl (ty := .int) (by decide +kernel) rfl rfl dX1_clear_43 (fun v5 H locs hv5 hP hz hS => ?_)
      have hw := hw v5 hv5
      refine lv_aload_n hx hb dX1_clear_46 rfl (lv_at hl 0 rfl) ?_
      refine lv_iconst (v := 0) hx hb dX1_clear_47 (by decide) ?_
      refine w_pI (C := RX1) (T := TX1) (N := 15) (ci := 1) hx hb hts in1 tyX1 tyX1_ok nmX1 hown hK hP hS 13 ho.1 ho rfl (by decide) (hts _ mf_X1_55) rfl (ty := .int) (by decide +kernel) rfl rfl dX1_clear_48 (fun v6 H locs hv6 hP hz hS => ?_)
      have hw := hw v6 hv6
      exact hret _ _ _ _ _ dX1_clear_51 hw hP hS
    · have hw := hw.2 c5
      refine lv_aload_n hx hb dX1_clear_8 rfl (lv_at hl 0 rfl) ?_
      refine w_gR (C := RX1) (T := TX1) (N := 15) (ci := 1) hx hb hts in1 hown hK hP 3 ho.1 ho rfl (by decide) (ch1_3 ho).1 (hts _ mf_X1_24) dX1_clear_9 ?_
      refine lv_iload_n hx hb dX1_clear_12 rfl (lv_at hl 1 rfl) ?_
      refine lv_iconst (v := 0) hx hb dX1_clear_13 (by decide) ?_
      obtain ⟨hi8, hw⟩ := hw
      refine w_zs (N := 8) hx hb hK hP hS (ch1_3 ho).2.1.1 (ch1_3 ho).2.1 (ch1_3 ho).2.2 hi8 dX1_clear_14 (fun v7 H locs hv7 hP hz hS => ?_)
      have hw := hw v7 hv7
      obtain ⟨x15, ex15⟩ : ∃ y : Int32, y = a1 + 1 := ⟨_, rfl⟩
      have hw := hw x15 ex15
      refine lv_iinc (v := x15) (lv' := [(1, .int x15), (0, .ref (base + o))]) hx hb dX1_clear_15 hl (k := 1) rfl (by rw [ex15]; first | rfl | (rw [show Int32.ofInt (-1) = (-1 : Int32) from by decide])) (by decide) rfl (fun ls hl => ?_)
      refine lv_goto (tgt := 2) hx hb dX1_clear_18 (by decide) ?_
      exact ih x15 v7 _ _ _ hw (lv_sub hl [1, 0] rfl) hP hS
def w_X1_clear (o : Nat) (v : VV) (Q : VV → Prop) : Prop :=
  ∃ fu : Nat, b_X1_clear_2 o Q  fu 0 v
set_option maxHeartbeats 4000000 in
set_option maxRecDepth 100000 in
/-- TransportFour$Inbox.clear -/
theorem t_X1_clear (l : Launch) (dC : Nat → ClassId) (dI : Nat → Nat → Nat) (base : Nat) (cy : Nat → ClassId) (o : Nat) (ho : isO 1 o) (v : VV) (Q : VV → Prop) (hw : w_X1_clear o v Q) : CV l yX1_clear (.code yX1_clear cX1_clear 2 none :: TB) { frames := 0, cells := 0, slots := 0, locals := 0 } dC dI base cy [.ref (base + o)] v Q := by
  refine Met.ofW (cc := cX1_clear) (maxL := 2) (ret := none) (by decide) rfl ?_
  intro p e s m args below meth c s₁ B hml hv
  obtain ⟨rfl, hP, hK⟩ := hv
  have hx := B.exec
  have hb := B.bytes
  have hr := B.returns
  have hts0 := atoms_spec (ws := (.code yX1_clear cX1_clear 2 none :: TB)) B.pre
  have hts : ∀ w ∈ TB, w.before ([.ref (base + o)]).toArray s = true := fun w h => hts0 w (List.mem_cons_of_mem _ h)
  have hown : s.vm.findClass RX1 = some m.cls := findClass_of_methodNamed B.named
  have hlocks := B.notSynchronized
  have hS : va_S (fun q => base ≤ q) s.heap s.heap [] := va_S.rf
  have hl := lv_entry ([.ref (base + o)]) (n := 2) (Nat.le_of_ble_eq_true rfl)
  rw [lg_entry_eq]
  generalize (lg_sl ([.ref (base + o)]) ++ List.replicate (2 - (lg_sl ([.ref (base + o)])).length) Slot.unset).toArray = ls at hl ⊢
  have hl : lv_has ls 2 [(0, .ref (base + o))] := hl
  have hret : ∀ (pc : Nat) (v : VV) (H : Heap) (locs : List Loc) (ls : Array Slot), decode cX1_clear pc = .ok (.return_, 1) → Q v → va_P (dC, dI) vwCl (Wd base cy rf v 874) H → va_S (fun q => base ≤ q) s.heap H locs → W p l e { frames := 0, cells := 0, slots := 0, locals := 0 } s m ([.ref (base + o)]).toArray below meth c H locs 0 0 (MQ below (va_Qv Q (Hp dC dI base cy) (fun q => base ≤ q)) ([.ref (base + o)]).toArray s 0 0 (fun q => base ≤ q)) (F0 m pc ls []) := fun pc v H locs ls hd hq hP hS => W.vret hx hb hr (fun t ht hW => ⟨⟨v, rfl, hq, by rw [ht]; exact hP, va_K.moved hW.alike hK⟩, hS.F ht⟩) hS.2.2 hd
  refine lv_iconst (v := 0) hx hb dX1_clear_0 (by decide) ?_
  refine lv_istore_n (lv' := [(1, .int 0), (0, .ref (base + o))]) hx hb dX1_clear_1 rfl hl (by decide) rfl (fun ls hl => ?_)
  obtain ⟨fu, hw⟩ := hw
  exact tb_X1_clear_2 hx hb hml hown hts hK o ho _ hret  fu 0 v _ _ _ hw (lv_sub hl [1, 0] rfl) hP hS
def w_X8_clear (o : Nat) (v : VV) (Q : VV → Prop) : Prop :=
  ∀ v1 : VV, v1 = up2 v o 0 0 → Q v1
set_option maxHeartbeats 4000000 in
set_option maxRecDepth 100000 in
/-- TransportFour$Wait.clear -/
theorem t_X8_clear (l : Launch) (dC : Nat → ClassId) (dI : Nat → Nat → Nat) (base : Nat) (cy : Nat → ClassId) (o : Nat) (ho : isO 8 o) (v : VV) (Q : VV → Prop) (hw : w_X8_clear o v Q) : CV l yX8_clear (.code yX8_clear cX8_clear 1 none :: TB) { frames := 0, cells := 0, slots := 0, locals := 0 } dC dI base cy [.ref (base + o)] v Q := by
  refine Met.ofW (cc := cX8_clear) (maxL := 1) (ret := none) (by decide) rfl ?_
  intro p e s m args below meth c s₁ B hml hv
  obtain ⟨rfl, hP, hK⟩ := hv
  have hx := B.exec
  have hb := B.bytes
  have hr := B.returns
  have hts0 := atoms_spec (ws := (.code yX8_clear cX8_clear 1 none :: TB)) B.pre
  have hts : ∀ w ∈ TB, w.before ([.ref (base + o)]).toArray s = true := fun w h => hts0 w (List.mem_cons_of_mem _ h)
  have hown : s.vm.findClass RX8 = some m.cls := findClass_of_methodNamed B.named
  have hlocks := B.notSynchronized
  have hS : va_S (fun q => base ≤ q) s.heap s.heap [] := va_S.rf
  have hl := lv_entry ([.ref (base + o)]) (n := 1) (Nat.le_of_ble_eq_true rfl)
  rw [lg_entry_eq]
  generalize (lg_sl ([.ref (base + o)]) ++ List.replicate (1 - (lg_sl ([.ref (base + o)])).length) Slot.unset).toArray = ls at hl ⊢
  have hl : lv_has ls 1 [(0, .ref (base + o))] := hl
  have hret : ∀ (pc : Nat) (v : VV) (H : Heap) (locs : List Loc) (ls : Array Slot), decode cX8_clear pc = .ok (.return_, 1) → Q v → va_P (dC, dI) vwCl (Wd base cy rf v 874) H → va_S (fun q => base ≤ q) s.heap H locs → W p l e { frames := 0, cells := 0, slots := 0, locals := 0 } s m ([.ref (base + o)]).toArray below meth c H locs 0 0 (MQ below (va_Qv Q (Hp dC dI base cy) (fun q => base ≤ q)) ([.ref (base + o)]).toArray s 0 0 (fun q => base ≤ q)) (F0 m pc ls []) := fun pc v H locs ls hd hq hP hS => W.vret hx hb hr (fun t ht hW => ⟨⟨v, rfl, hq, by rw [ht]; exact hP, va_K.moved hW.alike hK⟩, hS.F ht⟩) hS.2.2 hd
  refine lv_aload_n hx hb dX8_clear_0 rfl (lv_at hl 0 rfl) ?_
  refine lv_iconst (v := 0) hx hb dX8_clear_1 (by decide) ?_
  refine w_pI (C := RX8) (T := TX8) (N := 2) (ci := 8) hx hb hts in8 tyX8 tyX8_ok nmX8 hown hK hP hS 0 ho.1 ho rfl (by decide) (hts _ mf_X8_9) rfl (ty := .int) (by decide +kernel) rfl rfl dX8_clear_2 (fun v1 H locs hv1 hP hz hS => ?_)
  have hw := hw v1 hv1
  exact hret _ _ _ _ _ dX8_clear_5 hw hP hS
def w_X7_clear (o : Nat) (v : VV) (Q : VV → Prop) : Prop :=
  ∀ v1 : VV, v1 = up2 v o 2 0 → ∀ v2 : VV, v2 = up2 v1 o 3 0 → w_X8_clear (o + 2) v2 (fun (v3 : VV) => Q v3)
set_option maxHeartbeats 4000000 in
set_option maxRecDepth 100000 in
/-- TransportFour$UrgentOut.clear -/
theorem t_X7_clear (l : Launch) (dC : Nat → ClassId) (dI : Nat → Nat → Nat) (base : Nat) (cy : Nat → ClassId) (o : Nat) (ho : isO 7 o) (v : VV) (Q : VV → Prop) (hw : w_X7_clear o v Q) : CV l yX7_clear (.code yX7_clear cX7_clear 1 none :: TB) { frames := 1, cells := 0, slots := 0, locals := 20 } dC dI base cy [.ref (base + o)] v Q := by
  refine Met.ofW (cc := cX7_clear) (maxL := 1) (ret := none) (by decide) rfl ?_
  intro p e s m args below meth c s₁ B hml hv
  obtain ⟨rfl, hP, hK⟩ := hv
  have hx := B.exec
  have hb := B.bytes
  have hr := B.returns
  have hts0 := atoms_spec (ws := (.code yX7_clear cX7_clear 1 none :: TB)) B.pre
  have hts : ∀ w ∈ TB, w.before ([.ref (base + o)]).toArray s = true := fun w h => hts0 w (List.mem_cons_of_mem _ h)
  have hown : s.vm.findClass RX7 = some m.cls := findClass_of_methodNamed B.named
  have hlocks := B.notSynchronized
  have hS : va_S (fun q => base ≤ q) s.heap s.heap [] := va_S.rf
  have hl := lv_entry ([.ref (base + o)]) (n := 1) (Nat.le_of_ble_eq_true rfl)
  rw [lg_entry_eq]
  generalize (lg_sl ([.ref (base + o)]) ++ List.replicate (1 - (lg_sl ([.ref (base + o)])).length) Slot.unset).toArray = ls at hl ⊢
  have hl : lv_has ls 1 [(0, .ref (base + o))] := hl
  have hret : ∀ (pc : Nat) (v : VV) (H : Heap) (locs : List Loc) (ls : Array Slot), decode cX7_clear pc = .ok (.return_, 1) → Q v → va_P (dC, dI) vwCl (Wd base cy rf v 874) H → va_S (fun q => base ≤ q) s.heap H locs → W p l e { frames := 1, cells := 0, slots := 0, locals := 20 } s m ([.ref (base + o)]).toArray below meth c H locs 0 0 (MQ below (va_Qv Q (Hp dC dI base cy) (fun q => base ≤ q)) ([.ref (base + o)]).toArray s 0 0 (fun q => base ≤ q)) (F0 m pc ls []) := fun pc v H locs ls hd hq hP hS => W.vret hx hb hr (fun t ht hW => ⟨⟨v, rfl, hq, by rw [ht]; exact hP, va_K.moved hW.alike hK⟩, hS.F ht⟩) hS.2.2 hd
  refine lv_aload_n hx hb dX7_clear_0 rfl (lv_at hl 0 rfl) ?_
  refine lv_iconst (v := 0) hx hb dX7_clear_1 (by decide) ?_
  refine w_pI (C := RX7) (T := TX7) (N := 4) (ci := 7) hx hb hts in7 tyX7 tyX7_ok nmX7 hown hK hP hS 2 ho.1 ho rfl (by decide) (hts _ mf_X7_22) rfl (ty := .int) (by decide +kernel) rfl rfl dX7_clear_2 (fun v1 H locs hv1 hP hz hS => ?_)
  have hw := hw v1 hv1
  refine lv_aload_n hx hb dX7_clear_5 rfl (lv_at hl 0 rfl) ?_
  refine lv_iconst (v := 0) hx hb dX7_clear_6 (by decide) ?_
  refine w_pI (C := RX7) (T := TX7) (N := 4) (ci := 7) hx hb hts in7 tyX7 tyX7_ok nmX7 hown hK hP hS 3 ho.1 ho rfl (by decide) (hts _ mf_X7_26) rfl (ty := .int) (by decide +kernel) rfl rfl dX7_clear_7 (fun v2 H locs hv2 hP hz hS => ?_)
  have hw := hw v2 hv2
  refine lv_aload_n hx hb dX7_clear_10 rfl (lv_at hl 0 rfl) ?_
  refine w_gR (C := RX7) (T := TX7) (N := 4) (ci := 7) hx hb hts in7 hown hK hP 1 ho.1 ho rfl (by decide) (ch7_1 ho).1 (hts _ mf_X7_18) dX7_clear_11 ?_
  refine k_V (As := []) (rest := []) ⟨hx, hb, hml, hown, hts⟩ (t_X8_clear l dC dI base cy (o + 2) (ch7_1 ho).2 v2 _ hw) (cwV 0 hts (gV ml_X7_29 mi_X8_clear mx_X8_clear mn_X8 mo_X8_clear) rfl rfl rfl (by decide +kernel) ⟨by decide, by decide⟩) hK hP hS (ch7_1 ho).2 (by decide) rfl rfl hl.1 rfl (Nat.le_of_ble_eq_true rfl) dX7_clear_14 ⟨Nat.zero_le _, Nat.zero_le _⟩ (fun v3 H locs hw hP hS => ?_)
  exact hret _ _ _ _ _ dX7_clear_17 hw hP hS
def w_X6_clear (o : Nat) (v : VV) (Q : VV → Prop) : Prop :=
  ∀ v1 : VV, v1 = up2 v o 2 0 → ∀ v2 : VV, v2 = up2 v1 o 3 0 → Q v2
set_option maxHeartbeats 4000000 in
set_option maxRecDepth 100000 in
/-- TransportFour$UrgentIn.clear -/
theorem t_X6_clear (l : Launch) (dC : Nat → ClassId) (dI : Nat → Nat → Nat) (base : Nat) (cy : Nat → ClassId) (o : Nat) (ho : isO 6 o) (v : VV) (Q : VV → Prop) (hw : w_X6_clear o v Q) : CV l yX6_clear (.code yX6_clear cX6_clear 1 none :: TB) { frames := 0, cells := 0, slots := 0, locals := 0 } dC dI base cy [.ref (base + o)] v Q := by
  refine Met.ofW (cc := cX6_clear) (maxL := 1) (ret := none) (by decide) rfl ?_
  intro p e s m args below meth c s₁ B hml hv
  obtain ⟨rfl, hP, hK⟩ := hv
  have hx := B.exec
  have hb := B.bytes
  have hr := B.returns
  have hts0 := atoms_spec (ws := (.code yX6_clear cX6_clear 1 none :: TB)) B.pre
  have hts : ∀ w ∈ TB, w.before ([.ref (base + o)]).toArray s = true := fun w h => hts0 w (List.mem_cons_of_mem _ h)
  have hown : s.vm.findClass RX6 = some m.cls := findClass_of_methodNamed B.named
  have hlocks := B.notSynchronized
  have hS : va_S (fun q => base ≤ q) s.heap s.heap [] := va_S.rf
  have hl := lv_entry ([.ref (base + o)]) (n := 1) (Nat.le_of_ble_eq_true rfl)
  rw [lg_entry_eq]
  generalize (lg_sl ([.ref (base + o)]) ++ List.replicate (1 - (lg_sl ([.ref (base + o)])).length) Slot.unset).toArray = ls at hl ⊢
  have hl : lv_has ls 1 [(0, .ref (base + o))] := hl
  have hret : ∀ (pc : Nat) (v : VV) (H : Heap) (locs : List Loc) (ls : Array Slot), decode cX6_clear pc = .ok (.return_, 1) → Q v → va_P (dC, dI) vwCl (Wd base cy rf v 874) H → va_S (fun q => base ≤ q) s.heap H locs → W p l e { frames := 0, cells := 0, slots := 0, locals := 0 } s m ([.ref (base + o)]).toArray below meth c H locs 0 0 (MQ below (va_Qv Q (Hp dC dI base cy) (fun q => base ≤ q)) ([.ref (base + o)]).toArray s 0 0 (fun q => base ≤ q)) (F0 m pc ls []) := fun pc v H locs ls hd hq hP hS => W.vret hx hb hr (fun t ht hW => ⟨⟨v, rfl, hq, by rw [ht]; exact hP, va_K.moved hW.alike hK⟩, hS.F ht⟩) hS.2.2 hd
  refine lv_aload_n hx hb dX6_clear_0 rfl (lv_at hl 0 rfl) ?_
  refine lv_iconst (v := 0) hx hb dX6_clear_1 (by decide) ?_
  refine w_pI (C := RX6) (T := TX6) (N := 4) (ci := 6) hx hb hts in6 tyX6 tyX6_ok nmX6 hown hK hP hS 2 ho.1 ho rfl (by decide) (hts _ mf_X6_15) rfl (ty := .int) (by decide +kernel) rfl rfl dX6_clear_2 (fun v1 H locs hv1 hP hz hS => ?_)
  have hw := hw v1 hv1
  refine lv_aload_n hx hb dX6_clear_5 rfl (lv_at hl 0 rfl) ?_
  refine lv_iconst (v := 0) hx hb dX6_clear_6 (by decide) ?_
  refine w_pI (C := RX6) (T := TX6) (N := 4) (ci := 6) hx hb hts in6 tyX6 tyX6_ok nmX6 hown hK hP hS 3 ho.1 ho rfl (by decide) (hts _ mf_X6_19) rfl (ty := .int) (by decide +kernel) rfl rfl dX6_clear_7 (fun v2 H locs hv2 hP hz hS => ?_)
  have hw := hw v2 hv2
  exact hret _ _ _ _ _ dX6_clear_10 hw hP hS
def b_X0_beginConnection_72 (o : Nat) (p1 : Int32) (p2 : Int32) (Q : VV → Prop) (a1 : Int32) (a2 : Int32) (s0 : Int32) (v : VV) : Prop :=
  (s0 = 0 ∨ s0 = 1) ∧ ∀ v1 : VV, v1 = up2 v o 12 s0 → ∀ x80 : Int32, x80 = v1 1 10 → ∀ v2 : VV, v2 = up2 v1 o 13 x80 → ∀ v3 : VV, v3 = up2 v2 o 8 a1 → Q v3
set_option maxHeartbeats 4000000 in
set_option maxRecDepth 100000 in
theorem tb_X0_beginConnection_72 {p : Program} {l : Launch} {e : Env} {s : State} {m : MethodId} {args : Array Value} {below : List Frame} {meth : Method} {c : Code} {QQ : State → Prop} {dC : Nat → ClassId} {dI : Nat → Nat → Nat} {base : Nat} {cy : Nat → ClassId} (hx : p.tables.exec = Jvm.exec) (hb : c.code = cX0_beginConnection) (hml : c.maxLocals = 3) (hown : s.vm.findClass RX0 = some m.cls) (hts : ∀ w ∈ TB, w.before args s = true) (hK : va_K (dC, dI) vwCl (tyL cy) s) (o : Nat) (ho : isO 0 o) (p1 : Int32) (p2 : Int32) (Q : VV → Prop) (hret : ∀ (pc : Nat) (v : VV) (H : Heap) (locs : List Loc) (ls : Array Slot), decode cX0_beginConnection pc = .ok (.return_, 1) → Q v → va_P (dC, dI) vwCl (Wd base cy rf v 874) H → va_S (fun q => base ≤ q) s.heap H locs → W p l e { frames := 2, cells := 0, slots := 0, locals := 40 } s m args below meth c H locs 0 0 QQ (F0 m pc ls [])) (a1 : Int32) (a2 : Int32) (s0 : Int32) (v : VV) (H : Heap) (locs : List Loc) (ls : Array Slot) (hw : b_X0_beginConnection_72 o p1 p2 Q  a1 a2 s0 v) : lv_has ls 3 [(0, .ref (base + o)), (1, .int a1), (2, .int a2)] → va_P (dC, dI) vwCl (Wd base cy rf v 874) H → va_S (fun q => base ≤ q) s.heap H locs → W p l e { frames := 2, cells := 0, slots := 0, locals := 40 } s m args below meth c H locs 0 0 QQ (F0 m 72 ls [.int s0, .ref (base + o)]) := by
  intro hl hP hS
  obtain ⟨hzb, hw⟩ := hw
  refine w_pI (C := RX0) (T := TX0) (N := 15) (ci := 0) hx hb hts in0 tyX0 tyX0_ok nmX0 hown hK hP hS 12 ho.1 ho rfl (by decide) (hts _ mf_X0_84) rfl (ty := .boolean) (by decide +kernel) (zb_n hzb) (zb_f hzb) dX0_beginConnection_72 (fun v1 H locs hv1 hP hz hS => ?_)
  have hw := hw v1 hv1
  refine lv_aload_n hx hb dX0_beginConnection_75 rfl (lv_at hl 0 rfl) ?_
  refine lv_aload_n hx hb dX0_beginConnection_76 rfl (lv_at hl 0 rfl) ?_
  refine w_gR (C := RX0) (T := TX0) (N := 15) (ci := 0) hx hb hts in0 hown hK hP 1 ho.1 ho rfl (by decide) (ch0_1 ho).1 (hts _ mf_X0_53) dX0_beginConnection_77 ?_
  refine w_gI (C := RX2) (T := TX2) (N := 11) (ci := 2) hx hb hts in2 hown hK hP 10 (ch0_1 ho).2.1 (ch0_1 ho).2 rfl (by decide) (hts _ mf_X0_88) dX0_beginConnection_80 ?_
  refine lv_topi (fun x80 ex80 => ?_)
  have hw := hw x80 ex80
  refine w_pI (C := RX0) (T := TX0) (N := 15) (ci := 0) hx hb hts in0 tyX0 tyX0_ok nmX0 hown hK hP hS 13 ho.1 ho rfl (by decide) (hts _ mf_X0_93) rfl (ty := .int) (by decide +kernel) rfl rfl dX0_beginConnection_83 (fun v2 H locs hv2 hP hz hS => ?_)
  have hw := hw v2 hv2
  refine lv_aload_n hx hb dX0_beginConnection_86 rfl (lv_at hl 0 rfl) ?_
  refine lv_iload_n hx hb dX0_beginConnection_87 rfl (lv_at hl 1 rfl) ?_
  refine w_pI (C := RX0) (T := TX0) (N := 15) (ci := 0) hx hb hts in0 tyX0 tyX0_ok nmX0 hown hK hP hS 8 ho.1 ho rfl (by decide) (hts _ mf_X0_57) rfl (ty := .int) (by decide +kernel) rfl rfl dX0_beginConnection_88 (fun v3 H locs hv3 hP hz hS => ?_)
  have hw := hw v3 hv3
  exact hret _ _ _ _ _ dX0_beginConnection_91 hw hP hS
def b_X0_beginConnection_48 (o : Nat) (p1 : Int32) (p2 : Int32) (Q : VV → Prop) (a1 : Int32) (a2 : Int32) (s0 : Int32) (v : VV) : Prop :=
  ∀ v1 : VV, v1 = up2 v o 9 s0 → ∀ v2 : VV, v2 = up2 v1 o 10 a2 → ∀ v3 : VV, v3 = up2 v2 o 11 ((-1)) → (¬ a1 = 2 → b_X0_beginConnection_72 o p1 p2 Q  a1 a2 0 v3) ∧ (a1 = 2 → b_X0_beginConnection_72 o p1 p2 Q  a1 a2 1 v3)
set_option maxHeartbeats 4000000 in
set_option maxRecDepth 100000 in
theorem tb_X0_beginConnection_48 {p : Program} {l : Launch} {e : Env} {s : State} {m : MethodId} {args : Array Value} {below : List Frame} {meth : Method} {c : Code} {QQ : State → Prop} {dC : Nat → ClassId} {dI : Nat → Nat → Nat} {base : Nat} {cy : Nat → ClassId} (hx : p.tables.exec = Jvm.exec) (hb : c.code = cX0_beginConnection) (hml : c.maxLocals = 3) (hown : s.vm.findClass RX0 = some m.cls) (hts : ∀ w ∈ TB, w.before args s = true) (hK : va_K (dC, dI) vwCl (tyL cy) s) (o : Nat) (ho : isO 0 o) (p1 : Int32) (p2 : Int32) (Q : VV → Prop) (hret : ∀ (pc : Nat) (v : VV) (H : Heap) (locs : List Loc) (ls : Array Slot), decode cX0_beginConnection pc = .ok (.return_, 1) → Q v → va_P (dC, dI) vwCl (Wd base cy rf v 874) H → va_S (fun q => base ≤ q) s.heap H locs → W p l e { frames := 2, cells := 0, slots := 0, locals := 40 } s m args below meth c H locs 0 0 QQ (F0 m pc ls [])) (a1 : Int32) (a2 : Int32) (s0 : Int32) (v : VV) (H : Heap) (locs : List Loc) (ls : Array Slot) (hw : b_X0_beginConnection_48 o p1 p2 Q  a1 a2 s0 v) : lv_has ls 3 [(0, .ref (base + o)), (1, .int a1), (2, .int a2)] → va_P (dC, dI) vwCl (Wd base cy rf v 874) H → va_S (fun q => base ≤ q) s.heap H locs → W p l e { frames := 2, cells := 0, slots := 0, locals := 40 } s m args below meth c H locs 0 0 QQ (F0 m 48 ls [.int s0, .ref (base + o)]) := by
  intro hl hP hS
  refine w_pI (C := RX0) (T := TX0) (N := 15) (ci := 0) hx hb hts in0 tyX0 tyX0_ok nmX0 hown hK hP hS 9 ho.1 ho rfl (by decide) (hts _ mf_X0_71) rfl (ty := .int) (by decide +kernel) rfl rfl dX0_beginConnection_48 (fun v1 H locs hv1 hP hz hS => ?_)
  have hw := hw v1 hv1
  refine lv_aload_n hx hb dX0_beginConnection_51 rfl (lv_at hl 0 rfl) ?_
  refine lv_iload_n hx hb dX0_beginConnection_52 rfl (lv_at hl 2 rfl) ?_
  refine w_pI (C := RX0) (T := TX0) (N := 15) (ci := 0) hx hb hts in0 tyX0 tyX0_ok nmX0 hown hK hP hS 10 ho.1 ho rfl (by decide) (hts _ mf_X0_81) rfl (ty := .int) (by decide +kernel) rfl rfl dX0_beginConnection_53 (fun v2 H locs hv2 hP hz hS => ?_)
  have hw := hw v2 hv2
  refine lv_aload_n hx hb dX0_beginConnection_56 rfl (lv_at hl 0 rfl) ?_
  refine lv_iconst (v := -1) hx hb dX0_beginConnection_57 (by decide) ?_
  refine w_pI (C := RX0) (T := TX0) (N := 15) (ci := 0) hx hb hts in0 tyX0 tyX0_ok nmX0 hown hK hP hS 11 ho.1 ho rfl (by decide) (hts _ mf_X0_46) rfl (ty := .int) (by decide +kernel) rfl rfl dX0_beginConnection_58 (fun v3 H locs hv3 hP hz hS => ?_)
  have hw := hw v3 hv3
  refine lv_aload_n hx hb dX0_beginConnection_61 rfl (lv_at hl 0 rfl) ?_
  refine lv_iload_n hx hb dX0_beginConnection_62 rfl (lv_at hl 1 rfl) ?_
  refine lv_iconst (v := 2) hx hb dX0_beginConnection_63 (by decide) ?_
  refine lv_icmp_ne (tgt := 71) hx hb dX0_beginConnection_64 (by decide) (fun c64 => ?_) (fun c64 => ?_)
  · have hw := hw.1 c64
    refine lv_iconst (v := 0) hx hb dX0_beginConnection_71 (by decide) ?_
    exact tb_X0_beginConnection_72 hx hb hml hown hts hK o ho p1 p2 _ hret  a1 a2 0 v3 _ _ _ hw (lv_sub hl [0, 1, 2] rfl) hP hS
  · have hw := hw.2 c64
    refine lv_iconst (v := 1) hx hb dX0_beginConnection_67 (by decide) ?_
    refine lv_goto (tgt := 72) hx hb dX0_beginConnection_68 (by decide) ?_
    exact tb_X0_beginConnection_72 hx hb hml hown hts hK o ho p1 p2 _ hret  a1 a2 1 v3 _ _ _ hw (lv_sub hl [0, 1, 2] rfl) hP hS
def w_X0_beginConnection (o : Nat) (p1 : Int32) (p2 : Int32) (v : VV) (Q : VV → Prop) : Prop :=
  w_X3_clear (o + 1) v (fun (v1 : VV) => w_X1_clear (o + 123) v1 (fun (v2 : VV) => w_X7_clear (o + 140) v2 (fun (v3 : VV) => w_X6_clear (o + 143) v3 (fun (v4 : VV) => ∀ x30 : Int32, x30 = v4 o 9 → (¬ x30 = 65535 → ∀ x43 : Int32, x43 = v4 o 9 → ∀ x47 : Int32, x47 = x43 + 1 → b_X0_beginConnection_48 o p1 p2 Q  p1 p2 x47 v4) ∧ (x30 = 65535 → b_X0_beginConnection_48 o p1 p2 Q  p1 p2 1 v4)))))
set_option maxHeartbeats 4000000 in
set_option maxRecDepth 100000 in
/-- TransportFour$End.beginConnection -/
theorem t_X0_beginConnection (l : Launch) (dC : Nat → ClassId) (dI : Nat → Nat → Nat) (base : Nat) (cy : Nat → ClassId) (o : Nat) (ho : isO 0 o) (p1 : Int32) (p2 : Int32) (v : VV) (Q : VV → Prop) (hw : w_X0_beginConnection o p1 p2 v Q) : CV l yX0_beginConnection (.code yX0_beginConnection cX0_beginConnection 3 none :: TB) { frames := 2, cells := 0, slots := 0, locals := 40 } dC dI base cy [.ref (base + o), .int p1, .int p2] v Q := by
  refine Met.ofW (cc := cX0_beginConnection) (maxL := 3) (ret := none) (by decide) rfl ?_
  intro p e s m args below meth c s₁ B hml hv
  obtain ⟨rfl, hP, hK⟩ := hv
  have hx := B.exec
  have hb := B.bytes
  have hr := B.returns
  have hts0 := atoms_spec (ws := (.code yX0_beginConnection cX0_beginConnection 3 none :: TB)) B.pre
  have hts : ∀ w ∈ TB, w.before ([.ref (base + o), .int p1, .int p2]).toArray s = true := fun w h => hts0 w (List.mem_cons_of_mem _ h)
  have hown : s.vm.findClass RX0 = some m.cls := findClass_of_methodNamed B.named
  have hlocks := B.notSynchronized
  have hS : va_S (fun q => base ≤ q) s.heap s.heap [] := va_S.rf
  have hl := lv_entry ([.ref (base + o), .int p1, .int p2]) (n := 3) (Nat.le_of_ble_eq_true rfl)
  rw [lg_entry_eq]
  generalize (lg_sl ([.ref (base + o), .int p1, .int p2]) ++ List.replicate (3 - (lg_sl ([.ref (base + o), .int p1, .int p2])).length) Slot.unset).toArray = ls at hl ⊢
  have hl : lv_has ls 3 [(0, .ref (base + o)), (1, .int p1), (2, .int p2)] := hl
  have hret : ∀ (pc : Nat) (v : VV) (H : Heap) (locs : List Loc) (ls : Array Slot), decode cX0_beginConnection pc = .ok (.return_, 1) → Q v → va_P (dC, dI) vwCl (Wd base cy rf v 874) H → va_S (fun q => base ≤ q) s.heap H locs → W p l e { frames := 2, cells := 0, slots := 0, locals := 40 } s m ([.ref (base + o), .int p1, .int p2]).toArray below meth c H locs 0 0 (MQ below (va_Qv Q (Hp dC dI base cy) (fun q => base ≤ q)) ([.ref (base + o), .int p1, .int p2]).toArray s 0 0 (fun q => base ≤ q)) (F0 m pc ls []) := fun pc v H locs ls hd hq hP hS => W.vret hx hb hr (fun t ht hW => ⟨⟨v, rfl, hq, by rw [ht]; exact hP, va_K.moved hW.alike hK⟩, hS.F ht⟩) hS.2.2 hd
  refine lv_aload_n hx hb dX0_beginConnection_0 rfl (lv_at hl 0 rfl) ?_
  refine w_gR (C := RX0) (T := TX0) (N := 15) (ci := 0) hx hb hts in0 hown hK hP 2 ho.1 ho rfl (by decide) (ch0_2 ho).1 (hts _ mf_X0_12) dX0_beginConnection_1 ?_
  refine k_V (As := []) (rest := []) ⟨hx, hb, hml, hown, hts⟩ (t_X3_clear l dC dI base cy (o + 1) (ch0_2 ho).2 v _ hw) (cwV 0 hts (gV ml_X0_74 mi_X3_clear mx_X3_clear mn_X3 mo_X3_clear) rfl rfl rfl (by decide +kernel) ⟨by decide, by decide⟩) hK hP hS (ch0_2 ho).2 (by decide) rfl rfl hl.1 rfl (Nat.le_of_ble_eq_true rfl) dX0_beginConnection_4 ⟨Nat.zero_le _, Nat.zero_le _⟩ (fun v1 H locs hw hP hS => ?_)
  refine lv_aload_n hx hb dX0_beginConnection_7 rfl (lv_at hl 0 rfl) ?_
  refine w_gR (C := RX0) (T := TX0) (N := 15) (ci := 0) hx hb hts in0 hown hK hP 3 ho.1 ho rfl (by decide) (ch0_3 ho).1 (hts _ mf_X0_21) dX0_beginConnection_8 ?_
  refine k_V (As := []) (rest := []) ⟨hx, hb, hml, hown, hts⟩ (t_X1_clear l dC dI base cy (o + 123) (ch0_3 ho).2 v1 _ hw) (cwV 0 hts (gV ml_X0_77 mi_X1_clear mx_X1_clear mn_X1 mo_X1_clear) rfl rfl rfl (by decide +kernel) ⟨by decide, by decide⟩) hK hP hS (ch0_3 ho).2 (by decide) rfl rfl hl.1 rfl (Nat.le_of_ble_eq_true rfl) dX0_beginConnection_11 ⟨Nat.zero_le _, Nat.zero_le _⟩ (fun v2 H locs hw hP hS => ?_)
  refine lv_aload_n hx hb dX0_beginConnection_14 rfl (lv_at hl 0 rfl) ?_
  refine w_gR (C := RX0) (T := TX0) (N := 15) (ci := 0) hx hb hts in0 hown hK hP 4 ho.1 ho rfl (by decide) (ch0_4 ho).1 (hts _ mf_X0_28) dX0_beginConnection_15 ?_
  refine k_V (As := []) (rest := []) ⟨hx, hb, hml, hown, hts⟩ (t_X7_clear l dC dI base cy (o + 140) (ch0_4 ho).2 v2 _ hw) (cwV 0 hts (gV ml_X0_78 mi_X7_clear mx_X7_clear mn_X7 mo_X7_clear) rfl rfl rfl (by decide +kernel) ⟨by decide, by decide⟩) hK hP hS (ch0_4 ho).2 (by decide) rfl rfl hl.1 rfl (Nat.le_of_ble_eq_true rfl) dX0_beginConnection_18 ⟨Nat.zero_le _, Nat.zero_le _⟩ (fun v3 H locs hw hP hS => ?_)
  refine lv_aload_n hx hb dX0_beginConnection_21 rfl (lv_at hl 0 rfl) ?_
  refine w_gR (C := RX0) (T := TX0) (N := 15) (ci := 0) hx hb hts in0 hown hK hP 5 ho.1 ho rfl (by decide) (ch0_5 ho).1 (hts _ mf_X0_35) dX0_beginConnection_22 ?_
  refine k_V (As := []) (rest := []) ⟨hx, hb, hml, hown, hts⟩ (t_X6_clear l dC dI base cy (o + 143) (ch0_5 ho).2 v3 _ hw) (cwV 0 hts (gV ml_X0_79 mi_X6_clear mx_X6_clear mn_X6 mo_X6_clear) rfl rfl rfl (by decide +kernel) ⟨by decide, by decide⟩) hK hP hS (ch0_5 ho).2 (by decide) rfl rfl hl.1 rfl (Nat.le_of_ble_eq_true rfl) dX0_beginConnection_25 ⟨Nat.zero_le _, Nat.zero_le _⟩ (fun v4 H locs hw hP hS => ?_)
  refine lv_aload_n hx hb dX0_beginConnection_28 rfl (lv_at hl 0 rfl) ?_
  refine lv_aload_n hx hb dX0_beginConnection_29 rfl (lv_at hl 0 rfl) ?_
  refine w_gI (C := RX0) (T := TX0) (N := 15) (ci := 0) hx hb hts in0 hown hK hP 9 ho.1 ho rfl (by decide) (hts _ mf_X0_71) dX0_beginConnection_30 ?_
  refine lv_topi (fun x30 ex30 => ?_)
  have hw := hw x30 ex30
  refine lv_ldc (v := 65535) hx hb hown (hts _ mk_X0_80) dX0_beginConnection_33 ?_
  refine lv_icmp_ne (tgt := 42) hx hb dX0_beginConnection_35 (by decide) (fun c35 => ?_) (fun c35 => ?_)
  · have hw := hw.1 c35
    refine lv_aload_n hx hb dX0_beginConnection_42 rfl (lv_at hl 0 rfl) ?_
    refine w_gI (C := RX0) (T := TX0) (N := 15) (ci := 0) hx hb hts in0 hown hK hP 9 ho.1 ho rfl (by decide) (hts _ mf_X0_71) dX0_beginConnection_43 ?_
    refine lv_topi (fun x43 ex43 => ?_)
    have hw := hw x43 ex43
    refine lv_iconst (v := 1) hx hb dX0_beginConnection_46 (by decide) ?_
    refine lv_iadd hx hb dX0_beginConnection_47 ?_
    refine lv_topi (fun x47 ex47 => ?_)
    have hw := hw x47 ex47
    exact tb_X0_beginConnection_48 hx hb hml hown hts hK o ho p1 p2 _ hret  p1 p2 x47 v4 _ _ _ hw (lv_sub hl [0, 1, 2] rfl) hP hS
  · have hw := hw.2 c35
    refine lv_iconst (v := 1) hx hb dX0_beginConnection_38 (by decide) ?_
    refine lv_goto (tgt := 48) hx hb dX0_beginConnection_39 (by decide) ?_
    exact tb_X0_beginConnection_48 hx hb hml hown hts hK o ho p1 p2 _ hret  p1 p2 1 v4 _ _ _ hw (lv_sub hl [0, 1, 2] rfl) hP hS
def w_X0_awaitLink (o : Nat) (p1 : Int32) (v : VV) (Q : VV → Prop) : Prop :=
  ∀ v1 : VV, v1 = up2 v o 7 p1 → w_X8_clear (o + 145) v1 (fun (v2 : VV) => Q v2)
set_option maxHeartbeats 4000000 in
set_option maxRecDepth 100000 in
/-- TransportFour$End.awaitLink -/
theorem t_X0_awaitLink (l : Launch) (dC : Nat → ClassId) (dI : Nat → Nat → Nat) (base : Nat) (cy : Nat → ClassId) (o : Nat) (ho : isO 0 o) (p1 : Int32) (v : VV) (Q : VV → Prop) (hw : w_X0_awaitLink o p1 v Q) : CV l yX0_awaitLink (.code yX0_awaitLink cX0_awaitLink 2 none :: TB) { frames := 1, cells := 0, slots := 0, locals := 20 } dC dI base cy [.ref (base + o), .int p1] v Q := by
  refine Met.ofW (cc := cX0_awaitLink) (maxL := 2) (ret := none) (by decide) rfl ?_
  intro p e s m args below meth c s₁ B hml hv
  obtain ⟨rfl, hP, hK⟩ := hv
  have hx := B.exec
  have hb := B.bytes
  have hr := B.returns
  have hts0 := atoms_spec (ws := (.code yX0_awaitLink cX0_awaitLink 2 none :: TB)) B.pre
  have hts : ∀ w ∈ TB, w.before ([.ref (base + o), .int p1]).toArray s = true := fun w h => hts0 w (List.mem_cons_of_mem _ h)
  have hown : s.vm.findClass RX0 = some m.cls := findClass_of_methodNamed B.named
  have hlocks := B.notSynchronized
  have hS : va_S (fun q => base ≤ q) s.heap s.heap [] := va_S.rf
  have hl := lv_entry ([.ref (base + o), .int p1]) (n := 2) (Nat.le_of_ble_eq_true rfl)
  rw [lg_entry_eq]
  generalize (lg_sl ([.ref (base + o), .int p1]) ++ List.replicate (2 - (lg_sl ([.ref (base + o), .int p1])).length) Slot.unset).toArray = ls at hl ⊢
  have hl : lv_has ls 2 [(0, .ref (base + o)), (1, .int p1)] := hl
  have hret : ∀ (pc : Nat) (v : VV) (H : Heap) (locs : List Loc) (ls : Array Slot), decode cX0_awaitLink pc = .ok (.return_, 1) → Q v → va_P (dC, dI) vwCl (Wd base cy rf v 874) H → va_S (fun q => base ≤ q) s.heap H locs → W p l e { frames := 1, cells := 0, slots := 0, locals := 20 } s m ([.ref (base + o), .int p1]).toArray below meth c H locs 0 0 (MQ below (va_Qv Q (Hp dC dI base cy) (fun q => base ≤ q)) ([.ref (base + o), .int p1]).toArray s 0 0 (fun q => base ≤ q)) (F0 m pc ls []) := fun pc v H locs ls hd hq hP hS => W.vret hx hb hr (fun t ht hW => ⟨⟨v, rfl, hq, by rw [ht]; exact hP, va_K.moved hW.alike hK⟩, hS.F ht⟩) hS.2.2 hd
  refine lv_aload_n hx hb dX0_awaitLink_0 rfl (lv_at hl 0 rfl) ?_
  refine lv_iload_n hx hb dX0_awaitLink_1 rfl (lv_at hl 1 rfl) ?_
  refine w_pI (C := RX0) (T := TX0) (N := 15) (ci := 0) hx hb hts in0 tyX0 tyX0_ok nmX0 hown hK hP hS 7 ho.1 ho rfl (by decide) (hts _ mf_X0_257) rfl (ty := .int) (by decide +kernel) rfl rfl dX0_awaitLink_2 (fun v1 H locs hv1 hP hz hS => ?_)
  have hw := hw v1 hv1
  refine lv_aload_n hx hb dX0_awaitLink_5 rfl (lv_at hl 0 rfl) ?_
  refine w_gR (C := RX0) (T := TX0) (N := 15) (ci := 0) hx hb hts in0 hown hK hP 6 ho.1 ho rfl (by decide) (ch0_6 ho).1 (hts _ mf_X0_42) dX0_awaitLink_6 ?_
  refine k_V (As := []) (rest := []) ⟨hx, hb, hml, hown, hts⟩ (t_X8_clear l dC dI base cy (o + 145) (ch0_6 ho).2 v1 _ hw) (cwV 0 hts (gV ml_X0_260 mi_X8_clear mx_X8_clear mn_X8 mo_X8_clear) rfl rfl rfl (by decide +kernel) ⟨by decide, by decide⟩) hK hP hS (ch0_6 ho).2 (by decide) rfl rfl hl.1 rfl (Nat.le_of_ble_eq_true rfl) dX0_awaitLink_9 ⟨Nat.zero_le _, Nat.zero_le _⟩ (fun v2 H locs hw hP hS => ?_)
  exact hret _ _ _ _ _ dX0_awaitLink_12 hw hP hS
def w_X8_count (o : Nat) (p1 : Int32) (v : VV) (Q : VV → Prop) : Prop :=
  ∀ x2 : Int32, x2 = v o 0 → ∀ x6 : Int32, x6 = x2 + 1 → ∀ v1 : VV, v1 = up2 v o 0 x6 → ∀ v2 : VV, v2 = up2 v1 o 1 p1 → Q v2
set_option maxHeartbeats 4000000 in
set_option maxRecDepth 100000 in
/-- TransportFour$Wait.count -/
theorem t_X8_count (l : Launch) (dC : Nat → ClassId) (dI : Nat → Nat → Nat) (base : Nat) (cy : Nat → ClassId) (o : Nat) (ho : isO 8 o) (p1 : Int32) (v : VV) (Q : VV → Prop) (hw : w_X8_count o p1 v Q) : CV l yX8_count (.code yX8_count cX8_count 2 none :: TB) { frames := 0, cells := 0, slots := 0, locals := 0 } dC dI base cy [.ref (base + o), .int p1] v Q := by
  refine Met.ofW (cc := cX8_count) (maxL := 2) (ret := none) (by decide) rfl ?_
  intro p e s m args below meth c s₁ B hml hv
  obtain ⟨rfl, hP, hK⟩ := hv
  have hx := B.exec
  have hb := B.bytes
  have hr := B.returns
  have hts0 := atoms_spec (ws := (.code yX8_count cX8_count 2 none :: TB)) B.pre
  have hts : ∀ w ∈ TB, w.before ([.ref (base + o), .int p1]).toArray s = true := fun w h => hts0 w (List.mem_cons_of_mem _ h)
  have hown : s.vm.findClass RX8 = some m.cls := findClass_of_methodNamed B.named
  have hlocks := B.notSynchronized
  have hS : va_S (fun q => base ≤ q) s.heap s.heap [] := va_S.rf
  have hl := lv_entry ([.ref (base + o), .int p1]) (n := 2) (Nat.le_of_ble_eq_true rfl)
  rw [lg_entry_eq]
  generalize (lg_sl ([.ref (base + o), .int p1]) ++ List.replicate (2 - (lg_sl ([.ref (base + o), .int p1])).length) Slot.unset).toArray = ls at hl ⊢
  have hl : lv_has ls 2 [(0, .ref (base + o)), (1, .int p1)] := hl
  have hret : ∀ (pc : Nat) (v : VV) (H : Heap) (locs : List Loc) (ls : Array Slot), decode cX8_count pc = .ok (.return_, 1) → Q v → va_P (dC, dI) vwCl (Wd base cy rf v 874) H → va_S (fun q => base ≤ q) s.heap H locs → W p l e { frames := 0, cells := 0, slots := 0, locals := 0 } s m ([.ref (base + o), .int p1]).toArray below meth c H locs 0 0 (MQ below (va_Qv Q (Hp dC dI base cy) (fun q => base ≤ q)) ([.ref (base + o), .int p1]).toArray s 0 0 (fun q => base ≤ q)) (F0 m pc ls []) := fun pc v H locs ls hd hq hP hS => W.vret hx hb hr (fun t ht hW => ⟨⟨v, rfl, hq, by rw [ht]; exact hP, va_K.moved hW.alike hK⟩, hS.F ht⟩) hS.2.2 hd
  refine lv_aload_n hx hb dX8_count_0 rfl (lv_at hl 0 rfl) ?_
  refine lv_dup hx hb dX8_count_1 rfl ?_
  refine w_gI (C := RX8) (T := TX8) (N := 2) (ci := 8) hx hb hts in8 hown hK hP 0 ho.1 ho rfl (by decide) (hts _ mf_X8_9) dX8_count_2 ?_
  refine lv_topi (fun x2 ex2 => ?_)
  have hw := hw x2 ex2
  refine lv_iconst (v := 1) hx hb dX8_count_5 (by decide) ?_
  refine lv_iadd hx hb dX8_count_6 ?_
  refine lv_topi (fun x6 ex6 => ?_)
  have hw := hw x6 ex6
  refine w_pI (C := RX8) (T := TX8) (N := 2) (ci := 8) hx hb hts in8 tyX8 tyX8_ok nmX8 hown hK hP hS 0 ho.1 ho rfl (by decide) (hts _ mf_X8_9) rfl (ty := .int) (by decide +kernel) rfl rfl dX8_count_7 (fun v1 H locs hv1 hP hz hS => ?_)
  have hw := hw v1 hv1
  refine lv_aload_n hx hb dX8_count_10 rfl (lv_at hl 0 rfl) ?_
  refine lv_iload_n hx hb dX8_count_11 rfl (lv_at hl 1 rfl) ?_
  refine w_pI (C := RX8) (T := TX8) (N := 2) (ci := 8) hx hb hts in8 tyX8 tyX8_ok nmX8 hown hK hP hS 1 ho.1 ho rfl (by decide) (hts _ mf_X8_15) rfl (ty := .int) (by decide +kernel) rfl rfl dX8_count_12 (fun v2 H locs hv2 hP hz hS => ?_)
  have hw := hw v2 hv2
  exact hret _ _ _ _ _ dX8_count_15 hw hP hS
def w_X2_unitOf (p1 : Int32) (v : VV) (Q : Nat → VV → Prop) : Prop :=
  ∀ x8 : Int32, x8 = p1 &&& 255 → vp_in x8 256 ∧ ∀ t9 : Nat, t9 = 10 + 2 * (Int32.toNatClampNeg x8) → Q t9 v
set_option maxHeartbeats 4000000 in
set_option maxRecDepth 100000 in
/-- TransportFour$Net.unitOf -/
theorem t_X2_unitOf (l : Launch) (dC : Nat → ClassId) (dI : Nat → Nat → Nat) (base : Nat) (cy : Nat → ClassId) (p1 : Int32) (v : VV) (Q : Nat → VV → Prop) (hw : w_X2_unitOf p1 v Q) : CQ l yX2_unitOf (.code yX2_unitOf cX2_unitOf 2 (some (.object "TransportFour$Unit")) :: TB) { frames := 0, cells := 0, slots := 0, locals := 0 } dC dI base cy [.ref (base + 1), .int p1] v Q := by
  refine Met.ofW (cc := cX2_unitOf) (maxL := 2) (ret := (some (.object "TransportFour$Unit"))) (by decide) rfl ?_
  intro p e s m args below meth c s₁ B hml hv
  obtain ⟨rfl, hP, hK⟩ := hv
  have hx := B.exec
  have hb := B.bytes
  have hr := B.returns
  have hts0 := atoms_spec (ws := (.code yX2_unitOf cX2_unitOf 2 (some (.object "TransportFour$Unit")) :: TB)) B.pre
  have hts : ∀ w ∈ TB, w.before ([.ref (base + 1), .int p1]).toArray s = true := fun w h => hts0 w (List.mem_cons_of_mem _ h)
  have hown : s.vm.findClass RX2 = some m.cls := findClass_of_methodNamed B.named
  have hlocks := B.notSynchronized
  have hS : va_S (fun q => base ≤ q) s.heap s.heap [] := va_S.rf
  have hl := lv_entry ([.ref (base + 1), .int p1]) (n := 2) (Nat.le_of_ble_eq_true rfl)
  rw [lg_entry_eq]
  generalize (lg_sl ([.ref (base + 1), .int p1]) ++ List.replicate (2 - (lg_sl ([.ref (base + 1), .int p1])).length) Slot.unset).toArray = ls at hl ⊢
  have hl : lv_has ls 2 [(0, .ref (base + 1)), (1, .int p1)] := hl
  have hret : ∀ (pc t : Nat) (v : VV) (H : Heap) (locs : List Loc) (ls : Array Slot), decode cX2_unitOf pc = .ok (.areturn, 1) → Q t v → va_P (dC, dI) vwCl (Wd base cy rf v 874) H → va_S (fun q => base ≤ q) s.heap H locs → W p l e { frames := 0, cells := 0, slots := 0, locals := 0 } s m ([.ref (base + 1), .int p1]).toArray below meth c H locs 0 0 (MQ below (va_Qr (fun u : Nat × VV => Q u.1 u.2) (fun u a U => a = base + u.1 ∧ Hp dC dI base cy u.2 U) (fun q => base ≤ q)) ([.ref (base + 1), .int p1]).toArray s 0 0 (fun q => base ≤ q)) (F0 m pc ls [.ref (base + t)]) := fun pc t v H locs ls hd hq hP hS => W.aret hx hb hr (Or.inl ⟨_, rfl⟩) (Or.inr ⟨_, rfl⟩) (fun tt ht hW => ⟨⟨(t, v), _, rfl, hq, rfl, by rw [ht]; exact hP, va_K.moved hW.alike hK⟩, hS.F ht⟩) hS.2.2 hd
  refine lv_aload_n hx hb dX2_unitOf_0 rfl (lv_at hl 0 rfl) ?_
  refine w_gR (C := RX2) (T := TX2) (N := 11) (ci := 2) hx hb hts in2 hown hK hP 0 th2.1 th2 rfl (by decide) (ch2_0 th2).1 (hts _ mf_X2_11) dX2_unitOf_1 ?_
  refine lv_iload_n hx hb dX2_unitOf_4 rfl (lv_at hl 1 rfl) ?_
  refine lv_sipush (v := 255) hx hb dX2_unitOf_5 (by decide) ?_
  refine lv_iand hx hb dX2_unitOf_8 ?_
  refine lv_topi (fun x8 ex8 => ?_)
  have hw := hw x8 ex8
  obtain ⟨hi1, hw⟩ := hw
  obtain ⟨t9, et9⟩ : ∃ y : Nat, y = 10 + 2 * (Int32.toNatClampNeg x8) := ⟨_, rfl⟩
  have hw := hw t9 et9
  have qt9 := arU (i := (Int32.toNatClampNeg x8)) (in_lt hi1)
  rw [← et9] at qt9
  refine w_aa (q0 := 2) hx hb hK hP (ch2_0 th2).2.1.1 (ch2_0 th2).2.1 (by decide) rfl (ch2_0 th2).2.2 hi1 qt9.1 dX2_unitOf_9 ?_
  exact hret _ _ _ _ _ _ dX2_unitOf_10 hw hP hS
def w_X2_nextUnit  (v : VV) (Q : Nat → VV → Prop) : Prop :=
  ∀ x2 : Int32, x2 = v 1 8 → w_X2_unitOf x2 v (fun (t5 : Nat) (v1 : VV) => isO 5 t5 ∧ Q t5 v1)
set_option maxHeartbeats 4000000 in
set_option maxRecDepth 100000 in
/-- TransportFour$Net.nextUnit -/
theorem t_X2_nextUnit (l : Launch) (dC : Nat → ClassId) (dI : Nat → Nat → Nat) (base : Nat) (cy : Nat → ClassId)  (v : VV) (Q : Nat → VV → Prop) (hw : w_X2_nextUnit  v Q) : CQ l yX2_nextUnit (.code yX2_nextUnit cX2_nextUnit 1 (some (.object "TransportFour$Unit")) :: TB) { frames := 1, cells := 0, slots := 0, locals := 21 } dC dI base cy [.ref (base + 1)] v Q := by
  refine Met.ofW (cc := cX2_nextUnit) (maxL := 1) (ret := (some (.object "TransportFour$Unit"))) (by decide) rfl ?_
  intro p e s m args below meth c s₁ B hml hv
  obtain ⟨rfl, hP, hK⟩ := hv
  have hx := B.exec
  have hb := B.bytes
  have hr := B.returns
  have hts0 := atoms_spec (ws := (.code yX2_nextUnit cX2_nextUnit 1 (some (.object "TransportFour$Unit")) :: TB)) B.pre
  have hts : ∀ w ∈ TB, w.before ([.ref (base + 1)]).toArray s = true := fun w h => hts0 w (List.mem_cons_of_mem _ h)
  have hown : s.vm.findClass RX2 = some m.cls := findClass_of_methodNamed B.named
  have hlocks := B.notSynchronized
  have hS : va_S (fun q => base ≤ q) s.heap s.heap [] := va_S.rf
  have hl := lv_entry ([.ref (base + 1)]) (n := 1) (Nat.le_of_ble_eq_true rfl)
  rw [lg_entry_eq]
  generalize (lg_sl ([.ref (base + 1)]) ++ List.replicate (1 - (lg_sl ([.ref (base + 1)])).length) Slot.unset).toArray = ls at hl ⊢
  have hl : lv_has ls 1 [(0, .ref (base + 1))] := hl
  have hret : ∀ (pc t : Nat) (v : VV) (H : Heap) (locs : List Loc) (ls : Array Slot), decode cX2_nextUnit pc = .ok (.areturn, 1) → Q t v → va_P (dC, dI) vwCl (Wd base cy rf v 874) H → va_S (fun q => base ≤ q) s.heap H locs → W p l e { frames := 1, cells := 0, slots := 0, locals := 21 } s m ([.ref (base + 1)]).toArray below meth c H locs 0 0 (MQ below (va_Qr (fun u : Nat × VV => Q u.1 u.2) (fun u a U => a = base + u.1 ∧ Hp dC dI base cy u.2 U) (fun q => base ≤ q)) ([.ref (base + 1)]).toArray s 0 0 (fun q => base ≤ q)) (F0 m pc ls [.ref (base + t)]) := fun pc t v H locs ls hd hq hP hS => W.aret hx hb hr (Or.inl ⟨_, rfl⟩) (Or.inr ⟨_, rfl⟩) (fun tt ht hW => ⟨⟨(t, v), _, rfl, hq, rfl, by rw [ht]; exact hP, va_K.moved hW.alike hK⟩, hS.F ht⟩) hS.2.2 hd
  refine lv_aload_n hx hb dX2_nextUnit_0 rfl (lv_at hl 0 rfl) ?_
  refine lv_aload_n hx hb dX2_nextUnit_1 rfl (lv_at hl 0 rfl) ?_
  refine w_gI (C := RX2) (T := TX2) (N := 11) (ci := 2) hx hb hts in2 hown hK hP 8 th2.1 th2 rfl (by decide) (hts _ mf_X2_42) dX2_nextUnit_2 ?_
  refine lv_topi (fun x2 ex2 => ?_)
  have hw := hw x2 ex2
  refine k_Q (As := [.int x2]) (rest := []) ⟨hx, hb, hml, hown, hts⟩ (t_X2_unitOf l dC dI base cy x2 v _ hw) (cwV 1 hts (gV ml_X2_45 mi_X2_unitOf mx_X2_unitOf mn_X2 mo_X2_unitOf) rfl rfl rfl (by decide +kernel) ⟨by decide, by decide⟩) hK hP hS th2 (by decide) rfl rfl hl.1 rfl (Nat.le_of_ble_eq_true rfl) dX2_nextUnit_5 ⟨Nat.zero_le _, Nat.zero_le _⟩ (fun t5 v1 H locs hw hP hS => ?_)
  obtain ⟨ht5, hw⟩ := hw
  exact hret _ _ _ _ _ _ dX2_nextUnit_8 hw hP hS
def w_X5_writeHead (o : Nat) (p1 : Int32) (p2 : Int32) (p3 : Int32) (v : VV) (Q : VV → Prop) : Prop :=
  ∀ x7 : Int32, x7 = p3 + 3 → ∀ v1 : VV, v1 = up2 v (o + 1) (Int32.toNatClampNeg 0) x7 → ∀ v2 : VV, v2 = up2 v1 (o + 1) (Int32.toNatClampNeg 1) p1 → ∀ x24 : Int32, x24 = p2 >>> (8 &&& 31) → ∀ v3 : VV, v3 = up2 v2 (o + 1) (Int32.toNatClampNeg 2) x24 → ∀ x35 : Int32, x35 = p2 &&& 255 → ∀ v4 : VV, v4 = up2 v3 (o + 1) (Int32.toNatClampNeg 3) x35 → vp_in p3 17 ∧ ∀ v5 : VV, v5 = up2 v4 (o + 1) (Int32.toNatClampNeg p3) 195 → ∀ x52 : Int32, x52 = p3 + 1 → vp_in x52 17 ∧ ∀ v7 : VV, v7 = up2 v5 (o + 1) (Int32.toNatClampNeg x52) 2 → ∀ x61 : Int32, x61 = p3 + 2 → vp_in x61 17 ∧ ∀ v9 : VV, v9 = up2 v7 (o + 1) (Int32.toNatClampNeg x61) 0 → ∀ x70 : Int32, x70 = p3 + 3 → vp_in x70 17 ∧ ∀ v11 : VV, v11 = up2 v9 (o + 1) (Int32.toNatClampNeg x70) 0 → ∀ x76 : Int32, x76 = p3 + 4 → ∀ v13 : VV, v13 = up2 v11 o 1 x76 → Q v13
set_option maxHeartbeats 4000000 in
set_option maxRecDepth 100000 in
/-- TransportFour$Unit.writeHead -/
theorem t_X5_writeHead (l : Launch) (dC : Nat → ClassId) (dI : Nat → Nat → Nat) (base : Nat) (cy : Nat → ClassId) (o : Nat) (ho : isO 5 o) (p1 : Int32) (p2 : Int32) (p3 : Int32) (v : VV) (Q : VV → Prop) (hw : w_X5_writeHead o p1 p2 p3 v Q) : CV l yX5_writeHead (.code yX5_writeHead cX5_writeHead 4 none :: TB) { frames := 0, cells := 0, slots := 0, locals := 0 } dC dI base cy [.ref (base + o), .int p1, .int p2, .int p3] v Q := by
  refine Met.ofW (cc := cX5_writeHead) (maxL := 4) (ret := none) (by decide) rfl ?_
  intro p e s m args below meth c s₁ B hml hv
  obtain ⟨rfl, hP, hK⟩ := hv
  have hx := B.exec
  have hb := B.bytes
  have hr := B.returns
  have hts0 := atoms_spec (ws := (.code yX5_writeHead cX5_writeHead 4 none :: TB)) B.pre
  have hts : ∀ w ∈ TB, w.before ([.ref (base + o), .int p1, .int p2, .int p3]).toArray s = true := fun w h => hts0 w (List.mem_cons_of_mem _ h)
  have hown : s.vm.findClass RX5 = some m.cls := findClass_of_methodNamed B.named
  have hlocks := B.notSynchronized
  have hS : va_S (fun q => base ≤ q) s.heap s.heap [] := va_S.rf
  have hl := lv_entry ([.ref (base + o), .int p1, .int p2, .int p3]) (n := 4) (Nat.le_of_ble_eq_true rfl)
  rw [lg_entry_eq]
  generalize (lg_sl ([.ref (base + o), .int p1, .int p2, .int p3]) ++ List.replicate (4 - (lg_sl ([.ref (base + o), .int p1, .int p2, .int p3])).length) Slot.unset).toArray = ls at hl ⊢
  have hl : lv_has ls 4 [(0, .ref (base + o)), (1, .int p1), (2, .int p2), (3, .int p3)] := hl
  have hret : ∀ (pc : Nat) (v : VV) (H : Heap) (locs : List Loc) (ls : Array Slot), decode cX5_writeHead pc = .ok (.return_, 1) → Q v → va_P (dC, dI) vwCl (Wd base cy rf v 874) H → va_S (fun q => base ≤ q) s.heap H locs → W p l e { frames := 0, cells := 0, slots := 0, locals := 0 } s m ([.ref (base + o), .int p1, .int p2, .int p3]).toArray below meth c H locs 0 0 (MQ below (va_Qv Q (Hp dC dI base cy) (fun q => base ≤ q)) ([.ref (base + o), .int p1, .int p2, .int p3]).toArray s 0 0 (fun q => base ≤ q)) (F0 m pc ls []) := fun pc v H locs ls hd hq hP hS => W.vret hx hb hr (fun t ht hW => ⟨⟨v, rfl, hq, by rw [ht]; exact hP, va_K.moved hW.alike hK⟩, hS.F ht⟩) hS.2.2 hd
  refine lv_aload_n hx hb dX5_writeHead_0 rfl (lv_at hl 0 rfl) ?_
  refine w_gR (C := RX5) (T := TX5) (N := 7) (ci := 5) hx hb hts in5 hown hK hP 0 ho.1 ho rfl (by decide) (ch5_0 ho).1 (hts _ mf_X5_9) dX5_writeHead_1 ?_
  refine lv_iconst (v := 0) hx hb dX5_writeHead_4 (by decide) ?_
  refine lv_iload_n hx hb dX5_writeHead_5 rfl (lv_at hl 3 rfl) ?_
  refine lv_iconst (v := 3) hx hb dX5_writeHead_6 (by decide) ?_
  refine lv_iadd hx hb dX5_writeHead_7 ?_
  refine lv_topi (fun x7 ex7 => ?_)
  have hw := hw x7 ex7
  refine w_is (N := 17) hx hb hK hP hS (ch5_0 ho).2.1.1 (ch5_0 ho).2.1 (ch5_0 ho).2.2 (vp_in_nI (n := 0) (by decide) (by decide)) dX5_writeHead_8 (fun v1 H locs hv1 hP hz hS => ?_)
  have hw := hw v1 hv1
  refine lv_aload_n hx hb dX5_writeHead_9 rfl (lv_at hl 0 rfl) ?_
  refine w_gR (C := RX5) (T := TX5) (N := 7) (ci := 5) hx hb hts in5 hown hK hP 0 ho.1 ho rfl (by decide) (ch5_0 ho).1 (hts _ mf_X5_9) dX5_writeHead_10 ?_
  refine lv_iconst (v := 1) hx hb dX5_writeHead_13 (by decide) ?_
  refine lv_iload_n hx hb dX5_writeHead_14 rfl (lv_at hl 1 rfl) ?_
  refine w_is (N := 17) hx hb hK hP hS (ch5_0 ho).2.1.1 (ch5_0 ho).2.1 (ch5_0 ho).2.2 (vp_in_nI (n := 1) (by decide) (by decide)) dX5_writeHead_15 (fun v2 H locs hv2 hP hz hS => ?_)
  have hw := hw v2 hv2
  refine lv_aload_n hx hb dX5_writeHead_16 rfl (lv_at hl 0 rfl) ?_
  refine w_gR (C := RX5) (T := TX5) (N := 7) (ci := 5) hx hb hts in5 hown hK hP 0 ho.1 ho rfl (by decide) (ch5_0 ho).1 (hts _ mf_X5_9) dX5_writeHead_17 ?_
  refine lv_iconst (v := 2) hx hb dX5_writeHead_20 (by decide) ?_
  refine lv_iload_n hx hb dX5_writeHead_21 rfl (lv_at hl 2 rfl) ?_
  refine lv_bipush (v := 8) hx hb dX5_writeHead_22 (by decide) ?_
  refine lv_ishr hx hb dX5_writeHead_24 ?_
  refine lv_topi (fun x24 ex24 => ?_)
  have hw := hw x24 ex24
  refine w_is (N := 17) hx hb hK hP hS (ch5_0 ho).2.1.1 (ch5_0 ho).2.1 (ch5_0 ho).2.2 (vp_in_nI (n := 2) (by decide) (by decide)) dX5_writeHead_25 (fun v3 H locs hv3 hP hz hS => ?_)
  have hw := hw v3 hv3
  refine lv_aload_n hx hb dX5_writeHead_26 rfl (lv_at hl 0 rfl) ?_
  refine w_gR (C := RX5) (T := TX5) (N := 7) (ci := 5) hx hb hts in5 hown hK hP 0 ho.1 ho rfl (by decide) (ch5_0 ho).1 (hts _ mf_X5_9) dX5_writeHead_27 ?_
  refine lv_iconst (v := 3) hx hb dX5_writeHead_30 (by decide) ?_
  refine lv_iload_n hx hb dX5_writeHead_31 rfl (lv_at hl 2 rfl) ?_
  refine lv_sipush (v := 255) hx hb dX5_writeHead_32 (by decide) ?_
  refine lv_iand hx hb dX5_writeHead_35 ?_
  refine lv_topi (fun x35 ex35 => ?_)
  have hw := hw x35 ex35
  refine w_is (N := 17) hx hb hK hP hS (ch5_0 ho).2.1.1 (ch5_0 ho).2.1 (ch5_0 ho).2.2 (vp_in_nI (n := 3) (by decide) (by decide)) dX5_writeHead_36 (fun v4 H locs hv4 hP hz hS => ?_)
  have hw := hw v4 hv4
  refine lv_aload_n hx hb dX5_writeHead_37 rfl (lv_at hl 0 rfl) ?_
  refine w_gR (C := RX5) (T := TX5) (N := 7) (ci := 5) hx hb hts in5 hown hK hP 0 ho.1 ho rfl (by decide) (ch5_0 ho).1 (hts _ mf_X5_9) dX5_writeHead_38 ?_
  refine lv_iload_n hx hb dX5_writeHead_41 rfl (lv_at hl 3 rfl) ?_
  refine lv_sipush (v := 195) hx hb dX5_writeHead_42 (by decide) ?_
  obtain ⟨hi6, hw⟩ := hw
  refine w_is (N := 17) hx hb hK hP hS (ch5_0 ho).2.1.1 (ch5_0 ho).2.1 (ch5_0 ho).2.2 hi6 dX5_writeHead_45 (fun v5 H locs hv5 hP hz hS => ?_)
  have hw := hw v5 hv5
  refine lv_aload_n hx hb dX5_writeHead_46 rfl (lv_at hl 0 rfl) ?_
  refine w_gR (C := RX5) (T := TX5) (N := 7) (ci := 5) hx hb hts in5 hown hK hP 0 ho.1 ho rfl (by decide) (ch5_0 ho).1 (hts _ mf_X5_9) dX5_writeHead_47 ?_
  refine lv_iload_n hx hb dX5_writeHead_50 rfl (lv_at hl 3 rfl) ?_
  refine lv_iconst (v := 1) hx hb dX5_writeHead_51 (by decide) ?_
  refine lv_iadd hx hb dX5_writeHead_52 ?_
  refine lv_topi (fun x52 ex52 => ?_)
  have hw := hw x52 ex52
  refine lv_iconst (v := 2) hx hb dX5_writeHead_53 (by decide) ?_
  obtain ⟨hi8, hw⟩ := hw
  refine w_is (N := 17) hx hb hK hP hS (ch5_0 ho).2.1.1 (ch5_0 ho).2.1 (ch5_0 ho).2.2 hi8 dX5_writeHead_54 (fun v7 H locs hv7 hP hz hS => ?_)
  have hw := hw v7 hv7
  refine lv_aload_n hx hb dX5_writeHead_55 rfl (lv_at hl 0 rfl) ?_
  refine w_gR (C := RX5) (T := TX5) (N := 7) (ci := 5) hx hb hts in5 hown hK hP 0 ho.1 ho rfl (by decide) (ch5_0 ho).1 (hts _ mf_X5_9) dX5_writeHead_56 ?_
  refine lv_iload_n hx hb dX5_writeHead_59 rfl (lv_at hl 3 rfl) ?_
  refine lv_iconst (v := 2) hx hb dX5_writeHead_60 (by decide) ?_
  refine lv_iadd hx hb dX5_writeHead_61 ?_
  refine lv_topi (fun x61 ex61 => ?_)
  have hw := hw x61 ex61
  refine lv_iconst (v := 0) hx hb dX5_writeHead_62 (by decide) ?_
  obtain ⟨hi10, hw⟩ := hw
  refine w_is (N := 17) hx hb hK hP hS (ch5_0 ho).2.1.1 (ch5_0 ho).2.1 (ch5_0 ho).2.2 hi10 dX5_writeHead_63 (fun v9 H locs hv9 hP hz hS => ?_)
  have hw := hw v9 hv9
  refine lv_aload_n hx hb dX5_writeHead_64 rfl (lv_at hl 0 rfl) ?_
  refine w_gR (C := RX5) (T := TX5) (N := 7) (ci := 5) hx hb hts in5 hown hK hP 0 ho.1 ho rfl (by decide) (ch5_0 ho).1 (hts _ mf_X5_9) dX5_writeHead_65 ?_
  refine lv_iload_n hx hb dX5_writeHead_68 rfl (lv_at hl 3 rfl) ?_
  refine lv_iconst (v := 3) hx hb dX5_writeHead_69 (by decide) ?_
  refine lv_iadd hx hb dX5_writeHead_70 ?_
  refine lv_topi (fun x70 ex70 => ?_)
  have hw := hw x70 ex70
  refine lv_iconst (v := 0) hx hb dX5_writeHead_71 (by decide) ?_
  obtain ⟨hi12, hw⟩ := hw
  refine w_is (N := 17) hx hb hK hP hS (ch5_0 ho).2.1.1 (ch5_0 ho).2.1 (ch5_0 ho).2.2 hi12 dX5_writeHead_72 (fun v11 H locs hv11 hP hz hS => ?_)
  have hw := hw v11 hv11
  refine lv_aload_n hx hb dX5_writeHead_73 rfl (lv_at hl 0 rfl) ?_
  refine lv_iload_n hx hb dX5_writeHead_74 rfl (lv_at hl 3 rfl) ?_
  refine lv_iconst (v := 4) hx hb dX5_writeHead_75 (by decide) ?_
  refine lv_iadd hx hb dX5_writeHead_76 ?_
  refine lv_topi (fun x76 ex76 => ?_)
  have hw := hw x76 ex76
  refine w_pI (C := RX5) (T := TX5) (N := 7) (ci := 5) hx hb hts in5 tyX5 tyX5_ok nmX5 hown hK hP hS 1 ho.1 ho rfl (by decide) (hts _ mf_X5_19) rfl (ty := .int) (by decide +kernel) rfl rfl dX5_writeHead_77 (fun v13 H locs hv13 hP hz hS => ?_)
  have hw := hw v13 hv13
  exact hret _ _ _ _ _ dX5_writeHead_80 hw hP hS
def w_X5_writeLink (o : Nat) (p1 : Int32) (p2 : Int32) (p3 : Int32) (p4 : Int32) (v : VV) (Q : VV → Prop) : Prop :=
  ∀ x8 : Int32, x8 = p3 >>> (8 &&& 31) → ∀ v1 : VV, v1 = up2 v (o + 1) (Int32.toNatClampNeg 4) x8 → ∀ x19 : Int32, x19 = p3 &&& 255 → ∀ v2 : VV, v2 = up2 v1 (o + 1) (Int32.toNatClampNeg 5) x19 → (¬ p1 = 192 → ∀ v3 : VV, v3 = up2 v2 (o + 1) (Int32.toNatClampNeg 6) p4 → w_X5_writeHead o p1 p2 7 v3 (fun (v4 : VV) => Q v4)) ∧ (p1 = 192 → w_X5_writeHead o p1 p2 6 v2 (fun (v5 : VV) => Q v5))
set_option maxHeartbeats 4000000 in
set_option maxRecDepth 100000 in
/-- TransportFour$Unit.writeLink -/
theorem t_X5_writeLink (l : Launch) (dC : Nat → ClassId) (dI : Nat → Nat → Nat) (base : Nat) (cy : Nat → ClassId) (o : Nat) (ho : isO 5 o) (p1 : Int32) (p2 : Int32) (p3 : Int32) (p4 : Int32) (v : VV) (Q : VV → Prop) (hw : w_X5_writeLink o p1 p2 p3 p4 v Q) : CV l yX5_writeLink (.code yX5_writeLink cX5_writeLink 5 none :: TB) { frames := 1, cells := 0, slots := 0, locals := 23 } dC dI base cy [.ref (base + o), .int p1, .int p2, .int p3, .int p4] v Q := by
  refine Met.ofW (cc := cX5_writeLink) (maxL := 5) (ret := none) (by decide) rfl ?_
  intro p e s m args below meth c s₁ B hml hv
  obtain ⟨rfl, hP, hK⟩ := hv
  have hx := B.exec
  have hb := B.bytes
  have hr := B.returns
  have hts0 := atoms_spec (ws := (.code yX5_writeLink cX5_writeLink 5 none :: TB)) B.pre
  have hts : ∀ w ∈ TB, w.before ([.ref (base + o), .int p1, .int p2, .int p3, .int p4]).toArray s = true := fun w h => hts0 w (List.mem_cons_of_mem _ h)
  have hown : s.vm.findClass RX5 = some m.cls := findClass_of_methodNamed B.named
  have hlocks := B.notSynchronized
  have hS : va_S (fun q => base ≤ q) s.heap s.heap [] := va_S.rf
  have hl := lv_entry ([.ref (base + o), .int p1, .int p2, .int p3, .int p4]) (n := 5) (Nat.le_of_ble_eq_true rfl)
  rw [lg_entry_eq]
  generalize (lg_sl ([.ref (base + o), .int p1, .int p2, .int p3, .int p4]) ++ List.replicate (5 - (lg_sl ([.ref (base + o), .int p1, .int p2, .int p3, .int p4])).length) Slot.unset).toArray = ls at hl ⊢
  have hl : lv_has ls 5 [(0, .ref (base + o)), (1, .int p1), (2, .int p2), (3, .int p3), (4, .int p4)] := hl
  have hret : ∀ (pc : Nat) (v : VV) (H : Heap) (locs : List Loc) (ls : Array Slot), decode cX5_writeLink pc = .ok (.return_, 1) → Q v → va_P (dC, dI) vwCl (Wd base cy rf v 874) H → va_S (fun q => base ≤ q) s.heap H locs → W p l e { frames := 1, cells := 0, slots := 0, locals := 23 } s m ([.ref (base + o), .int p1, .int p2, .int p3, .int p4]).toArray below meth c H locs 0 0 (MQ below (va_Qv Q (Hp dC dI base cy) (fun q => base ≤ q)) ([.ref (base + o), .int p1, .int p2, .int p3, .int p4]).toArray s 0 0 (fun q => base ≤ q)) (F0 m pc ls []) := fun pc v H locs ls hd hq hP hS => W.vret hx hb hr (fun t ht hW => ⟨⟨v, rfl, hq, by rw [ht]; exact hP, va_K.moved hW.alike hK⟩, hS.F ht⟩) hS.2.2 hd
  refine lv_aload_n hx hb dX5_writeLink_0 rfl (lv_at hl 0 rfl) ?_
  refine w_gR (C := RX5) (T := TX5) (N := 7) (ci := 5) hx hb hts in5 hown hK hP 0 ho.1 ho rfl (by decide) (ch5_0 ho).1 (hts _ mf_X5_9) dX5_writeLink_1 ?_
  refine lv_iconst (v := 4) hx hb dX5_writeLink_4 (by decide) ?_
  refine lv_iload_n hx hb dX5_writeLink_5 rfl (lv_at hl 3 rfl) ?_
  refine lv_bipush (v := 8) hx hb dX5_writeLink_6 (by decide) ?_
  refine lv_ishr hx hb dX5_writeLink_8 ?_
  refine lv_topi (fun x8 ex8 => ?_)
  have hw := hw x8 ex8
  refine w_is (N := 17) hx hb hK hP hS (ch5_0 ho).2.1.1 (ch5_0 ho).2.1 (ch5_0 ho).2.2 (vp_in_nI (n := 4) (by decide) (by decide)) dX5_writeLink_9 (fun v1 H locs hv1 hP hz hS => ?_)
  have hw := hw v1 hv1
  refine lv_aload_n hx hb dX5_writeLink_10 rfl (lv_at hl 0 rfl) ?_
  refine w_gR (C := RX5) (T := TX5) (N := 7) (ci := 5) hx hb hts in5 hown hK hP 0 ho.1 ho rfl (by decide) (ch5_0 ho).1 (hts _ mf_X5_9) dX5_writeLink_11 ?_
  refine lv_iconst (v := 5) hx hb dX5_writeLink_14 (by decide) ?_
  refine lv_iload_n hx hb dX5_writeLink_15 rfl (lv_at hl 3 rfl) ?_
  refine lv_sipush (v := 255) hx hb dX5_writeLink_16 (by decide) ?_
  refine lv_iand hx hb dX5_writeLink_19 ?_
  refine lv_topi (fun x19 ex19 => ?_)
  have hw := hw x19 ex19
  refine w_is (N := 17) hx hb hK hP hS (ch5_0 ho).2.1.1 (ch5_0 ho).2.1 (ch5_0 ho).2.2 (vp_in_nI (n := 5) (by decide) (by decide)) dX5_writeLink_20 (fun v2 H locs hv2 hP hz hS => ?_)
  have hw := hw v2 hv2
  refine lv_iload_n hx hb dX5_writeLink_21 rfl (lv_at hl 1 rfl) ?_
  refine lv_sipush (v := 192) hx hb dX5_writeLink_22 (by decide) ?_
  refine lv_icmp_ne (tgt := 39) hx hb dX5_writeLink_25 (by decide) (fun c25 => ?_) (fun c25 => ?_)
  · have hw := hw.1 c25
    refine lv_aload_n hx hb dX5_writeLink_39 rfl (lv_at hl 0 rfl) ?_
    refine w_gR (C := RX5) (T := TX5) (N := 7) (ci := 5) hx hb hts in5 hown hK hP 0 ho.1 ho rfl (by decide) (ch5_0 ho).1 (hts _ mf_X5_9) dX5_writeLink_40 ?_
    refine lv_bipush (v := 6) hx hb dX5_writeLink_43 (by decide) ?_
    refine lv_iload hx hb dX5_writeLink_45 (lv_at hl 4 rfl) ?_
    refine w_is (N := 17) hx hb hK hP hS (ch5_0 ho).2.1.1 (ch5_0 ho).2.1 (ch5_0 ho).2.2 (vp_in_nI (n := 6) (by decide) (by decide)) dX5_writeLink_47 (fun v3 H locs hv3 hP hz hS => ?_)
    have hw := hw v3 hv3
    refine lv_aload_n hx hb dX5_writeLink_48 rfl (lv_at hl 0 rfl) ?_
    refine lv_iload_n hx hb dX5_writeLink_49 rfl (lv_at hl 1 rfl) ?_
    refine lv_iload_n hx hb dX5_writeLink_50 rfl (lv_at hl 2 rfl) ?_
    refine lv_bipush (v := 7) hx hb dX5_writeLink_51 (by decide) ?_
    refine k_V (As := [.int p1, .int p2, .int 7]) (rest := []) ⟨hx, hb, hml, hown, hts⟩ (t_X5_writeHead l dC dI base cy o ho p1 p2 7 v3 _ hw) (cwV 3 hts (gV ml_X5_15 mi_X5_writeHead mx_X5_writeHead mn_X5 mo_X5_writeHead) rfl rfl rfl (by decide +kernel) ⟨by decide, by decide⟩) hK hP hS ho (by decide) rfl rfl hl.1 rfl (Nat.le_of_ble_eq_true rfl) dX5_writeLink_53 ⟨Nat.zero_le _, Nat.zero_le _⟩ (fun v4 H locs hw hP hS => ?_)
    exact hret _ _ _ _ _ dX5_writeLink_56 hw hP hS
  · have hw := hw.2 c25
    refine lv_aload_n hx hb dX5_writeLink_28 rfl (lv_at hl 0 rfl) ?_
    refine lv_iload_n hx hb dX5_writeLink_29 rfl (lv_at hl 1 rfl) ?_
    refine lv_iload_n hx hb dX5_writeLink_30 rfl (lv_at hl 2 rfl) ?_
    refine lv_bipush (v := 6) hx hb dX5_writeLink_31 (by decide) ?_
    refine k_V (As := [.int p1, .int p2, .int 6]) (rest := []) ⟨hx, hb, hml, hown, hts⟩ (t_X5_writeHead l dC dI base cy o ho p1 p2 6 v2 _ hw) (cwV 3 hts (gV ml_X5_15 mi_X5_writeHead mx_X5_writeHead mn_X5 mo_X5_writeHead) rfl rfl rfl (by decide +kernel) ⟨by decide, by decide⟩) hK hP hS ho (by decide) rfl rfl hl.1 rfl (Nat.le_of_ble_eq_true rfl) dX5_writeLink_33 ⟨Nat.zero_le _, Nat.zero_le _⟩ (fun v5 H locs hw hP hS => ?_)
    refine lv_goto (tgt := 56) hx hb dX5_writeLink_36 (by decide) ?_
    exact hret _ _ _ _ _ dX5_writeLink_56 hw hP hS
