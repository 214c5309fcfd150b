def w_X0_callPeer (o : Nat) (v : VV) (Q : Int32 → VV → Prop) : Prop :=
  ∀ x1 : Int32, x1 = v o 8 → (x1 = 0 → w_X0_beginConnection o 1 0 v (fun (v1 : VV) => w_X0_awaitLink o 230 v1 (fun (v2 : VV) => w_X0_sendAwaitedLink o v2 (fun (v3 : VV) => ∀ x28 : Int32, x28 = v3 o 9 → Q x28 v3)))) ∧ (¬ x1 = 0 → Q ((-2)) v)
set_option maxHeartbeats 4000000 in
set_option maxRecDepth 100000 in
/-- TransportFour$End.callPeer -/
theorem t_X0_callPeer (l : Launch) (dC : Nat → ClassId) (dI : Nat → Nat → Nat) (base : Nat) (cy : Nat → ClassId) (o : Nat) (ho : isO 0 o) (v : VV) (Q : Int32 → VV → Prop) (hw : w_X0_callPeer o v Q) : CI l yX0_callPeer (.code yX0_callPeer cX0_callPeer 1 (some .int) :: TB) { frames := 4, cells := 0, slots := 0, locals := 92 } dC dI base cy [.ref (base + o)] v Q := by
  refine Met.ofW (cc := cX0_callPeer) (maxL := 1) (ret := (some .int)) (by decide) rfl ?_
  intro p e s m args below meth c s₁ B hml hv
  obtain ⟨rfl, hP, hK⟩ := hv
  have hx := B.exec
  have hb := B.bytes
  have hr := B.returns
  have hts0 := atoms_spec (ws := (.code yX0_callPeer cX0_callPeer 1 (some .int) :: TB)) B.pre
  have hts : ∀ w ∈ TB, w.before ([.ref (base + o)]).toArray s = true := fun w h => hts0 w (List.mem_cons_of_mem _ h)
  have hown : s.vm.findClass RX0 = some m.cls := findClass_of_methodNamed B.named
  have hlocks := B.notSynchronized
  have hS : va_S (fun q => base ≤ q) s.heap s.heap [] := va_S.rf
  have hl := lv_entry ([.ref (base + o)]) (n := 1) (Nat.le_of_ble_eq_true rfl)
  rw [lg_entry_eq]
  generalize (lg_sl ([.ref (base + o)]) ++ List.replicate (1 - (lg_sl ([.ref (base + o)])).length) Slot.unset).toArray = ls at hl ⊢
  have hl : lv_has ls 1 [(0, .ref (base + o))] := hl
  have hret : ∀ (pc : Nat) (x : Int32) (v : VV) (H : Heap) (locs : List Loc) (ls : Array Slot), decode cX0_callPeer pc = .ok (.ireturn, 1) → Q x v → va_P (dC, dI) vwCl (Wd base cy rf v 874) H → va_S (fun q => base ≤ q) s.heap H locs → W p l e { frames := 4, cells := 0, slots := 0, locals := 92 } s m ([.ref (base + o)]).toArray below meth c H locs 0 0 (MQ below (va_Qi Q (Hp dC dI base cy) (fun q => base ≤ q)) ([.ref (base + o)]).toArray s 0 0 (fun q => base ≤ q)) (F0 m pc ls [.int x]) := fun pc x v H locs ls hd hq hP hS => W.iret (v := x) hx hb hr (fun t ht hW => ⟨⟨x, v, rfl, hq, by rw [ht]; exact hP, va_K.moved hW.alike hK⟩, hS.F ht⟩) hS.2.2 hd
  refine lv_aload_n hx hb dX0_callPeer_0 rfl (lv_at hl 0 rfl) ?_
  refine w_gI (C := RX0) (T := TX0) (N := 15) (ci := 0) hx hb hts in0 hown hK hP 8 ho.1 ho rfl (by decide) (hts _ mf_X0_57) dX0_callPeer_1 ?_
  refine lv_topi (fun x1 ex1 => ?_)
  have hw := hw x1 ex1
  refine lv_if_eq (tgt := 10) hx hb dX0_callPeer_4 (by decide) (fun c4 => ?_) (fun c4 => ?_)
  · have hw := hw.1 c4
    refine lv_aload_n hx hb dX0_callPeer_10 rfl (lv_at hl 0 rfl) ?_
    refine lv_iconst (v := 1) hx hb dX0_callPeer_11 (by decide) ?_
    refine lv_iconst (v := 0) hx hb dX0_callPeer_12 (by decide) ?_
    refine k_V (As := [.int 1, .int 0]) (rest := []) ⟨hx, hb, hml, hown, hts⟩ (t_X0_beginConnection l dC dI base cy o ho 1 0 v _ hw) (cwV 2 hts (gV ml_X0_60 mi_X0_beginConnection mx_X0_beginConnection mn_X0 mo_X0_beginConnection) rfl rfl rfl (by decide +kernel) ⟨by decide, by decide⟩) hK hP hS ho (by decide) rfl rfl hl.1 rfl (Nat.le_of_ble_eq_true rfl) dX0_callPeer_13 ⟨Nat.zero_le _, Nat.zero_le _⟩ (fun v1 H locs hw hP hS => ?_)
    refine lv_aload_n hx hb dX0_callPeer_16 rfl (lv_at hl 0 rfl) ?_
    refine lv_sipush (v := 230) hx hb dX0_callPeer_17 (by decide) ?_
    refine k_V (As := [.int 230]) (rest := []) ⟨hx, hb, hml, hown, hts⟩ (t_X0_awaitLink l dC dI base cy o ho 230 v1 _ hw) (cwV 1 hts (gV ml_X0_64 mi_X0_awaitLink mx_X0_awaitLink mn_X0 mo_X0_awaitLink) rfl rfl rfl (by decide +kernel) ⟨by decide, by decide⟩) hK hP hS ho (by decide) rfl rfl hl.1 rfl (Nat.le_of_ble_eq_true rfl) dX0_callPeer_20 ⟨Nat.zero_le _, Nat.zero_le _⟩ (fun v2 H locs hw hP hS => ?_)
    refine lv_aload_n hx hb dX0_callPeer_23 rfl (lv_at hl 0 rfl) ?_
    refine k_V (As := []) (rest := []) ⟨hx, hb, hml, hown, hts⟩ (t_X0_sendAwaitedLink l dC dI base cy o ho v2 _ hw) (cwV 0 hts (gV ml_X0_68 mi_X0_sendAwaitedLink mx_X0_sendAwaitedLink mn_X0 mo_X0_sendAwaitedLink) rfl rfl rfl (by decide +kernel) ⟨by decide, by decide⟩) hK hP hS ho (by decide) rfl rfl hl.1 rfl (Nat.le_of_ble_eq_true rfl) dX0_callPeer_24 ⟨Nat.zero_le _, Nat.zero_le _⟩ (fun v3 H locs hw hP hS => ?_)
    refine lv_aload_n hx hb dX0_callPeer_27 rfl (lv_at hl 0 rfl) ?_
    refine w_gI (C := RX0) (T := TX0) (N := 15) (ci := 0) hx hb hts in0 hown hK hP 9 ho.1 ho rfl (by decide) (hts _ mf_X0_71) dX0_callPeer_28 ?_
    refine lv_topi (fun x28 ex28 => ?_)
    have hw := hw x28 ex28
    exact hret _ _ _ _ _ _ dX0_callPeer_31 hw hP hS
  · have hw := hw.2 c4
    refine lv_bipush (v := -2) hx hb dX0_callPeer_7 (by decide) ?_
    exact hret _ _ _ _ _ _ dX0_callPeer_9 hw hP hS
def w_X9_call (p1 : Int32) (v : VV) (Q : Int32 → VV → Prop) : Prop :=
  w_X9_isNoEnd p1 v (fun (x1 : Int32) (v1 : VV) => (x1 = 0 → vp_in p1 2 ∧ ∀ t14 : Nat, t14 = 523 + 146 * (Int32.toNatClampNeg p1) → w_X0_callPeer t14 v1 (fun (x15 : Int32) (v3 : VV) => Q x15 v3)) ∧ (¬ x1 = 0 → Q ((-1)) v1))
set_option maxHeartbeats 4000000 in
set_option maxRecDepth 100000 in
/-- TransportFour.call -/
theorem t_X9_call (l : Launch) (dC : Nat → ClassId) (dI : Nat → Nat → Nat) (base : Nat) (cy : Nat → ClassId) (p1 : Int32) (v : VV) (Q : Int32 → VV → Prop) (hw : w_X9_call p1 v Q) : CI l yX9_call (.code yX9_call cX9_call 2 (some .int) :: TB) { frames := 5, cells := 0, slots := 0, locals := 112 } dC dI base cy [.ref (base + 0), .int p1] v Q := by
  refine Met.ofW (cc := cX9_call) (maxL := 2) (ret := (some .int)) (by decide) rfl ?_
  intro p e s m args below meth c s₁ B hml hv
  obtain ⟨rfl, hP, hK⟩ := hv
  have hx := B.exec
  have hb := B.bytes
  have hr := B.returns
  have hts0 := atoms_spec (ws := (.code yX9_call cX9_call 2 (some .int) :: TB)) B.pre
  have hts : ∀ w ∈ TB, w.before ([.ref (base + 0), .int p1]).toArray s = true := fun w h => hts0 w (List.mem_cons_of_mem _ h)
  have hown : s.vm.findClass RX9 = some m.cls := findClass_of_methodNamed B.named
  have hlocks := B.notSynchronized
  have hS : va_S (fun q => base ≤ q) s.heap s.heap [] := va_S.rf
  have hl := lv_entry ([.ref (base + 0), .int p1]) (n := 2) (Nat.le_of_ble_eq_true rfl)
  rw [lg_entry_eq]
  generalize (lg_sl ([.ref (base + 0), .int p1]) ++ List.replicate (2 - (lg_sl ([.ref (base + 0), .int p1])).length) Slot.unset).toArray = ls at hl ⊢
  have hl : lv_has ls 2 [(0, .ref (base + 0)), (1, .int p1)] := hl
  have hret : ∀ (pc : Nat) (x : Int32) (v : VV) (H : Heap) (locs : List Loc) (ls : Array Slot), decode cX9_call pc = .ok (.ireturn, 1) → Q x v → va_P (dC, dI) vwCl (Wd base cy rf v 874) H → va_S (fun q => base ≤ q) s.heap H locs → W p l e { frames := 5, cells := 0, slots := 0, locals := 112 } s m ([.ref (base + 0), .int p1]).toArray below meth c H locs 0 0 (MQ below (va_Qi Q (Hp dC dI base cy) (fun q => base ≤ q)) ([.ref (base + 0), .int p1]).toArray s 0 0 (fun q => base ≤ q)) (F0 m pc ls [.int x]) := fun pc x v H locs ls hd hq hP hS => W.iret (v := x) hx hb hr (fun t ht hW => ⟨⟨x, v, rfl, hq, by rw [ht]; exact hP, va_K.moved hW.alike hK⟩, hS.F ht⟩) hS.2.2 hd
  refine lv_iload_n hx hb dX9_call_0 rfl (lv_at hl 1 rfl) ?_
  refine kS_I (As := [.int p1]) (rest := []) ⟨hx, hb, hml, hown, hts⟩ (t_X9_isNoEnd l dC dI base cy p1 v _ hw) (cwS 1 hts (gS ml_X9_29 mt_X9_isNoEnd mn_X9 mo_X9_isNoEnd) rfl rfl rfl (by decide +kernel) ⟨by decide, by decide⟩) hK hP hS rfl hl.1 rfl (Nat.le_of_ble_eq_true rfl) dX9_call_1 ⟨Nat.zero_le _, Nat.zero_le _⟩ (fun x1 v1 H locs hw hP hS => ?_)
  refine lv_if_eq (tgt := 9) hx hb dX9_call_4 (by decide) (fun c4 => ?_) (fun c4 => ?_)
  · have hw := hw.1 c4
    refine lv_aload_n hx hb dX9_call_9 rfl (lv_at hl 0 rfl) ?_
    refine w_gR (C := RX9) (T := TX9) (N := 4) (ci := 9) hx hb hts in9 hown hK hP 1 th9.1 th9 rfl (by decide) (ch9_1 th9).1 (hts _ mf_X9_21) dX9_call_10 ?_
    refine lv_iload_n hx hb dX9_call_13 rfl (lv_at hl 1 rfl) ?_
    obtain ⟨hi2, hw⟩ := hw
    obtain ⟨t14, et14⟩ : ∃ y : Nat, y = 523 + 146 * (Int32.toNatClampNeg p1) := ⟨_, rfl⟩
    have hw := hw t14 et14
    have qt14 := arE (i := (Int32.toNatClampNeg p1)) (in_lt hi2)
    rw [← et14] at qt14
    refine w_aa (q0 := 3) hx hb hK hP (ch9_1 th9).2.1.1 (ch9_1 th9).2.1 (by decide) rfl (ch9_1 th9).2.2 hi2 qt14.1 dX9_call_14 ?_
    refine k_I (As := []) (rest := []) ⟨hx, hb, hml, hown, hts⟩ (t_X0_callPeer l dC dI base cy t14 qt14.2 v1 _ hw) (cwV 0 hts (gV ml_X9_33 mi_X0_callPeer mx_X0_callPeer mn_X0 mo_X0_callPeer) rfl rfl rfl (by decide +kernel) ⟨by decide, by decide⟩) hK hP hS qt14.2 (by decide) rfl rfl hl.1 rfl (Nat.le_of_ble_eq_true rfl) dX9_call_15 ⟨Nat.zero_le _, Nat.zero_le _⟩ (fun x15 v3 H locs hw hP hS => ?_)
    exact hret _ _ _ _ _ _ dX9_call_18 hw hP hS
  · have hw := hw.2 c4
    refine lv_iconst (v := -1) hx hb dX9_call_7 (by decide) ?_
    exact hret _ _ _ _ _ _ dX9_call_8 hw hP hS
def b_X9_type_32 (p1 : Int64) (p2 : Int32) (Q : Int32 → VV → Prop) (fu : Nat) : Int64 → Int32 → Int32 → VV → Prop :=
  Nat.rec (motive := fun _ => Int64 → Int32 → Int32 → VV → Prop) (fun _ _ _ _ => False) (fun _ ih a1 a3 a4 v => (a4 < 0 → ∀ x75 : Int32, x75 = v 0 3 → Q x75 v) ∧ (¬ a4 < 0 → ∀ x42 : Int32, x42 = v 0 3 → ∀ x50 : Int32, x50 = 8 * a4 → ∀ x51 : Int64, x51 = a1 >>> (Int32.toInt64 x50 &&& 63) → ∀ x52 : Int32, x52 = x51.toInt32 → ∀ x56 : Int32, x56 = x52 &&& 255 → vp_in x42 64 ∧ ∀ v1 : VV, v1 = up2 v 815 (Int32.toNatClampNeg x42) x56 → ∀ x60 : Int32, x60 = v1 0 3 → ∀ x64 : Int32, x64 = x60 + 1 → ∀ v3 : VV, v3 = up2 v1 0 3 x64 → ∀ x68 : Int32, x68 = a4 + (-1) → ih a1 a3 x68 v3)) fu
set_option maxHeartbeats 4000000 in
set_option maxRecDepth 100000 in
theorem tb_X9_type_32 {p : Program} {l : Launch} {e : Env} {s : State} {m : MethodId} {args : Array Value} {below : List Frame} {meth : Method} {c : Code} {QQ : State → Prop} {dC : Nat → ClassId} {dI : Nat → Nat → Nat} {base : Nat} {cy : Nat → ClassId} (hx : p.tables.exec = Jvm.exec) (hb : c.code = cX9_type) (hml : c.maxLocals = 5) (hown : s.vm.findClass RX9 = some m.cls) (hts : ∀ w ∈ TB, w.before args s = true) (hK : va_K (dC, dI) vwCl (tyL cy) s) (p1 : Int64) (p2 : Int32) (Q : Int32 → VV → Prop) (hret : ∀ (pc : Nat) (x : Int32) (v : VV) (H : Heap) (locs : List Loc) (ls : Array Slot), decode cX9_type pc = .ok (.ireturn, 1) → Q x v → va_P (dC, dI) vwCl (Wd base cy rf v 874) H → va_S (fun q => base ≤ q) s.heap H locs → W p l e { frames := 0, cells := 0, slots := 0, locals := 0 } s m args below meth c H locs 0 0 QQ (F0 m pc ls [.int x])) : ∀ (fu : Nat) (a1 : Int64) (a3 : Int32) (a4 : Int32) (v : VV) (H : Heap) (locs : List Loc) (ls : Array Slot), b_X9_type_32 p1 p2 Q  fu a1 a3 a4 v → lv_has ls 5 [(0, .ref (base + 0)), (1, .long a1), (3, .int a3), (4, .int a4)] → va_P (dC, dI) vwCl (Wd base cy rf v 874) H → va_S (fun q => base ≤ q) s.heap H locs → W p l e { frames := 0, cells := 0, slots := 0, locals := 0 } s m args below meth c H locs 0 0 QQ (F0 m 32 ls []) := by
  intro fu
  induction fu with
  | zero =>
    intro a1 a3 a4 v H locs ls hw hl hP hS
    exact hw.elim
  | succ fu ih =>
    intro a1 a3 a4 v H locs ls hw hl hP hS
    refine lv_iload hx hb dX9_type_32 (lv_at hl 3 rfl) ?_
    refine lv_if_lt (tgt := 74) hx hb dX9_type_34 (by decide) (fun c34 => ?_) (fun c34 => ?_)
    · have hw := hw.1 c34
      refine lv_aload_n hx hb dX9_type_74 rfl (lv_at hl 0 rfl) ?_
      refine w_gI (C := RX9) (T := TX9) (N := 4) (ci := 9) hx hb hts in9 hown hK hP 3 th9.1 th9 rfl (by decide) (hts _ mf_X9_37) dX9_type_75 ?_
      refine lv_topi (fun x75 ex75 => ?_)
      have hw := hw x75 ex75
      exact hret _ _ _ _ _ _ dX9_type_78 hw hP hS
    · have hw := hw.2 c34
      refine lv_aload_n hx hb dX9_type_37 rfl (lv_at hl 0 rfl) ?_
      refine w_gR (C := RX9) (T := TX9) (N := 4) (ci := 9) hx hb hts in9 hown hK hP 2 th9.1 th9 rfl (by decide) (ch9_2 th9).1 (hts _ mf_X9_25) dX9_type_38 ?_
      refine lv_aload_n hx hb dX9_type_41 rfl (lv_at hl 0 rfl) ?_
      refine w_gI (C := RX9) (T := TX9) (N := 4) (ci := 9) hx hb hts in9 hown hK hP 3 th9.1 th9 rfl (by decide) (hts _ mf_X9_37) dX9_type_42 ?_
      refine lv_topi (fun x42 ex42 => ?_)
      have hw := hw x42 ex42
      refine lv_lload_n hx hb dX9_type_45 rfl (lv_at hl 1 rfl) ?_
      refine lv_bipush (v := 8) hx hb dX9_type_46 (by decide) ?_
      refine lv_iload hx hb dX9_type_48 (lv_at hl 3 rfl) ?_
      refine lv_imul hx hb dX9_type_50 ?_
      refine lv_topi (fun x50 ex50 => ?_)
      have hw := hw x50 ex50
      refine lv_lshr hx hb dX9_type_51 rfl ?_
      refine lv_topl (fun x51 ex51 => ?_)
      have hw := hw x51 ex51
      refine lv_l2i hx hb dX9_type_52 rfl ?_
      refine lv_topi (fun x52 ex52 => ?_)
      have hw := hw x52 ex52
      refine lv_sipush (v := 255) hx hb dX9_type_53 (by decide) ?_
      refine lv_iand hx hb dX9_type_56 ?_
      refine lv_topi (fun x56 ex56 => ?_)
      have hw := hw x56 ex56
      obtain ⟨hi2, hw⟩ := hw
      refine w_is (N := 64) hx hb hK hP hS (ch9_2 th9).2.1.1 (ch9_2 th9).2.1 (ch9_2 th9).2.2 hi2 dX9_type_57 (fun v1 H locs hv1 hP hz hS => ?_)
      have hw := hw v1 hv1
      refine lv_aload_n hx hb dX9_type_58 rfl (lv_at hl 0 rfl) ?_
      refine lv_dup hx hb dX9_type_59 rfl ?_
      refine w_gI (C := RX9) (T := TX9) (N := 4) (ci := 9) hx hb hts in9 hown hK hP 3 th9.1 th9 rfl (by decide) (hts _ mf_X9_37) dX9_type_60 ?_
      refine lv_topi (fun x60 ex60 => ?_)
      have hw := hw x60 ex60
      refine lv_iconst (v := 1) hx hb dX9_type_63 (by decide) ?_
      refine lv_iadd hx hb dX9_type_64 ?_
      refine lv_topi (fun x64 ex64 => ?_)
      have hw := hw x64 ex64
      refine w_pI (C := RX9) (T := TX9) (N := 4) (ci := 9) hx hb hts in9 tyX9 tyX9_ok nmX9 hown hK hP hS 3 th9.1 th9 rfl (by decide) (hts _ mf_X9_37) rfl (ty := .int) (by decide +kernel) rfl rfl dX9_type_65 (fun v3 H locs hv3 hP hz hS => ?_)
      have hw := hw v3 hv3
      obtain ⟨x68, ex68⟩ : ∃ y : Int32, y = a4 + (-1) := ⟨_, rfl⟩
      have hw := hw x68 ex68
      refine lv_iinc (v := x68) (lv' := [(4, .int x68), (0, .ref (base + 0)), (1, .long a1), (3, .int a3)]) hx hb dX9_type_68 hl (k := 3) rfl (by rw [ex68]; first | rfl | (rw [show Int32.ofInt (-1) = (-1 : Int32) from by decide])) (by decide) rfl (fun ls hl => ?_)
      refine lv_goto (tgt := 32) hx hb dX9_type_71 (by decide) ?_
      exact ih a1 a3 x68 v3 _ _ _ hw (lv_sub hl [1, 2, 3, 0] rfl) hP hS
def b_X9_type_11 (p1 : Int64) (p2 : Int32) (Q : Int32 → VV → Prop) (a1 : Int64) (a3 : Int32) (v : VV) : Prop :=
  Q ((-1)) v
set_option maxHeartbeats 4000000 in
set_option maxRecDepth 100000 in
theorem tb_X9_type_11 {p : Program} {l : Launch} {e : Env} {s : State} {m : MethodId} {args : Array Value} {below : List Frame} {meth : Method} {c : Code} {QQ : State → Prop} {dC : Nat → ClassId} {dI : Nat → Nat → Nat} {base : Nat} {cy : Nat → ClassId} (hx : p.tables.exec = Jvm.exec) (hb : c.code = cX9_type) (hml : c.maxLocals = 5) (hown : s.vm.findClass RX9 = some m.cls) (hts : ∀ w ∈ TB, w.before args s = true) (hK : va_K (dC, dI) vwCl (tyL cy) s) (p1 : Int64) (p2 : Int32) (Q : Int32 → VV → Prop) (hret : ∀ (pc : Nat) (x : Int32) (v : VV) (H : Heap) (locs : List Loc) (ls : Array Slot), decode cX9_type pc = .ok (.ireturn, 1) → Q x v → va_P (dC, dI) vwCl (Wd base cy rf v 874) H → va_S (fun q => base ≤ q) s.heap H locs → W p l e { frames := 0, cells := 0, slots := 0, locals := 0 } s m args below meth c H locs 0 0 QQ (F0 m pc ls [.int x])) (a1 : Int64) (a3 : Int32) (v : VV) (H : Heap) (locs : List Loc) (ls : Array Slot) (hw : b_X9_type_11 p1 p2 Q  a1 a3 v) : lv_has ls 5 [(0, .ref (base + 0)), (1, .long a1), (3, .int a3)] → va_P (dC, dI) vwCl (Wd base cy rf v 874) H → va_S (fun q => base ≤ q) s.heap H locs → W p l e { frames := 0, cells := 0, slots := 0, locals := 0 } s m args below meth c H locs 0 0 QQ (F0 m 11 ls []) := by
  intro hl hP hS
  refine lv_iconst (v := -1) hx hb dX9_type_11 (by decide) ?_
  exact hret _ _ _ _ _ _ dX9_type_12 hw hP hS
def w_X9_type (p1 : Int64) (p2 : Int32) (v : VV) (Q : Int32 → VV → Prop) : Prop :=
  (p2 < 1 → b_X9_type_11 p1 p2 Q  p1 p2 v) ∧ (¬ p2 < 1 → (p2 ≤ 8 → ∀ x14 : Int32, x14 = v 0 3 → ∀ x18 : Int32, x18 = x14 + p2 → (x18 ≤ 64 → ∀ x29 : Int32, x29 = p2 - 1 → ∃ fu : Nat, b_X9_type_32 p1 p2 Q  fu p1 p2 x29 v) ∧ (¬ x18 ≤ 64 → Q ((-3)) v)) ∧ (¬ p2 ≤ 8 → b_X9_type_11 p1 p2 Q  p1 p2 v))
set_option maxHeartbeats 4000000 in
set_option maxRecDepth 100000 in
/-- TransportFour.type -/
theorem t_X9_type (l : Launch) (dC : Nat → ClassId) (dI : Nat → Nat → Nat) (base : Nat) (cy : Nat → ClassId) (p1 : Int64) (p2 : Int32) (v : VV) (Q : Int32 → VV → Prop) (hw : w_X9_type p1 p2 v Q) : CI l yX9_type (.code yX9_type cX9_type 5 (some .int) :: TB) { frames := 0, cells := 0, slots := 0, locals := 0 } dC dI base cy [.ref (base + 0), .long p1, .int p2] v Q := by
  refine Met.ofW (cc := cX9_type) (maxL := 5) (ret := (some .int)) (by decide) rfl ?_
  intro p e s m args below meth c s₁ B hml hv
  obtain ⟨rfl, hP, hK⟩ := hv
  have hx := B.exec
  have hb := B.bytes
  have hr := B.returns
  have hts0 := atoms_spec (ws := (.code yX9_type cX9_type 5 (some .int) :: TB)) B.pre
  have hts : ∀ w ∈ TB, w.before ([.ref (base + 0), .long p1, .int p2]).toArray s = true := fun w h => hts0 w (List.mem_cons_of_mem _ h)
  have hown : s.vm.findClass RX9 = some m.cls := findClass_of_methodNamed B.named
  have hlocks := B.notSynchronized
  have hS : va_S (fun q => base ≤ q) s.heap s.heap [] := va_S.rf
  have hl := lv_entry ([.ref (base + 0), .long p1, .int p2]) (n := 5) (Nat.le_of_ble_eq_true rfl)
  rw [lg_entry_eq]
  generalize (lg_sl ([.ref (base + 0), .long p1, .int p2]) ++ List.replicate (5 - (lg_sl ([.ref (base + 0), .long p1, .int p2])).length) Slot.unset).toArray = ls at hl ⊢
  have hl : lv_has ls 5 [(0, .ref (base + 0)), (1, .long p1), (3, .int p2)] := hl
  have hret : ∀ (pc : Nat) (x : Int32) (v : VV) (H : Heap) (locs : List Loc) (ls : Array Slot), decode cX9_type pc = .ok (.ireturn, 1) → Q x v → va_P (dC, dI) vwCl (Wd base cy rf v 874) H → va_S (fun q => base ≤ q) s.heap H locs → W p l e { frames := 0, cells := 0, slots := 0, locals := 0 } s m ([.ref (base + 0), .long p1, .int p2]).toArray below meth c H locs 0 0 (MQ below (va_Qi Q (Hp dC dI base cy) (fun q => base ≤ q)) ([.ref (base + 0), .long p1, .int p2]).toArray s 0 0 (fun q => base ≤ q)) (F0 m pc ls [.int x]) := fun pc x v H locs ls hd hq hP hS => W.iret (v := x) hx hb hr (fun t ht hW => ⟨⟨x, v, rfl, hq, by rw [ht]; exact hP, va_K.moved hW.alike hK⟩, hS.F ht⟩) hS.2.2 hd
  refine lv_iload_n hx hb dX9_type_0 rfl (lv_at hl 2 rfl) ?_
  refine lv_iconst (v := 1) hx hb dX9_type_1 (by decide) ?_
  refine lv_icmp_lt (tgt := 11) hx hb dX9_type_2 (by decide) (fun c2 => ?_) (fun c2 => ?_)
  · have hw := hw.1 c2
    exact tb_X9_type_11 hx hb hml hown hts hK p1 p2 _ hret  p1 p2 v _ _ _ hw (lv_sub hl [0, 1, 2] rfl) hP hS
  · have hw := hw.2 c2
    refine lv_iload_n hx hb dX9_type_5 rfl (lv_at hl 2 rfl) ?_
    refine lv_bipush (v := 8) hx hb dX9_type_6 (by decide) ?_
    refine lv_icmp_le (tgt := 13) hx hb dX9_type_8 (by decide) (fun c8 => ?_) (fun c8 => ?_)
    · have hw := hw.1 c8
      refine lv_aload_n hx hb dX9_type_13 rfl (lv_at hl 0 rfl) ?_
      refine w_gI (C := RX9) (T := TX9) (N := 4) (ci := 9) hx hb hts in9 hown hK hP 3 th9.1 th9 rfl (by decide) (hts _ mf_X9_37) dX9_type_14 ?_
      refine lv_topi (fun x14 ex14 => ?_)
      have hw := hw x14 ex14
      refine lv_iload_n hx hb dX9_type_17 rfl (lv_at hl 2 rfl) ?_
      refine lv_iadd hx hb dX9_type_18 ?_
      refine lv_topi (fun x18 ex18 => ?_)
      have hw := hw x18 ex18
      refine lv_bipush (v := 64) hx hb dX9_type_19 (by decide) ?_
      refine lv_icmp_le (tgt := 27) hx hb dX9_type_21 (by decide) (fun c21 => ?_) (fun c21 => ?_)
      · have hw := hw.1 c21
        refine lv_iload_n hx hb dX9_type_27 rfl (lv_at hl 2 rfl) ?_
        refine lv_iconst (v := 1) hx hb dX9_type_28 (by decide) ?_
        refine lv_isub hx hb dX9_type_29 ?_
        refine lv_topi (fun x29 ex29 => ?_)
        have hw := hw x29 ex29
        refine lv_istore (lv' := [(4, .int x29), (0, .ref (base + 0)), (1, .long p1), (3, .int p2)]) hx hb dX9_type_30 hl (by decide) rfl (fun ls hl => ?_)
        obtain ⟨fu, hw⟩ := hw
        exact tb_X9_type_32 hx hb hml hown hts hK p1 p2 _ hret  fu p1 p2 x29 v _ _ _ hw (lv_sub hl [1, 2, 3, 0] rfl) hP hS
      · have hw := hw.2 c21
        refine lv_bipush (v := -3) hx hb dX9_type_24 (by decide) ?_
        exact hret _ _ _ _ _ _ dX9_type_26 hw hP hS
    · have hw := hw.2 c8
      exact tb_X9_type_11 hx hb hml hown hts hK p1 p2 _ hret  p1 p2 v _ _ _ hw (lv_sub hl [0, 1, 2] rfl) hP hS
def w_X3_piecesOf (p1 : Int32) (v : VV) (Q : Int32 → VV → Prop) : Prop :=
  (¬ p1 = 0 → ∀ x11 : Int32, x11 = p1 + 8 → ∀ x13 : Int32, x13 = x11 - 1 → ∀ x16 : Int32, x16 = x13 / 8 → Q x16 v) ∧ (p1 = 0 → Q 1 v)
set_option maxHeartbeats 4000000 in
set_option maxRecDepth 100000 in
/-- TransportFour$Outbox.piecesOf -/
theorem t_X3_piecesOf (l : Launch) (dC : Nat → ClassId) (dI : Nat → Nat → Nat) (base : Nat) (cy : Nat → ClassId) (p1 : Int32) (v : VV) (Q : Int32 → VV → Prop) (hw : w_X3_piecesOf p1 v Q) : CI l yX3_piecesOf (.code yX3_piecesOf cX3_piecesOf 1 (some .int) :: TB) { frames := 0, cells := 0, slots := 0, locals := 0 } dC dI base cy [.int p1] v Q := by
  refine Met.ofW (cc := cX3_piecesOf) (maxL := 1) (ret := (some .int)) (by decide) rfl ?_
  intro p e s m args below meth c s₁ B hml hv
  obtain ⟨rfl, hP, hK⟩ := hv
  have hx := B.exec
  have hb := B.bytes
  have hr := B.returns
  have hts0 := atoms_spec (ws := (.code yX3_piecesOf cX3_piecesOf 1 (some .int) :: TB)) B.pre
  have hts : ∀ w ∈ TB, w.before ([.int p1]).toArray s = true := fun w h => hts0 w (List.mem_cons_of_mem _ h)
  have hown : s.vm.findClass RX3 = some m.cls := findClass_of_methodNamed B.named
  have hlocks := B.notSynchronized
  have hS : va_S (fun q => base ≤ q) s.heap s.heap [] := va_S.rf
  have hl := lv_entry ([.int p1]) (n := 1) (Nat.le_of_ble_eq_true rfl)
  rw [lg_entry_eq]
  generalize (lg_sl ([.int p1]) ++ List.replicate (1 - (lg_sl ([.int p1])).length) Slot.unset).toArray = ls at hl ⊢
  have hl : lv_has ls 1 [(0, .int p1)] := hl
  have hret : ∀ (pc : Nat) (x : Int32) (v : VV) (H : Heap) (locs : List Loc) (ls : Array Slot), decode cX3_piecesOf pc = .ok (.ireturn, 1) → Q x v → va_P (dC, dI) vwCl (Wd base cy rf v 874) H → va_S (fun q => base ≤ q) s.heap H locs → W p l e { frames := 0, cells := 0, slots := 0, locals := 0 } s m ([.int p1]).toArray below meth c H locs 0 0 (MQ below (va_Qi Q (Hp dC dI base cy) (fun q => base ≤ q)) ([.int p1]).toArray s 0 0 (fun q => base ≤ q)) (F0 m pc ls [.int x]) := fun pc x v H locs ls hd hq hP hS => W.iret (v := x) hx hb hr (fun t ht hW => ⟨⟨x, v, rfl, hq, by rw [ht]; exact hP, va_K.moved hW.alike hK⟩, hS.F ht⟩) hS.2.2 hd
  refine lv_iload_n hx hb dX3_piecesOf_0 rfl (lv_at hl 0 rfl) ?_
  refine lv_if_ne (tgt := 8) hx hb dX3_piecesOf_1 (by decide) (fun c1 => ?_) (fun c1 => ?_)
  · have hw := hw.1 c1
    refine lv_iload_n hx hb dX3_piecesOf_8 rfl (lv_at hl 0 rfl) ?_
    refine lv_bipush (v := 8) hx hb dX3_piecesOf_9 (by decide) ?_
    refine lv_iadd hx hb dX3_piecesOf_11 ?_
    refine lv_topi (fun x11 ex11 => ?_)
    have hw := hw x11 ex11
    refine lv_iconst (v := 1) hx hb dX3_piecesOf_12 (by decide) ?_
    refine lv_isub hx hb dX3_piecesOf_13 ?_
    refine lv_topi (fun x13 ex13 => ?_)
    have hw := hw x13 ex13
    refine lv_bipush (v := 8) hx hb dX3_piecesOf_14 (by decide) ?_
    refine lv_idiv hx hb dX3_piecesOf_16 (by decide) ?_
    refine lv_topi (fun x16 ex16 => ?_)
    have hw := hw x16 ex16
    exact hret _ _ _ _ _ _ dX3_piecesOf_17 hw hP hS
  · have hw := hw.2 c1
    refine lv_iconst (v := 1) hx hb dX3_piecesOf_4 (by decide) ?_
    refine lv_goto (tgt := 17) hx hb dX3_piecesOf_5 (by decide) ?_
    exact hret _ _ _ _ _ _ dX3_piecesOf_17 hw hP hS
def w_X3_hasRoomFor (o : Nat) (p1 : Int32) (v : VV) (Q : Int32 → VV → Prop) : Prop :=
  ∀ x1 : Int32, x1 = v o 2 → w_X3_piecesOf p1 v (fun (x5 : Int32) (v1 : VV) => ∀ x8 : Int32, x8 = x1 + x5 → (40 < x8 → Q 0 v1) ∧ (¬ 40 < x8 → Q 1 v1))
set_option maxHeartbeats 4000000 in
set_option maxRecDepth 100000 in
/-- TransportFour$Outbox.hasRoomFor -/
theorem t_X3_hasRoomFor (l : Launch) (dC : Nat → ClassId) (dI : Nat → Nat → Nat) (base : Nat) (cy : Nat → ClassId) (o : Nat) (ho : isO 3 o) (p1 : Int32) (v : VV) (Q : Int32 → VV → Prop) (hw : w_X3_hasRoomFor o p1 v Q) : CI l yX3_hasRoomFor (.code yX3_hasRoomFor cX3_hasRoomFor 2 (some .boolean) :: TB) { frames := 1, cells := 0, slots := 0, locals := 20 } dC dI base cy [.ref (base + o), .int p1] v Q := by
  refine Met.ofW (cc := cX3_hasRoomFor) (maxL := 2) (ret := (some .boolean)) (by decide) rfl ?_
  intro p e s m args below meth c s₁ B hml hv
  obtain ⟨rfl, hP, hK⟩ := hv
  have hx := B.exec
  have hb := B.bytes
  have hr := B.returns
  have hts0 := atoms_spec (ws := (.code yX3_hasRoomFor cX3_hasRoomFor 2 (some .boolean) :: TB)) B.pre
  have hts : ∀ w ∈ TB, w.before ([.ref (base + o), .int p1]).toArray s = true := fun w h => hts0 w (List.mem_cons_of_mem _ h)
  have hown : s.vm.findClass RX3 = some m.cls := findClass_of_methodNamed B.named
  have hlocks := B.notSynchronized
  have hS : va_S (fun q => base ≤ q) s.heap s.heap [] := va_S.rf
  have hl := lv_entry ([.ref (base + o), .int p1]) (n := 2) (Nat.le_of_ble_eq_true rfl)
  rw [lg_entry_eq]
  generalize (lg_sl ([.ref (base + o), .int p1]) ++ List.replicate (2 - (lg_sl ([.ref (base + o), .int p1])).length) Slot.unset).toArray = ls at hl ⊢
  have hl : lv_has ls 2 [(0, .ref (base + o)), (1, .int p1)] := hl
  have hret : ∀ (pc : Nat) (x : Int32) (v : VV) (H : Heap) (locs : List Loc) (ls : Array Slot), decode cX3_hasRoomFor pc = .ok (.ireturn, 1) → (x = 0 ∨ x = 1) → Q x v → va_P (dC, dI) vwCl (Wd base cy rf v 874) H → va_S (fun q => base ≤ q) s.heap H locs → W p l e { frames := 1, cells := 0, slots := 0, locals := 20 } s m ([.ref (base + o), .int p1]).toArray below meth c H locs 0 0 (MQ below (va_Qi Q (Hp dC dI base cy) (fun q => base ≤ q)) ([.ref (base + o), .int p1]).toArray s 0 0 (fun q => base ≤ q)) (F0 m pc ls [.int x]) := fun pc x v H locs ls hd hz hq hP hS => W.zret (v := x) hx hb hr (zb_n hz) (fun t ht hW => ⟨⟨x, v, rfl, hq, by rw [ht]; exact hP, va_K.moved hW.alike hK⟩, hS.F ht⟩) hS.2.2 hd
  refine lv_aload_n hx hb dX3_hasRoomFor_0 rfl (lv_at hl 0 rfl) ?_
  refine w_gI (C := RX3) (T := TX3) (N := 6) (ci := 3) hx hb hts in3 hown hK hP 2 ho.1 ho rfl (by decide) (hts _ mf_X3_18) dX3_hasRoomFor_1 ?_
  refine lv_topi (fun x1 ex1 => ?_)
  have hw := hw x1 ex1
  refine lv_iload_n hx hb dX3_hasRoomFor_4 rfl (lv_at hl 1 rfl) ?_
  refine kS_I (As := [.int p1]) (rest := [.int x1]) ⟨hx, hb, hml, hown, hts⟩ (t_X3_piecesOf l dC dI base cy p1 v _ hw) (cwS 1 hts (gS ml_X3_34 mt_X3_piecesOf mn_X3 mo_X3_piecesOf) rfl rfl rfl (by decide +kernel) ⟨by decide, by decide⟩) hK hP hS rfl hl.1 rfl (Nat.le_of_ble_eq_true rfl) dX3_hasRoomFor_5 ⟨Nat.zero_le _, Nat.zero_le _⟩ (fun x5 v1 H locs hw hP hS => ?_)
  refine lv_iadd hx hb dX3_hasRoomFor_8 ?_
  refine lv_topi (fun x8 ex8 => ?_)
  have hw := hw x8 ex8
  refine lv_bipush (v := 40) hx hb dX3_hasRoomFor_9 (by decide) ?_
  refine lv_icmp_gt (tgt := 18) hx hb dX3_hasRoomFor_11 (by decide) (fun c11 => ?_) (fun c11 => ?_)
  · have hw := hw.1 c11
    refine lv_iconst (v := 0) hx hb dX3_hasRoomFor_18 (by decide) ?_
    exact hret _ _ _ _ _ _ dX3_hasRoomFor_19 (by decide) hw hP hS
  · have hw := hw.2 c11
    refine lv_iconst (v := 1) hx hb dX3_hasRoomFor_14 (by decide) ?_
    refine lv_goto (tgt := 19) hx hb dX3_hasRoomFor_15 (by decide) ?_
    exact hret _ _ _ _ _ _ dX3_hasRoomFor_19 (by decide) hw hP hS
def w_X3_pieceAt (o : Nat) (p1 : Int32) (v : VV) (Q : Nat → VV → Prop) : Prop :=
  ∀ x5 : Int32, x5 = v o 1 → ∀ x9 : Int32, x9 = x5 + p1 → ∀ x12 : Int32, x12 = x9 - x9 / 40 * 40 → vp_in x12 40 ∧ ∀ t13 : Nat, t13 = o + 1 + 1 + 3 * (Int32.toNatClampNeg x12) → Q t13 v
set_option maxHeartbeats 4000000 in
set_option maxRecDepth 100000 in
/-- TransportFour$Outbox.pieceAt -/
theorem t_X3_pieceAt (l : Launch) (dC : Nat → ClassId) (dI : Nat → Nat → Nat) (base : Nat) (cy : Nat → ClassId) (o : Nat) (ho : isO 3 o) (p1 : Int32) (v : VV) (Q : Nat → VV → Prop) (hw : w_X3_pieceAt o p1 v Q) : CQ l yX3_pieceAt (.code yX3_pieceAt cX3_pieceAt 2 (some (.object "TransportFour$Piece")) :: TB) { frames := 0, cells := 0, slots := 0, locals := 0 } dC dI base cy [.ref (base + o), .int p1] v Q := by
  refine Met.ofW (cc := cX3_pieceAt) (maxL := 2) (ret := (some (.object "TransportFour$Piece"))) (by decide) rfl ?_
  intro p e s m args below meth c s₁ B hml hv
  obtain ⟨rfl, hP, hK⟩ := hv
  have hx := B.exec
  have hb := B.bytes
  have hr := B.returns
  have hts0 := atoms_spec (ws := (.code yX3_pieceAt cX3_pieceAt 2 (some (.object "TransportFour$Piece")) :: TB)) B.pre
  have hts : ∀ w ∈ TB, w.before ([.ref (base + o), .int p1]).toArray s = true := fun w h => hts0 w (List.mem_cons_of_mem _ h)
  have hown : s.vm.findClass RX3 = some m.cls := findClass_of_methodNamed B.named
  have hlocks := B.notSynchronized
  have hS : va_S (fun q => base ≤ q) s.heap s.heap [] := va_S.rf
  have hl := lv_entry ([.ref (base + o), .int p1]) (n := 2) (Nat.le_of_ble_eq_true rfl)
  rw [lg_entry_eq]
  generalize (lg_sl ([.ref (base + o), .int p1]) ++ List.replicate (2 - (lg_sl ([.ref (base + o), .int p1])).length) Slot.unset).toArray = ls at hl ⊢
  have hl : lv_has ls 2 [(0, .ref (base + o)), (1, .int p1)] := hl
  have hret : ∀ (pc t : Nat) (v : VV) (H : Heap) (locs : List Loc) (ls : Array Slot), decode cX3_pieceAt pc = .ok (.areturn, 1) → Q t v → va_P (dC, dI) vwCl (Wd base cy rf v 874) H → va_S (fun q => base ≤ q) s.heap H locs → W p l e { frames := 0, cells := 0, slots := 0, locals := 0 } s m ([.ref (base + o), .int p1]).toArray below meth c H locs 0 0 (MQ below (va_Qr (fun u : Nat × VV => Q u.1 u.2) (fun u a U => a = base + u.1 ∧ Hp dC dI base cy u.2 U) (fun q => base ≤ q)) ([.ref (base + o), .int p1]).toArray s 0 0 (fun q => base ≤ q)) (F0 m pc ls [.ref (base + t)]) := fun pc t v H locs ls hd hq hP hS => W.aret hx hb hr (Or.inl ⟨_, rfl⟩) (Or.inr ⟨_, rfl⟩) (fun tt ht hW => ⟨⟨(t, v), _, rfl, hq, rfl, by rw [ht]; exact hP, va_K.moved hW.alike hK⟩, hS.F ht⟩) hS.2.2 hd
  refine lv_aload_n hx hb dX3_pieceAt_0 rfl (lv_at hl 0 rfl) ?_
  refine w_gR (C := RX3) (T := TX3) (N := 6) (ci := 3) hx hb hts in3 hown hK hP 0 ho.1 ho rfl (by decide) (ch3_0 ho).1 (hts _ mf_X3_11) dX3_pieceAt_1 ?_
  refine lv_aload_n hx hb dX3_pieceAt_4 rfl (lv_at hl 0 rfl) ?_
  refine w_gI (C := RX3) (T := TX3) (N := 6) (ci := 3) hx hb hts in3 hown hK hP 1 ho.1 ho rfl (by decide) (hts _ mf_X3_31) dX3_pieceAt_5 ?_
  refine lv_topi (fun x5 ex5 => ?_)
  have hw := hw x5 ex5
  refine lv_iload_n hx hb dX3_pieceAt_8 rfl (lv_at hl 1 rfl) ?_
  refine lv_iadd hx hb dX3_pieceAt_9 ?_
  refine lv_topi (fun x9 ex9 => ?_)
  have hw := hw x9 ex9
  refine lv_bipush (v := 40) hx hb dX3_pieceAt_10 (by decide) ?_
  refine lv_irem hx hb dX3_pieceAt_12 (by decide) ?_
  refine lv_topi (fun x12 ex12 => ?_)
  have hw := hw x12 ex12
  obtain ⟨hi1, hw⟩ := hw
  obtain ⟨t13, et13⟩ : ∃ y : Nat, y = o + 1 + 1 + 3 * (Int32.toNatClampNeg x12) := ⟨_, rfl⟩
  have hw := hw t13 et13
  have qt13 := arP (i := (Int32.toNatClampNeg x12)) (ch3_0 ho).2.1 (in_lt hi1)
  rw [← et13] at qt13
  refine w_aa (q0 := 4) hx hb hK hP (ch3_0 ho).2.1.1 (ch3_0 ho).2.1 (by decide) rfl (ch3_0 ho).2.2 hi1 qt13.1 dX3_pieceAt_13 ?_
  exact hret _ _ _ _ _ _ dX3_pieceAt_14 hw hP hS
def b_X3_addMessage_60 (o : Nat) (p2 : Int32) (Q : VV → Prop) (K8 : Int32 → Int32 → Int32 → VV → Prop) (a2 : Int32) (a3 : Int32) (a4 : Int32) (a5 : Nat) (a6 : Int32) (s0 : Int32) (s1 : Nat) (v : VV) : Prop :=
  (s0 = 0 ∨ s0 = 1) ∧ ∀ v1 : VV, v1 = up2 v s1 3 s0 → w_X8_clear (a5 + 2) v1 (fun (v2 : VV) => ∀ x82 : Int32, x82 = v2 a5 2 → (¬ a6 < 0 ∧ ¬ (0 : Int32) < 0 ∧ ¬ x82 < 0 ∧ (Int32.toNatClampNeg a6) + (Int32.toNatClampNeg x82) ≤ 64 ∧ (Int32.toNatClampNeg 0) + (Int32.toNatClampNeg x82) ≤ 8) ∧ ∀ v3 : VV, v3 = up1 v2 (a5 + 1) (va_cpy (v2 815) (v2 (a5 + 1)) (Int32.toNatClampNeg a6) (Int32.toNatClampNeg 0) (Int32.toNatClampNeg x82)) → ∀ x90 : Int32, x90 = v3 o 2 → ∀ x94 : Int32, x94 = x90 + 1 → ∀ v4 : VV, v4 = up2 v3 o 2 x94 → ∀ x98 : Int32, x98 = a4 + 1 → K8 a2 a3 x98 v4)
set_option maxHeartbeats 4000000 in
set_option maxRecDepth 100000 in
theorem tb_X3_addMessage_60 {p : Program} {l : Launch} {e : Env} {s : State} {m : MethodId} {args : Array Value} {below : List Frame} {meth : Method} {c : Code} {QQ : State → Prop} {dC : Nat → ClassId} {dI : Nat → Nat → Nat} {base : Nat} {cy : Nat → ClassId} (hx : p.tables.exec = Jvm.exec) (hb : c.code = cX3_addMessage) (hml : c.maxLocals = 7) (hown : s.vm.findClass RX3 = some m.cls) (hts : ∀ w ∈ TB, w.before args s = true) (hK : va_K (dC, dI) vwCl (tyL cy) s) (o : Nat) (ho : isO 3 o) (p2 : Int32) (Q : VV → Prop) (hret : ∀ (pc : Nat) (v : VV) (H : Heap) (locs : List Loc) (ls : Array Slot), decode cX3_addMessage pc = .ok (.return_, 1) → Q v → va_P (dC, dI) vwCl (Wd base cy rf v 874) H → va_S (fun q => base ≤ q) s.heap H locs → W p l e { frames := 1, cells := 0, slots := 0, locals := 26 } s m args below meth c H locs 0 0 QQ (F0 m pc ls [])) (K8 : Int32 → Int32 → Int32 → VV → Prop) (hK8 : ∀ (a2 : Int32) (a3 : Int32) (a4 : Int32) (v : VV) (H : Heap) (locs : List Loc) (ls : Array Slot), K8 a2 a3 a4 v → lv_has ls 7 [(0, .ref (base + o)), (1, .ref (base + 815)), (2, .int a2), (3, .int a3), (4, .int a4)] → va_P (dC, dI) vwCl (Wd base cy rf v 874) H → va_S (fun q => base ≤ q) s.heap H locs → W p l e { frames := 1, cells := 0, slots := 0, locals := 26 } s m args below meth c H locs 0 0 QQ (F0 m 8 ls [])) (a2 : Int32) (a3 : Int32) (a4 : Int32) (a5 : Nat) (ha5 : isO 4 a5) (a6 : Int32) (s0 : Int32) (s1 : Nat) (hs1 : isO 4 s1) (v : VV) (H : Heap) (locs : List Loc) (ls : Array Slot) (hw : b_X3_addMessage_60 o p2 Q K8 a2 a3 a4 a5 a6 s0 s1 v) : lv_has ls 7 [(0, .ref (base + o)), (1, .ref (base + 815)), (2, .int a2), (3, .int a3), (4, .int a4), (5, .ref (base + a5)), (6, .int a6)] → va_P (dC, dI) vwCl (Wd base cy rf v 874) H → va_S (fun q => base ≤ q) s.heap H locs → W p l e { frames := 1, cells := 0, slots := 0, locals := 26 } s m args below meth c H locs 0 0 QQ (F0 m 60 ls [.int s0, .ref (base + s1)]) := by
  intro hl hP hS
  obtain ⟨hzb, hw⟩ := hw
  refine w_pI (C := RX4) (T := TX4) (N := 4) (ci := 4) hx hb hts in4 tyX4 tyX4_ok nmX4 hown hK hP hS 3 hs1.1 hs1 rfl (by decide) (hts _ mf_X3_51) rfl (ty := .boolean) (by decide +kernel) (zb_n hzb) (zb_f hzb) dX3_addMessage_60 (fun v1 H locs hv1 hP hz hS => ?_)
  have hw := hw v1 hv1
  refine lv_aload hx hb dX3_addMessage_63 (lv_at hl 5 rfl) ?_
  refine w_gR (C := RX4) (T := TX4) (N := 4) (ci := 4) hx hb hts in4 hown hK hP 1 ha5.1 ha5 rfl (by decide) (ch4_1 ha5).1 (hts _ mf_X3_55) dX3_addMessage_65 ?_
  refine k_V (As := []) (rest := []) ⟨hx, hb, hml, hown, hts⟩ (t_X8_clear l dC dI base cy (a5 + 2) (ch4_1 ha5).2 v1 _ hw) (cwV 0 hts (gV ml_X3_59 mi_X8_clear mx_X8_clear mn_X8 mo_X8_clear) rfl rfl rfl (by decide +kernel) ⟨by decide, by decide⟩) hK hP hS (ch4_1 ha5).2 (by decide) rfl rfl hl.1 rfl (Nat.le_of_ble_eq_true rfl) dX3_addMessage_68 ⟨Nat.zero_le _, Nat.zero_le _⟩ (fun v2 H locs hw hP hS => ?_)
  refine lv_aload_n hx hb dX3_addMessage_71 rfl (lv_at hl 1 rfl) ?_
  refine lv_iload hx hb dX3_addMessage_72 (lv_at hl 6 rfl) ?_
  refine lv_aload hx hb dX3_addMessage_74 (lv_at hl 5 rfl) ?_
  refine w_gR (C := RX4) (T := TX4) (N := 4) (ci := 4) hx hb hts in4 hown hK hP 0 ha5.1 ha5 rfl (by decide) (ch4_0 ha5).1 (hts _ mf_X3_64) dX3_addMessage_76 ?_
  refine lv_iconst (v := 0) hx hb dX3_addMessage_79 (by decide) ?_
  refine lv_aload hx hb dX3_addMessage_80 (lv_at hl 5 rfl) ?_
  refine w_gI (C := RX4) (T := TX4) (N := 4) (ci := 4) hx hb hts in4 hown hK hP 2 ha5.1 ha5 rfl (by decide) (hts _ mf_X3_48) dX3_addMessage_82 ?_
  refine lv_topi (fun x82 ex82 => ?_)
  have hw := hw x82 ex82
  obtain ⟨hcp, hw⟩ := hw
  refine w_cp hx hb (hml.trans hl.1.symm) hown (hts _ ml_X3_68) (hts _ mcp_n) (hts _ mcp_s) (hts _ mcp_i) hK hP hS (ch9_2 th9).2.1.1 (ch9_2 th9).2.1 (ch9_2 th9).2.2 (ch4_0 ha5).2.1.1 (ch4_0 ha5).2.1 (ch4_0 ha5).2.2 hcp (by decide) (Nat.le_of_ble_eq_true rfl) dX3_addMessage_85 (fun v3 H locs hv3 hP hS => ?_)
  have hw := hw v3 hv3
  refine lv_aload_n hx hb dX3_addMessage_88 rfl (lv_at hl 0 rfl) ?_
  refine lv_dup hx hb dX3_addMessage_89 rfl ?_
  refine w_gI (C := RX3) (T := TX3) (N := 6) (ci := 3) hx hb hts in3 hown hK hP 2 ho.1 ho rfl (by decide) (hts _ mf_X3_18) dX3_addMessage_90 ?_
  refine lv_topi (fun x90 ex90 => ?_)
  have hw := hw x90 ex90
  refine lv_iconst (v := 1) hx hb dX3_addMessage_93 (by decide) ?_
  refine lv_iadd hx hb dX3_addMessage_94 ?_
  refine lv_topi (fun x94 ex94 => ?_)
  have hw := hw x94 ex94
  refine w_pI (C := RX3) (T := TX3) (N := 6) (ci := 3) hx hb hts in3 tyX3 tyX3_ok nmX3 hown hK hP hS 2 ho.1 ho rfl (by decide) (hts _ mf_X3_18) rfl (ty := .int) (by decide +kernel) rfl rfl dX3_addMessage_95 (fun v4 H locs hv4 hP hz hS => ?_)
  have hw := hw v4 hv4
  obtain ⟨x98, ex98⟩ : ∃ y : Int32, y = a4 + 1 := ⟨_, rfl⟩
  have hw := hw x98 ex98
  refine lv_iinc (v := x98) (lv' := [(4, .int x98), (0, .ref (base + o)), (1, .ref (base + 815)), (2, .int a2), (3, .int a3), (5, .ref (base + a5)), (6, .int a6)]) hx hb dX3_addMessage_98 hl (k := 4) rfl (by rw [ex98]; first | rfl | (rw [show Int32.ofInt (-1) = (-1 : Int32) from by decide])) (by decide) rfl (fun ls hl => ?_)
  refine lv_goto (tgt := 8) hx hb dX3_addMessage_101 (by decide) ?_
  exact hK8 a2 a3 x98 v4 _ _ _ hw (lv_sub hl [1, 2, 3, 4, 0] rfl) hP hS
def b_X3_addMessage_8 (o : Nat) (p2 : Int32) (Q : VV → Prop) (fu : Nat) : Int32 → Int32 → Int32 → VV → Prop :=
  Nat.rec (motive := fun _ => Int32 → Int32 → Int32 → VV → Prop) (fun _ _ _ _ => False) (fun _ ih a2 a3 a4 v => (a3 ≤ a4 → Q v) ∧ (¬ a3 ≤ a4 → ∀ x16 : Int32, x16 = v o 2 → w_X3_pieceAt o x16 v (fun (t19 : Nat) (v1 : VV) => isO 4 t19 ∧ ∀ x28 : Int32, x28 = a4 * 8 → ∀ x38 : Int32, x38 = a2 - x28 → ∀ x39 : Int32, x39 = (if x38 < 8 then x38 else 8) → ∀ v2 : VV, v2 = up2 v1 t19 2 x39 → ∀ x51 : Int32, x51 = a3 - 1 → (¬ a4 = x51 → b_X3_addMessage_60 o p2 Q ih a2 a3 a4 t19 x28 0 t19 v2) ∧ (a4 = x51 → b_X3_addMessage_60 o p2 Q ih a2 a3 a4 t19 x28 1 t19 v2)))) fu
set_option maxHeartbeats 4000000 in
set_option maxRecDepth 100000 in
theorem tb_X3_addMessage_8 {p : Program} {l : Launch} {e : Env} {s : State} {m : MethodId} {args : Array Value} {below : List Frame} {meth : Method} {c : Code} {QQ : State → Prop} {dC : Nat → ClassId} {dI : Nat → Nat → Nat} {base : Nat} {cy : Nat → ClassId} (hx : p.tables.exec = Jvm.exec) (hb : c.code = cX3_addMessage) (hml : c.maxLocals = 7) (hown : s.vm.findClass RX3 = some m.cls) (hts : ∀ w ∈ TB, w.before args s = true) (hK : va_K (dC, dI) vwCl (tyL cy) s) (o : Nat) (ho : isO 3 o) (p2 : Int32) (Q : VV → Prop) (hret : ∀ (pc : Nat) (v : VV) (H : Heap) (locs : List Loc) (ls : Array Slot), decode cX3_addMessage pc = .ok (.return_, 1) → Q v → va_P (dC, dI) vwCl (Wd base cy rf v 874) H → va_S (fun q => base ≤ q) s.heap H locs → W p l e { frames := 1, cells := 0, slots := 0, locals := 26 } s m args below meth c H locs 0 0 QQ (F0 m pc ls [])) : ∀ (fu : Nat) (a2 : Int32) (a3 : Int32) (a4 : Int32) (v : VV) (H : Heap) (locs : List Loc) (ls : Array Slot), b_X3_addMessage_8 o p2 Q  fu a2 a3 a4 v → lv_has ls 7 [(0, .ref (base + o)), (1, .ref (base + 815)), (2, .int a2), (3, .int a3), (4, .int a4)] → va_P (dC, dI) vwCl (Wd base cy rf v 874) H → va_S (fun q => base ≤ q) s.heap H locs → W p l e { frames := 1, cells := 0, slots := 0, locals := 26 } s m args below meth c H locs 0 0 QQ (F0 m 8 ls []) := by
  intro fu
  induction fu with
  | zero =>
    intro a2 a3 a4 v H locs ls hw hl hP hS
    exact hw.elim
  | succ fu ih =>
    intro a2 a3 a4 v H locs ls hw hl hP hS
    refine lv_iload hx hb dX3_addMessage_8 (lv_at hl 4 rfl) ?_
    refine lv_iload_n hx hb dX3_addMessage_10 rfl (lv_at hl 3 rfl) ?_
    refine lv_icmp_ge (tgt := 104) hx hb dX3_addMessage_11 (by decide) (fun c11 => ?_) (fun c11 => ?_)
    · have hw := hw.1 c11
      exact hret _ _ _ _ _ dX3_addMessage_104 hw hP hS
    · have hw := hw.2 c11
      refine lv_aload_n hx hb dX3_addMessage_14 rfl (lv_at hl 0 rfl) ?_
      refine lv_aload_n hx hb dX3_addMessage_15 rfl (lv_at hl 0 rfl) ?_
      refine w_gI (C := RX3) (T := TX3) (N := 6) (ci := 3) hx hb hts in3 hown hK hP 2 ho.1 ho rfl (by decide) (hts _ mf_X3_18) dX3_addMessage_16 ?_
      refine lv_topi (fun x16 ex16 => ?_)
      have hw := hw x16 ex16
      refine k_Q (As := [.int x16]) (rest := []) ⟨hx, hb, hml, hown, hts⟩ (t_X3_pieceAt l dC dI base cy o ho x16 v _ hw) (cwV 1 hts (gV ml_X3_38 mi_X3_pieceAt mx_X3_pieceAt mn_X3 mo_X3_pieceAt) rfl rfl rfl (by decide +kernel) ⟨by decide, by decide⟩) hK hP hS ho (by decide) rfl rfl hl.1 rfl (Nat.le_of_ble_eq_true rfl) dX3_addMessage_19 ⟨Nat.zero_le _, Nat.zero_le _⟩ (fun t19 v1 H locs hw hP hS => ?_)
      obtain ⟨ht19, hw⟩ := hw
      refine lv_astore (lv' := [(5, .ref (base + t19)), (0, .ref (base + o)), (1, .ref (base + 815)), (2, .int a2), (3, .int a3), (4, .int a4)]) hx hb dX3_addMessage_22 hl (by decide) rfl (fun ls hl => ?_)
      refine lv_iload hx hb dX3_addMessage_24 (lv_at hl 5 rfl) ?_
      refine lv_bipush (v := 8) hx hb dX3_addMessage_26 (by decide) ?_
      refine lv_imul hx hb dX3_addMessage_28 ?_
      refine lv_topi (fun x28 ex28 => ?_)
      have hw := hw x28 ex28
      refine lv_istore (lv' := [(6, .int x28), (5, .ref (base + t19)), (0, .ref (base + o)), (1, .ref (base + 815)), (2, .int a2), (3, .int a3), (4, .int a4)]) hx hb dX3_addMessage_29 hl (by decide) rfl (fun ls hl => ?_)
      refine lv_aload hx hb dX3_addMessage_31 (lv_at hl 1 rfl) ?_
      refine lv_bipush (v := 8) hx hb dX3_addMessage_33 (by decide) ?_
      refine lv_iload_n hx hb dX3_addMessage_35 rfl (lv_at hl 4 rfl) ?_
      refine lv_iload hx hb dX3_addMessage_36 (lv_at hl 0 rfl) ?_
      refine lv_isub hx hb dX3_addMessage_38 ?_
      refine lv_topi (fun x38 ex38 => ?_)
      have hw := hw x38 ex38
      refine va_mmin hx hb (hml.trans hl.1.symm) hown (hts _ ml_X3_42) (hts _ mt_J9_min_7cf53) (hts _ mn_J9) (hts _ mo_J9_min_7cf53) (by decide) (Nat.le_of_ble_eq_true rfl) (Nat.zero_le _) (Nat.zero_le _) dX3_addMessage_39 ?_
      refine lv_topi (fun x39 ex39 => ?_)
      have hw := hw x39 ex39
      refine w_pI (C := RX4) (T := TX4) (N := 4) (ci := 4) hx hb hts in4 tyX4 tyX4_ok nmX4 hown hK hP hS 2 ht19.1 ht19 rfl (by decide) (hts _ mf_X3_48) rfl (ty := .int) (by decide +kernel) rfl rfl dX3_addMessage_42 (fun v2 H locs hv2 hP hz hS => ?_)
      have hw := hw v2 hv2
      refine lv_aload hx hb dX3_addMessage_45 (lv_at hl 1 rfl) ?_
      refine lv_iload hx hb dX3_addMessage_47 (lv_at hl 6 rfl) ?_
      refine lv_iload_n hx hb dX3_addMessage_49 rfl (lv_at hl 5 rfl) ?_
      refine lv_iconst (v := 1) hx hb dX3_addMessage_50 (by decide) ?_
      refine lv_isub hx hb dX3_addMessage_51 ?_
      refine lv_topi (fun x51 ex51 => ?_)
      have hw := hw x51 ex51
      refine lv_icmp_ne (tgt := 59) hx hb dX3_addMessage_52 (by decide) (fun c52 => ?_) (fun c52 => ?_)
      · have hw := hw.1 c52
        refine lv_iconst (v := 0) hx hb dX3_addMessage_59 (by decide) ?_
        exact tb_X3_addMessage_60 hx hb hml hown hts hK o ho p2 _ hret _ ih a2 a3 a4 t19 ht19 x28 0 t19 ht19 v2 _ _ _ hw (lv_sub hl [2, 3, 4, 5, 6, 1, 0] rfl) hP hS
      · have hw := hw.2 c52
        refine lv_iconst (v := 1) hx hb dX3_addMessage_55 (by decide) ?_
        refine lv_goto (tgt := 60) hx hb dX3_addMessage_56 (by decide) ?_
        exact tb_X3_addMessage_60 hx hb hml hown hts hK o ho p2 _ hret _ ih a2 a3 a4 t19 ht19 x28 1 t19 ht19 v2 _ _ _ hw (lv_sub hl [2, 3, 4, 5, 6, 1, 0] rfl) hP hS
def w_X3_addMessage (o : Nat) (p2 : Int32) (v : VV) (Q : VV → Prop) : Prop :=
  w_X3_piecesOf p2 v (fun (x1 : Int32) (v1 : VV) => ∃ fu : Nat, b_X3_addMessage_8 o p2 Q  fu p2 x1 0 v1)
set_option maxHeartbeats 4000000 in
set_option maxRecDepth 100000 in
/-- TransportFour$Outbox.addMessage -/
theorem t_X3_addMessage (l : Launch) (dC : Nat → ClassId) (dI : Nat → Nat → Nat) (base : Nat) (cy : Nat → ClassId) (o : Nat) (ho : isO 3 o) (p2 : Int32) (v : VV) (Q : VV → Prop) (hw : w_X3_addMessage o p2 v Q) : CV l yX3_addMessage (.code yX3_addMessage cX3_addMessage 7 none :: TB) { frames := 1, cells := 0, slots := 0, locals := 26 } dC dI base cy [.ref (base + o), .ref (base + 815), .int p2] v Q := by
  refine Met.ofW (cc := cX3_addMessage) (maxL := 7) (ret := none) (by decide) rfl ?_
  intro p e s m args below meth c s₁ B hml hv
  obtain ⟨rfl, hP, hK⟩ := hv
  have hx := B.exec
  have hb := B.bytes
  have hr := B.returns
  have hts0 := atoms_spec (ws := (.code yX3_addMessage cX3_addMessage 7 none :: TB)) B.pre
  have hts : ∀ w ∈ TB, w.before ([.ref (base + o), .ref (base + 815), .int p2]).toArray s = true := fun w h => hts0 w (List.mem_cons_of_mem _ h)
  have hown : s.vm.findClass RX3 = some m.cls := findClass_of_methodNamed B.named
  have hlocks := B.notSynchronized
  have hS : va_S (fun q => base ≤ q) s.heap s.heap [] := va_S.rf
  have hl := lv_entry ([.ref (base + o), .ref (base + 815), .int p2]) (n := 7) (Nat.le_of_ble_eq_true rfl)
  rw [lg_entry_eq]
  generalize (lg_sl ([.ref (base + o), .ref (base + 815), .int p2]) ++ List.replicate (7 - (lg_sl ([.ref (base + o), .ref (base + 815), .int p2])).length) Slot.unset).toArray = ls at hl ⊢
  have hl : lv_has ls 7 [(0, .ref (base + o)), (1, .ref (base + 815)), (2, .int p2)] := hl
  have hret : ∀ (pc : Nat) (v : VV) (H : Heap) (locs : List Loc) (ls : Array Slot), decode cX3_addMessage pc = .ok (.return_, 1) → Q v → va_P (dC, dI) vwCl (Wd base cy rf v 874) H → va_S (fun q => base ≤ q) s.heap H locs → W p l e { frames := 1, cells := 0, slots := 0, locals := 26 } s m ([.ref (base + o), .ref (base + 815), .int p2]).toArray below meth c H locs 0 0 (MQ below (va_Qv Q (Hp dC dI base cy) (fun q => base ≤ q)) ([.ref (base + o), .ref (base + 815), .int p2]).toArray s 0 0 (fun q => base ≤ q)) (F0 m pc ls []) := fun pc v H locs ls hd hq hP hS => W.vret hx hb hr (fun t ht hW => ⟨⟨v, rfl, hq, by rw [ht]; exact hP, va_K.moved hW.alike hK⟩, hS.F ht⟩) hS.2.2 hd
  refine lv_iload_n hx hb dX3_addMessage_0 rfl (lv_at hl 2 rfl) ?_
  refine kS_I (As := [.int p2]) (rest := []) ⟨hx, hb, hml, hown, hts⟩ (t_X3_piecesOf l dC dI base cy p2 v _ hw) (cwS 1 hts (gS ml_X3_34 mt_X3_piecesOf mn_X3 mo_X3_piecesOf) rfl rfl rfl (by decide +kernel) ⟨by decide, by decide⟩) hK hP hS rfl hl.1 rfl (Nat.le_of_ble_eq_true rfl) dX3_addMessage_1 ⟨Nat.zero_le _, Nat.zero_le _⟩ (fun x1 v1 H locs hw hP hS => ?_)
  refine lv_istore_n (lv' := [(3, .int x1), (0, .ref (base + o)), (1, .ref (base + 815)), (2, .int p2)]) hx hb dX3_addMessage_4 rfl hl (by decide) rfl (fun ls hl => ?_)
  refine lv_iconst (v := 0) hx hb dX3_addMessage_5 (by decide) ?_
  refine lv_istore (lv' := [(4, .int 0), (3, .int x1), (0, .ref (base + o)), (1, .ref (base + 815)), (2, .int p2)]) hx hb dX3_addMessage_6 hl (by decide) rfl (fun ls hl => ?_)
  obtain ⟨fu, hw⟩ := hw
  exact tb_X3_addMessage_8 hx hb hml hown hts hK o ho p2 _ hret  fu p2 x1 0 v1 _ _ _ hw (lv_sub hl [2, 3, 4, 1, 0] rfl) hP hS
def b_X3_maySendNext_26 (o : Nat) (Q : Int32 → VV → Prop)  (v : VV) : Prop :=
  Q 0 v
set_option maxHeartbeats 4000000 in
set_option maxRecDepth 100000 in
theorem tb_X3_maySendNext_26 {p : Program} {l : Launch} {e : Env} {s : State} {m : MethodId} {args : Array Value} {below : List Frame} {meth : Method} {c : Code} {QQ : State → Prop} {dC : Nat → ClassId} {dI : Nat → Nat → Nat} {base : Nat} {cy : Nat → ClassId} (hx : p.tables.exec = Jvm.exec) (hb : c.code = cX3_maySendNext) (hml : c.maxLocals = 1) (hown : s.vm.findClass RX3 = some m.cls) (hts : ∀ w ∈ TB, w.before args s = true) (hK : va_K (dC, dI) vwCl (tyL cy) s) (o : Nat) (ho : isO 3 o) (Q : Int32 → VV → Prop) (hret : ∀ (pc : Nat) (x : Int32) (v : VV) (H : Heap) (locs : List Loc) (ls : Array Slot), decode cX3_maySendNext pc = .ok (.ireturn, 1) → (x = 0 ∨ x = 1) → Q x v → va_P (dC, dI) vwCl (Wd base cy rf v 874) H → va_S (fun q => base ≤ q) s.heap H locs → W p l e { frames := 0, cells := 0, slots := 0, locals := 0 } s m args below meth c H locs 0 0 QQ (F0 m pc ls [.int x]))  (v : VV) (H : Heap) (locs : List Loc) (ls : Array Slot) (hw : b_X3_maySendNext_26 o Q   v) : lv_has ls 1 [(0, .ref (base + o))] → va_P (dC, dI) vwCl (Wd base cy rf v 874) H → va_S (fun q => base ≤ q) s.heap H locs → W p l e { frames := 0, cells := 0, slots := 0, locals := 0 } s m args below meth c H locs 0 0 QQ (F0 m 26 ls []) := by
  intro hl hP hS
  refine lv_iconst (v := 0) hx hb dX3_maySendNext_26 (by decide) ?_
  exact hret _ _ _ _ _ _ dX3_maySendNext_27 (by decide) hw hP hS
def w_X3_maySendNext (o : Nat) (v : VV) (Q : Int32 → VV → Prop) : Prop :=
  ∀ x1 : Int32, x1 = v o 3 → ∀ x5 : Int32, x5 = v o 2 → (x5 ≤ x1 → b_X3_maySendNext_26 o Q   v) ∧ (¬ x5 ≤ x1 → ∀ x12 : Int32, x12 = v o 3 → ∀ x16 : Int32, x16 = v o 5 → (x16 ≤ x12 → b_X3_maySendNext_26 o Q   v) ∧ (¬ x16 ≤ x12 → Q 1 v))
set_option maxHeartbeats 4000000 in
set_option maxRecDepth 100000 in
/-- TransportFour$Outbox.maySendNext -/
theorem t_X3_maySendNext (l : Launch) (dC : Nat → ClassId) (dI : Nat → Nat → Nat) (base : Nat) (cy : Nat → ClassId) (o : Nat) (ho : isO 3 o) (v : VV) (Q : Int32 → VV → Prop) (hw : w_X3_maySendNext o v Q) : CI l yX3_maySendNext (.code yX3_maySendNext cX3_maySendNext 1 (some .boolean) :: TB) { frames := 0, cells := 0, slots := 0, locals := 0 } dC dI base cy [.ref (base + o)] v Q := by
  refine Met.ofW (cc := cX3_maySendNext) (maxL := 1) (ret := (some .boolean)) (by decide) rfl ?_
  intro p e s m args below meth c s₁ B hml hv
  obtain ⟨rfl, hP, hK⟩ := hv
  have hx := B.exec
  have hb := B.bytes
  have hr := B.returns
  have hts0 := atoms_spec (ws := (.code yX3_maySendNext cX3_maySendNext 1 (some .boolean) :: TB)) B.pre
  have hts : ∀ w ∈ TB, w.before ([.ref (base + o)]).toArray s = true := fun w h => hts0 w (List.mem_cons_of_mem _ h)
  have hown : s.vm.findClass RX3 = some m.cls := findClass_of_methodNamed B.named
  have hlocks := B.notSynchronized
  have hS : va_S (fun q => base ≤ q) s.heap s.heap [] := va_S.rf
  have hl := lv_entry ([.ref (base + o)]) (n := 1) (Nat.le_of_ble_eq_true rfl)
  rw [lg_entry_eq]
  generalize (lg_sl ([.ref (base + o)]) ++ List.replicate (1 - (lg_sl ([.ref (base + o)])).length) Slot.unset).toArray = ls at hl ⊢
  have hl : lv_has ls 1 [(0, .ref (base + o))] := hl
  have hret : ∀ (pc : Nat) (x : Int32) (v : VV) (H : Heap) (locs : List Loc) (ls : Array Slot), decode cX3_maySendNext pc = .ok (.ireturn, 1) → (x = 0 ∨ x = 1) → Q x v → va_P (dC, dI) vwCl (Wd base cy rf v 874) H → va_S (fun q => base ≤ q) s.heap H locs → W p l e { frames := 0, cells := 0, slots := 0, locals := 0 } s m ([.ref (base + o)]).toArray below meth c H locs 0 0 (MQ below (va_Qi Q (Hp dC dI base cy) (fun q => base ≤ q)) ([.ref (base + o)]).toArray s 0 0 (fun q => base ≤ q)) (F0 m pc ls [.int x]) := fun pc x v H locs ls hd hz hq hP hS => W.zret (v := x) hx hb hr (zb_n hz) (fun t ht hW => ⟨⟨x, v, rfl, hq, by rw [ht]; exact hP, va_K.moved hW.alike hK⟩, hS.F ht⟩) hS.2.2 hd
  refine lv_aload_n hx hb dX3_maySendNext_0 rfl (lv_at hl 0 rfl) ?_
  refine w_gI (C := RX3) (T := TX3) (N := 6) (ci := 3) hx hb hts in3 hown hK hP 3 ho.1 ho rfl (by decide) (hts _ mf_X3_22) dX3_maySendNext_1 ?_
  refine lv_topi (fun x1 ex1 => ?_)
  have hw := hw x1 ex1
  refine lv_aload_n hx hb dX3_maySendNext_4 rfl (lv_at hl 0 rfl) ?_
  refine w_gI (C := RX3) (T := TX3) (N := 6) (ci := 3) hx hb hts in3 hown hK hP 2 ho.1 ho rfl (by decide) (hts _ mf_X3_18) dX3_maySendNext_5 ?_
  refine lv_topi (fun x5 ex5 => ?_)
  have hw := hw x5 ex5
  refine lv_icmp_ge (tgt := 26) hx hb dX3_maySendNext_8 (by decide) (fun c8 => ?_) (fun c8 => ?_)
  · have hw := hw.1 c8
    exact tb_X3_maySendNext_26 hx hb hml hown hts hK o ho _ hret   v _ _ _ hw (lv_sub hl [0] rfl) hP hS
  · have hw := hw.2 c8
    refine lv_aload_n hx hb dX3_maySendNext_11 rfl (lv_at hl 0 rfl) ?_
    refine w_gI (C := RX3) (T := TX3) (N := 6) (ci := 3) hx hb hts in3 hown hK hP 3 ho.1 ho rfl (by decide) (hts _ mf_X3_22) dX3_maySendNext_12 ?_
    refine lv_topi (fun x12 ex12 => ?_)
    have hw := hw x12 ex12
    refine lv_aload_n hx hb dX3_maySendNext_15 rfl (lv_at hl 0 rfl) ?_
    refine w_gI (C := RX3) (T := TX3) (N := 6) (ci := 3) hx hb hts in3 hown hK hP 5 ho.1 ho rfl (by decide) (hts _ mf_X3_28) dX3_maySendNext_16 ?_
    refine lv_topi (fun x16 ex16 => ?_)
    have hw := hw x16 ex16
    refine lv_icmp_ge (tgt := 26) hx hb dX3_maySendNext_19 (by decide) (fun c19 => ?_) (fun c19 => ?_)
    · have hw := hw.1 c19
      exact tb_X3_maySendNext_26 hx hb hml hown hts hK o ho _ hret   v _ _ _ hw (lv_sub hl [0] rfl) hP hS
    · have hw := hw.2 c19
      refine lv_iconst (v := 1) hx hb dX3_maySendNext_22 (by decide) ?_
      refine lv_goto (tgt := 27) hx hb dX3_maySendNext_23 (by decide) ?_
      exact hret _ _ _ _ _ _ dX3_maySendNext_27 (by decide) hw hP hS
def w_X3_numberAt (o : Nat) (p1 : Int32) (v : VV) (Q : Int32 → VV → Prop) : Prop :=
  ∀ x1 : Int32, x1 = v o 4 → ∀ x5 : Int32, x5 = x1 + p1 → ∀ x8 : Int32, x8 = x5 &&& 127 → Q x8 v
set_option maxHeartbeats 4000000 in
set_option maxRecDepth 100000 in
/-- TransportFour$Outbox.numberAt -/
theorem t_X3_numberAt (l : Launch) (dC : Nat → ClassId) (dI : Nat → Nat → Nat) (base : Nat) (cy : Nat → ClassId) (o : Nat) (ho : isO 3 o) (p1 : Int32) (v : VV) (Q : Int32 → VV → Prop) (hw : w_X3_numberAt o p1 v Q) : CI l yX3_numberAt (.code yX3_numberAt cX3_numberAt 2 (some .int) :: TB) { frames := 0, cells := 0, slots := 0, locals := 0 } dC dI base cy [.ref (base + o), .int p1] v Q := by
  refine Met.ofW (cc := cX3_numberAt) (maxL := 2) (ret := (some .int)) (by decide) rfl ?_
  intro p e s m args below meth c s₁ B hml hv
  obtain ⟨rfl, hP, hK⟩ := hv
  have hx := B.exec
  have hb := B.bytes
  have hr := B.returns
  have hts0 := atoms_spec (ws := (.code yX3_numberAt cX3_numberAt 2 (some .int) :: TB)) B.pre
  have hts : ∀ w ∈ TB, w.before ([.ref (base + o), .int p1]).toArray s = true := fun w h => hts0 w (List.mem_cons_of_mem _ h)
  have hown : s.vm.findClass RX3 = some m.cls := findClass_of_methodNamed B.named
  have hlocks := B.notSynchronized
  have hS : va_S (fun q => base ≤ q) s.heap s.heap [] := va_S.rf
  have hl := lv_entry ([.ref (base + o), .int p1]) (n := 2) (Nat.le_of_ble_eq_true rfl)
  rw [lg_entry_eq]
  generalize (lg_sl ([.ref (base + o), .int p1]) ++ List.replicate (2 - (lg_sl ([.ref (base + o), .int p1])).length) Slot.unset).toArray = ls at hl ⊢
  have hl : lv_has ls 2 [(0, .ref (base + o)), (1, .int p1)] := hl
  have hret : ∀ (pc : Nat) (x : Int32) (v : VV) (H : Heap) (locs : List Loc) (ls : Array Slot), decode cX3_numberAt pc = .ok (.ireturn, 1) → Q x v → va_P (dC, dI) vwCl (Wd base cy rf v 874) H → va_S (fun q => base ≤ q) s.heap H locs → W p l e { frames := 0, cells := 0, slots := 0, locals := 0 } s m ([.ref (base + o), .int p1]).toArray below meth c H locs 0 0 (MQ below (va_Qi Q (Hp dC dI base cy) (fun q => base ≤ q)) ([.ref (base + o), .int p1]).toArray s 0 0 (fun q => base ≤ q)) (F0 m pc ls [.int x]) := fun pc x v H locs ls hd hq hP hS => W.iret (v := x) hx hb hr (fun t ht hW => ⟨⟨x, v, rfl, hq, by rw [ht]; exact hP, va_K.moved hW.alike hK⟩, hS.F ht⟩) hS.2.2 hd
  refine lv_aload_n hx hb dX3_numberAt_0 rfl (lv_at hl 0 rfl) ?_
  refine w_gI (C := RX3) (T := TX3) (N := 6) (ci := 3) hx hb hts in3 hown hK hP 4 ho.1 ho rfl (by decide) (hts _ mf_X3_25) dX3_numberAt_1 ?_
  refine lv_topi (fun x1 ex1 => ?_)
  have hw := hw x1 ex1
  refine lv_iload_n hx hb dX3_numberAt_4 rfl (lv_at hl 1 rfl) ?_
  refine lv_iadd hx hb dX3_numberAt_5 ?_
  refine lv_topi (fun x5 ex5 => ?_)
  have hw := hw x5 ex5
  refine lv_bipush (v := 127) hx hb dX3_numberAt_6 (by decide) ?_
  refine lv_iand hx hb dX3_numberAt_8 ?_
  refine lv_topi (fun x8 ex8 => ?_)
  have hw := hw x8 ex8
  exact hret _ _ _ _ _ _ dX3_numberAt_9 hw hP hS
def w_X5_writeNumbered (o : Nat) (p1 : Int32) (p2 : Int32) (p3 : Int32) (v : VV) (Q : VV → Prop) : Prop :=
  ∀ v1 : VV, v1 = up2 v (o + 1) (Int32.toNatClampNeg 4) p3 → w_X5_writeHead o p1 p2 5 v1 (fun (v2 : VV) => Q v2)
set_option maxHeartbeats 4000000 in
set_option maxRecDepth 100000 in
/-- TransportFour$Unit.writeNumbered -/
theorem t_X5_writeNumbered (l : Launch) (dC : Nat → ClassId) (dI : Nat → Nat → Nat) (base : Nat) (cy : Nat → ClassId) (o : Nat) (ho : isO 5 o) (p1 : Int32) (p2 : Int32) (p3 : Int32) (v : VV) (Q : VV → Prop) (hw : w_X5_writeNumbered o p1 p2 p3 v Q) : CV l yX5_writeNumbered (.code yX5_writeNumbered cX5_writeNumbered 4 none :: TB) { frames := 1, cells := 0, slots := 0, locals := 23 } dC dI base cy [.ref (base + o), .int p1, .int p2, .int p3] v Q := by
  refine Met.ofW (cc := cX5_writeNumbered) (maxL := 4) (ret := none) (by decide) rfl ?_
  intro p e s m args below meth c s₁ B hml hv
  obtain ⟨rfl, hP, hK⟩ := hv
  have hx := B.exec
  have hb := B.bytes
  have hr := B.returns
  have hts0 := atoms_spec (ws := (.code yX5_writeNumbered cX5_writeNumbered 4 none :: TB)) B.pre
  have hts : ∀ w ∈ TB, w.before ([.ref (base + o), .int p1, .int p2, .int p3]).toArray s = true := fun w h => hts0 w (List.mem_cons_of_mem _ h)
  have hown : s.vm.findClass RX5 = some m.cls := findClass_of_methodNamed B.named
  have hlocks := B.notSynchronized
  have hS : va_S (fun q => base ≤ q) s.heap s.heap [] := va_S.rf
  have hl := lv_entry ([.ref (base + o), .int p1, .int p2, .int p3]) (n := 4) (Nat.le_of_ble_eq_true rfl)
  rw [lg_entry_eq]
  generalize (lg_sl ([.ref (base + o), .int p1, .int p2, .int p3]) ++ List.replicate (4 - (lg_sl ([.ref (base + o), .int p1, .int p2, .int p3])).length) Slot.unset).toArray = ls at hl ⊢
  have hl : lv_has ls 4 [(0, .ref (base + o)), (1, .int p1), (2, .int p2), (3, .int p3)] := hl
  have hret : ∀ (pc : Nat) (v : VV) (H : Heap) (locs : List Loc) (ls : Array Slot), decode cX5_writeNumbered pc = .ok (.return_, 1) → Q v → va_P (dC, dI) vwCl (Wd base cy rf v 874) H → va_S (fun q => base ≤ q) s.heap H locs → W p l e { frames := 1, cells := 0, slots := 0, locals := 23 } s m ([.ref (base + o), .int p1, .int p2, .int p3]).toArray below meth c H locs 0 0 (MQ below (va_Qv Q (Hp dC dI base cy) (fun q => base ≤ q)) ([.ref (base + o), .int p1, .int p2, .int p3]).toArray s 0 0 (fun q => base ≤ q)) (F0 m pc ls []) := fun pc v H locs ls hd hq hP hS => W.vret hx hb hr (fun t ht hW => ⟨⟨v, rfl, hq, by rw [ht]; exact hP, va_K.moved hW.alike hK⟩, hS.F ht⟩) hS.2.2 hd
  refine lv_aload_n hx hb dX5_writeNumbered_0 rfl (lv_at hl 0 rfl) ?_
  refine w_gR (C := RX5) (T := TX5) (N := 7) (ci := 5) hx hb hts in5 hown hK hP 0 ho.1 ho rfl (by decide) (ch5_0 ho).1 (hts _ mf_X5_9) dX5_writeNumbered_1 ?_
  refine lv_iconst (v := 4) hx hb dX5_writeNumbered_4 (by decide) ?_
  refine lv_iload_n hx hb dX5_writeNumbered_5 rfl (lv_at hl 3 rfl) ?_
  refine w_is (N := 17) hx hb hK hP hS (ch5_0 ho).2.1.1 (ch5_0 ho).2.1 (ch5_0 ho).2.2 (vp_in_nI (n := 4) (by decide) (by decide)) dX5_writeNumbered_6 (fun v1 H locs hv1 hP hz hS => ?_)
  have hw := hw v1 hv1
  refine lv_aload_n hx hb dX5_writeNumbered_7 rfl (lv_at hl 0 rfl) ?_
  refine lv_iload_n hx hb dX5_writeNumbered_8 rfl (lv_at hl 1 rfl) ?_
  refine lv_iload_n hx hb dX5_writeNumbered_9 rfl (lv_at hl 2 rfl) ?_
  refine lv_iconst (v := 5) hx hb dX5_writeNumbered_10 (by decide) ?_
  refine k_V (As := [.int p1, .int p2, .int 5]) (rest := []) ⟨hx, hb, hml, hown, hts⟩ (t_X5_writeHead l dC dI base cy o ho p1 p2 5 v1 _ hw) (cwV 3 hts (gV ml_X5_15 mi_X5_writeHead mx_X5_writeHead mn_X5 mo_X5_writeHead) rfl rfl rfl (by decide +kernel) ⟨by decide, by decide⟩) hK hP hS ho (by decide) rfl rfl hl.1 rfl (Nat.le_of_ble_eq_true rfl) dX5_writeNumbered_11 ⟨Nat.zero_le _, Nat.zero_le _⟩ (fun v2 H locs hw hP hS => ?_)
  exact hret _ _ _ _ _ dX5_writeNumbered_14 hw hP hS
def w_X5_add (o : Nat) (p1 : Int32) (v : VV) (Q : VV → Prop) : Prop :=
  ∀ x1 : Int32, x1 = v o 1 → (17 ≤ x1 → Q v) ∧ (¬ 17 ≤ x1 → ∀ x14 : Int32, x14 = v o 1 → vp_in x14 17 ∧ ∀ v1 : VV, v1 = up2 v (o + 1) (Int32.toNatClampNeg x14) p1 → ∀ x21 : Int32, x21 = v1 o 1 → ∀ x25 : Int32, x25 = x21 + 1 → ∀ v3 : VV, v3 = up2 v1 o 1 x25 → Q v3)
set_option maxHeartbeats 4000000 in
set_option maxRecDepth 100000 in
/-- TransportFour$Unit.add -/
theorem t_X5_add (l : Launch) (dC : Nat → ClassId) (dI : Nat → Nat → Nat) (base : Nat) (cy : Nat → ClassId) (o : Nat) (ho : isO 5 o) (p1 : Int32) (v : VV) (Q : VV → Prop) (hw : w_X5_add o p1 v Q) : CV l yX5_add (.code yX5_add cX5_add 2 none :: TB) { frames := 0, cells := 0, slots := 0, locals := 0 } dC dI base cy [.ref (base + o), .int p1] v Q := by
  refine Met.ofW (cc := cX5_add) (maxL := 2) (ret := none) (by decide) rfl ?_
  intro p e s m args below meth c s₁ B hml hv
  obtain ⟨rfl, hP, hK⟩ := hv
  have hx := B.exec
  have hb := B.bytes
  have hr := B.returns
  have hts0 := atoms_spec (ws := (.code yX5_add cX5_add 2 none :: TB)) B.pre
  have hts : ∀ w ∈ TB, w.before ([.ref (base + o), .int p1]).toArray s = true := fun w h => hts0 w (List.mem_cons_of_mem _ h)
  have hown : s.vm.findClass RX5 = some m.cls := findClass_of_methodNamed B.named
  have hlocks := B.notSynchronized
  have hS : va_S (fun q => base ≤ q) s.heap s.heap [] := va_S.rf
  have hl := lv_entry ([.ref (base + o), .int p1]) (n := 2) (Nat.le_of_ble_eq_true rfl)
  rw [lg_entry_eq]
  generalize (lg_sl ([.ref (base + o), .int p1]) ++ List.replicate (2 - (lg_sl ([.ref (base + o), .int p1])).length) Slot.unset).toArray = ls at hl ⊢
  have hl : lv_has ls 2 [(0, .ref (base + o)), (1, .int p1)] := hl
  have hret : ∀ (pc : Nat) (v : VV) (H : Heap) (locs : List Loc) (ls : Array Slot), decode cX5_add pc = .ok (.return_, 1) → Q v → va_P (dC, dI) vwCl (Wd base cy rf v 874) H → va_S (fun q => base ≤ q) s.heap H locs → W p l e { frames := 0, cells := 0, slots := 0, locals := 0 } s m ([.ref (base + o), .int p1]).toArray below meth c H locs 0 0 (MQ below (va_Qv Q (Hp dC dI base cy) (fun q => base ≤ q)) ([.ref (base + o), .int p1]).toArray s 0 0 (fun q => base ≤ q)) (F0 m pc ls []) := fun pc v H locs ls hd hq hP hS => W.vret hx hb hr (fun t ht hW => ⟨⟨v, rfl, hq, by rw [ht]; exact hP, va_K.moved hW.alike hK⟩, hS.F ht⟩) hS.2.2 hd
  refine lv_aload_n hx hb dX5_add_0 rfl (lv_at hl 0 rfl) ?_
  refine w_gI (C := RX5) (T := TX5) (N := 7) (ci := 5) hx hb hts in5 hown hK hP 1 ho.1 ho rfl (by decide) (hts _ mf_X5_19) dX5_add_1 ?_
  refine lv_topi (fun x1 ex1 => ?_)
  have hw := hw x1 ex1
  refine lv_bipush (v := 17) hx hb dX5_add_4 (by decide) ?_
  refine lv_icmp_ge (tgt := 29) hx hb dX5_add_6 (by decide) (fun c6 => ?_) (fun c6 => ?_)
  · have hw := hw.1 c6
    exact hret _ _ _ _ _ dX5_add_29 hw hP hS
  · have hw := hw.2 c6
    refine lv_aload_n hx hb dX5_add_9 rfl (lv_at hl 0 rfl) ?_
    refine w_gR (C := RX5) (T := TX5) (N := 7) (ci := 5) hx hb hts in5 hown hK hP 0 ho.1 ho rfl (by decide) (ch5_0 ho).1 (hts _ mf_X5_9) dX5_add_10 ?_
    refine lv_aload_n hx hb dX5_add_13 rfl (lv_at hl 0 rfl) ?_
    refine w_gI (C := RX5) (T := TX5) (N := 7) (ci := 5) hx hb hts in5 hown hK hP 1 ho.1 ho rfl (by decide) (hts _ mf_X5_19) dX5_add_14 ?_
    refine lv_topi (fun x14 ex14 => ?_)
    have hw := hw x14 ex14
    refine lv_iload_n hx hb dX5_add_17 rfl (lv_at hl 1 rfl) ?_
    obtain ⟨hi2, hw⟩ := hw
    refine w_is (N := 17) hx hb hK hP hS (ch5_0 ho).2.1.1 (ch5_0 ho).2.1 (ch5_0 ho).2.2 hi2 dX5_add_18 (fun v1 H locs hv1 hP hz hS => ?_)
    have hw := hw v1 hv1
    refine lv_aload_n hx hb dX5_add_19 rfl (lv_at hl 0 rfl) ?_
    refine lv_dup hx hb dX5_add_20 rfl ?_
    refine w_gI (C := RX5) (T := TX5) (N := 7) (ci := 5) hx hb hts in5 hown hK hP 1 ho.1 ho rfl (by decide) (hts _ mf_X5_19) dX5_add_21 ?_
    refine lv_topi (fun x21 ex21 => ?_)
    have hw := hw x21 ex21
    refine lv_iconst (v := 1) hx hb dX5_add_24 (by decide) ?_
    refine lv_iadd hx hb dX5_add_25 ?_
    refine lv_topi (fun x25 ex25 => ?_)
    have hw := hw x25 ex25
    refine w_pI (C := RX5) (T := TX5) (N := 7) (ci := 5) hx hb hts in5 tyX5 tyX5_ok nmX5 hown hK hP hS 1 ho.1 ho rfl (by decide) (hts _ mf_X5_19) rfl (ty := .int) (by decide +kernel) rfl rfl dX5_add_26 (fun v3 H locs hv3 hP hz hS => ?_)
    have hw := hw v3 hv3
    exact hret _ _ _ _ _ dX5_add_29 hw hP hS
